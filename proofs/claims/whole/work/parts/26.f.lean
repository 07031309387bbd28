/-! M.jumped -/
theorem e140_0 : decode (j_co 140) 0 = .ok (.aload_n 0, 1) := by decide +kernel
set_option maxRecDepth 20000 in
theorem w140_0 {d : Nat} {st : List Value} {Q : Option Value × jW → Prop} {w : jW} {a1 a2 : Option Value} {x : Nat} : Wp d 140 0 [some (.ref x), a1, a2] (st) w Q = Wp d 140 1 [some (.ref x), a1, a2] (.ref x :: st) w Q := Wp.loc e140_0 rfl rfl rfl
theorem e140_1 : decode (j_co 140) 1 = .ok (.aload_n 0, 1) := by decide +kernel
set_option maxRecDepth 20000 in
theorem w140_1 {d : Nat} {st : List Value} {Q : Option Value × jW → Prop} {w : jW} {a1 a2 : Option Value} {x : Nat} : Wp d 140 1 [some (.ref x), a1, a2] (st) w Q = Wp d 140 2 [some (.ref x), a1, a2] (.ref x :: st) w Q := Wp.loc e140_1 rfl rfl rfl
theorem e140_2 : decode (j_co 140) 2 = .ok (.getfield 22, 3) := by decide +kernel
set_option maxRecDepth 20000 in
theorem w140_2 {d : Nat} {st : List Value} {Q : Option Value × jW → Prop} {ls : jL} {xs : List Value} {I : fI} {L : fL} {o : Nat} (ht : f_tg o = 11) : Wp d 140 2 ls (.ref o :: st) (f_W xs I L) Q = Wp d 140 5 ls (.ref (f_rf o 6) :: st) (f_W xs I L) Q := Wp.getR (ci := 11) (k := 6) e140_2 rfl (by decide) (by decide) rfl ht
theorem e140_5 : decode (j_co 140) 5 = .ok (.bipush 6, 2) := by decide +kernel
set_option maxRecDepth 20000 in
theorem w140_5 {d : Nat} {st : List Value} {Q : Option Value × jW → Prop} {ls : jL} {w : jW} : Wp d 140 5 ls (st) w Q = Wp d 140 7 ls (.int (nI 6) :: st) w Q := Wp.alu e140_5 rfl rfl
theorem e140_7 : decode (j_co 140) 7 = .ok (.iload_n 1, 1) := by decide +kernel
set_option maxRecDepth 20000 in
theorem w140_7 {d : Nat} {st : List Value} {Q : Option Value × jW → Prop} {w : jW} {a0 a2 : Option Value} {x : Int32} : Wp d 140 7 [a0, some (.int x), a2] (st) w Q = Wp d 140 8 [a0, some (.int x), a2] (.int x :: st) w Q := Wp.loc e140_7 rfl rfl rfl
theorem e140_8 : decode (j_co 140) 8 = .ok (.imul, 1) := by decide +kernel
set_option maxRecDepth 20000 in
theorem w140_8 {d : Nat} {st : List Value} {Q : Option Value × jW → Prop} {ls : jL} {w : jW} {a b : Int32} : Wp d 140 8 ls (.int b :: .int a :: st) w Q = Wp d 140 9 ls (.int (a * b) :: st) w Q := Wp.alu e140_8 rfl rfl
theorem e140_9 : decode (j_co 140) 9 = .ok (.invokevirtual 128, 3) := by decide +kernel
set_option maxRecDepth 20000 in
theorem w140_9 {d : Nat} {st : List Value} {Q : Option Value × jW → Prop} {ls : jL} {xs : List Value} {I : fI} {L : fL} {r : Nat} {x0 : Nat} {x1 : Int32} (hs : j_sumc st ≤ 8) (ht : f_tg r = 11) : Wp (d + 1) 140 9 ls (.int x1 :: .ref x0 :: .ref r :: st) (f_W xs I L) Q = Wp d 131 0 [some (.ref r), some (.ref x0), some (.int x1), none, none, none] [] (f_W xs I L) (fun r1 => Wp (d + 1) 140 12 ls (r1.1.toList ++ st) r1.2 Q) := Wp.cv (y' := 131) (as := [.ref x0, .int x1]) e140_9 rfl (by decide) rfl (show 3 ≤ 6 by decide) (by decide) hs ht
theorem e140_12 : decode (j_co 140) 12 = .ok (.aload_n 0, 1) := by decide +kernel
set_option maxRecDepth 20000 in
theorem w140_12 {d : Nat} {st : List Value} {Q : Option Value × jW → Prop} {w : jW} {a1 a2 : Option Value} {x : Nat} : Wp d 140 12 [some (.ref x), a1, a2] (st) w Q = Wp d 140 13 [some (.ref x), a1, a2] (.ref x :: st) w Q := Wp.loc e140_12 rfl rfl rfl
theorem e140_13 : decode (j_co 140) 13 = .ok (.invokevirtual 131, 3) := by decide +kernel
set_option maxRecDepth 20000 in
theorem w140_13 {d : Nat} {st : List Value} {Q : Option Value × jW → Prop} {ls : jL} {xs : List Value} {I : fI} {L : fL} {r : Nat} (hs : j_sumc st ≤ 8) (ht : f_tg r = 11) : Wp (d + 1) 140 13 ls (.ref r :: st) (f_W xs I L) Q = Wp d 132 0 [some (.ref r)] [] (f_W xs I L) (fun r1 => Wp (d + 1) 140 16 ls (r1.1.toList ++ st) r1.2 Q) := Wp.cv (y' := 132) (as := []) e140_13 rfl (by decide) rfl (show 1 ≤ 1 by decide) (by decide) hs ht
theorem e140_16 : decode (j_co 140) 16 = .ok (.ifCond .eq 5, 3) := by decide +kernel
set_option maxRecDepth 20000 in
theorem w140_16 {d : Nat} {st : List Value} {Q : Option Value × jW → Prop} {ls : jL} {w : jW} {a : Int32} : Wp d 140 16 ls (.int a :: st) w Q = ((a = nI 0 → Wp d 140 21 ls st w Q) ∧ (¬ a = nI 0 → Wp d 140 19 ls st w Q)) := Wp.if2 (c := a = nI 0) (off := 5) e140_16 rfl rfl rfl rfl rfl
theorem e140_19 : decode (j_co 140) 19 = .ok (.iconst 0, 1) := by decide +kernel
set_option maxRecDepth 20000 in
theorem w140_19 {d : Nat} {st : List Value} {Q : Option Value × jW → Prop} {ls : jL} {w : jW} : Wp d 140 19 ls (st) w Q = Wp d 140 20 ls (.int (nI 0) :: st) w Q := Wp.alu e140_19 rfl rfl
theorem e140_20 : decode (j_co 140) 20 = .ok (.ireturn, 1) := by decide +kernel
set_option maxRecDepth 20000 in
theorem w140_20 {d : Nat} {Q : Option Value × jW → Prop} {ls : jL} {w : jW} {x : Int32} (hx : x = 0 ∨ x = 1) : Wp d 140 20 ls [.int x] w Q = Q (some (.int x), w) := Wp.ret e140_20 (by rcases hx with rfl | rfl <;> rfl)
theorem e140_21 : decode (j_co 140) 21 = .ok (.iconst 0, 1) := by decide +kernel
set_option maxRecDepth 20000 in
theorem w140_21 {d : Nat} {st : List Value} {Q : Option Value × jW → Prop} {ls : jL} {w : jW} : Wp d 140 21 ls (st) w Q = Wp d 140 22 ls (.int (nI 0) :: st) w Q := Wp.alu e140_21 rfl rfl
theorem e140_22 : decode (j_co 140) 22 = .ok (.istore_n 2, 1) := by decide +kernel
set_option maxRecDepth 20000 in
theorem w140_22 {d : Nat} {st : List Value} {Q : Option Value × jW → Prop} {w : jW} {a0 a1 a2 : Option Value} {x : Int32} (h : j_cp a1) : Wp d 140 22 [a0, a1, a2] (.int x :: st) w Q = Wp d 140 23 [a0, a1, some (.int x)] (st) w Q := Wp.loc e140_22 rfl rfl (v_stI (ls := [a0, a1, a2]) (k := 2) (show 2 < 3 by decide) h)
theorem e140_23 : decode (j_co 140) 23 = .ok (.iload_n 2, 1) := by decide +kernel
set_option maxRecDepth 20000 in
theorem w140_23 {d : Nat} {st : List Value} {Q : Option Value × jW → Prop} {w : jW} {a0 a1 : Option Value} {x : Int32} : Wp d 140 23 [a0, a1, some (.int x)] (st) w Q = Wp d 140 24 [a0, a1, some (.int x)] (.int x :: st) w Q := Wp.loc e140_23 rfl rfl rfl
theorem e140_24 : decode (j_co 140) 24 = .ok (.iconst 3, 1) := by decide +kernel
set_option maxRecDepth 20000 in
theorem w140_24 {d : Nat} {st : List Value} {Q : Option Value × jW → Prop} {ls : jL} {w : jW} : Wp d 140 24 ls (st) w Q = Wp d 140 25 ls (.int (nI 3) :: st) w Q := Wp.alu e140_24 rfl rfl
theorem e140_25 : decode (j_co 140) 25 = .ok (.if_icmp .ge 68, 3) := by decide +kernel
set_option maxRecDepth 20000 in
theorem w140_25 {d : Nat} {st : List Value} {Q : Option Value × jW → Prop} {ls : jL} {w : jW} {a b : Int32} : Wp d 140 25 ls (.int b :: .int a :: st) w Q = ((b ≤ a → Wp d 140 93 ls st w Q) ∧ (¬ b ≤ a → Wp d 140 28 ls st w Q)) := Wp.if2 (c := b ≤ a) (off := 68) e140_25 rfl rfl rfl rfl rfl
theorem e140_28 : decode (j_co 140) 28 = .ok (.aload_n 0, 1) := by decide +kernel
set_option maxRecDepth 20000 in
theorem w140_28 {d : Nat} {st : List Value} {Q : Option Value × jW → Prop} {w : jW} {a1 a2 : Option Value} {x : Nat} : Wp d 140 28 [some (.ref x), a1, a2] (st) w Q = Wp d 140 29 [some (.ref x), a1, a2] (.ref x :: st) w Q := Wp.loc e140_28 rfl rfl rfl
theorem e140_29 : decode (j_co 140) 29 = .ok (.getfield 28, 3) := by decide +kernel
set_option maxRecDepth 20000 in
theorem w140_29 {d : Nat} {st : List Value} {Q : Option Value × jW → Prop} {ls : jL} {xs : List Value} {I : fI} {L : fL} {o : Nat} (ht : f_tg o = 11) : Wp d 140 29 ls (.ref o :: st) (f_W xs I L) Q = Wp d 140 32 ls (.ref (f_rf o 8) :: st) (f_W xs I L) Q := Wp.getR (ci := 11) (k := 8) e140_29 rfl (by decide) (by decide) rfl ht
theorem e140_32 : decode (j_co 140) 32 = .ok (.iconst 3, 1) := by decide +kernel
set_option maxRecDepth 20000 in
theorem w140_32 {d : Nat} {st : List Value} {Q : Option Value × jW → Prop} {ls : jL} {w : jW} : Wp d 140 32 ls (st) w Q = Wp d 140 33 ls (.int (nI 3) :: st) w Q := Wp.alu e140_32 rfl rfl
theorem e140_33 : decode (j_co 140) 33 = .ok (.iload_n 1, 1) := by decide +kernel
set_option maxRecDepth 20000 in
theorem w140_33 {d : Nat} {st : List Value} {Q : Option Value × jW → Prop} {w : jW} {a0 a2 : Option Value} {x : Int32} : Wp d 140 33 [a0, some (.int x), a2] (st) w Q = Wp d 140 34 [a0, some (.int x), a2] (.int x :: st) w Q := Wp.loc e140_33 rfl rfl rfl
theorem e140_34 : decode (j_co 140) 34 = .ok (.imul, 1) := by decide +kernel
set_option maxRecDepth 20000 in
theorem w140_34 {d : Nat} {st : List Value} {Q : Option Value × jW → Prop} {ls : jL} {w : jW} {a b : Int32} : Wp d 140 34 ls (.int b :: .int a :: st) w Q = Wp d 140 35 ls (.int (a * b) :: st) w Q := Wp.alu e140_34 rfl rfl
theorem e140_35 : decode (j_co 140) 35 = .ok (.iload_n 2, 1) := by decide +kernel
set_option maxRecDepth 20000 in
theorem w140_35 {d : Nat} {st : List Value} {Q : Option Value × jW → Prop} {w : jW} {a0 a1 : Option Value} {x : Int32} : Wp d 140 35 [a0, a1, some (.int x)] (st) w Q = Wp d 140 36 [a0, a1, some (.int x)] (.int x :: st) w Q := Wp.loc e140_35 rfl rfl rfl
theorem e140_36 : decode (j_co 140) 36 = .ok (.iadd, 1) := by decide +kernel
set_option maxRecDepth 20000 in
theorem w140_36 {d : Nat} {st : List Value} {Q : Option Value × jW → Prop} {ls : jL} {w : jW} {a b : Int32} : Wp d 140 36 ls (.int b :: .int a :: st) w Q = Wp d 140 37 ls (.int (a + b) :: st) w Q := Wp.alu e140_36 rfl rfl
theorem e140_37 : decode (j_co 140) 37 = .ok (.baload, 1) := by decide +kernel
set_option maxRecDepth 20000 in
theorem w140_37 {d : Nat} {st : List Value} {Q : Option Value × jW → Prop} {ls : jL} {xs : List Value} {I : fI} {L : fL} {o : Nat} {i : Int32} (ht : f_tg o = 101) (hi : ¬ (i < 0 ∨ f_ln o ≤ i.toNatClampNeg)) : Wp d 140 37 ls (.int i :: .ref o :: st) (f_W xs I L) Q = Wp d 140 38 ls (.int (I o i.toNatClampNeg) :: st) (f_W xs I L) Q := Wp.zald e140_37 ht hi
theorem e140_38 : decode (j_co 140) 38 = .ok (.ifCond .eq 49, 3) := by decide +kernel
set_option maxRecDepth 20000 in
theorem w140_38 {d : Nat} {st : List Value} {Q : Option Value × jW → Prop} {ls : jL} {w : jW} {a : Int32} : Wp d 140 38 ls (.int a :: st) w Q = ((a = nI 0 → Wp d 140 87 ls st w Q) ∧ (¬ a = nI 0 → Wp d 140 41 ls st w Q)) := Wp.if2 (c := a = nI 0) (off := 49) e140_38 rfl rfl rfl rfl rfl
theorem e140_41 : decode (j_co 140) 41 = .ok (.aload_n 0, 1) := by decide +kernel
set_option maxRecDepth 20000 in
theorem w140_41 {d : Nat} {st : List Value} {Q : Option Value × jW → Prop} {w : jW} {a1 a2 : Option Value} {x : Nat} : Wp d 140 41 [some (.ref x), a1, a2] (st) w Q = Wp d 140 42 [some (.ref x), a1, a2] (.ref x :: st) w Q := Wp.loc e140_41 rfl rfl rfl
theorem e140_42 : decode (j_co 140) 42 = .ok (.getfield 48, 3) := by decide +kernel
set_option maxRecDepth 20000 in
theorem w140_42 {d : Nat} {st : List Value} {Q : Option Value × jW → Prop} {ls : jL} {xs : List Value} {I : fI} {L : fL} {o : Nat} (ht : f_tg o = 11) : Wp d 140 42 ls (.ref o :: st) (f_W xs I L) Q = Wp d 140 45 ls (.ref (f_rf o 15) :: st) (f_W xs I L) Q := Wp.getR (ci := 11) (k := 15) e140_42 rfl (by decide) (by decide) rfl ht
theorem e140_45 : decode (j_co 140) 45 = .ok (.iconst 2, 1) := by decide +kernel
set_option maxRecDepth 20000 in
theorem w140_45 {d : Nat} {st : List Value} {Q : Option Value × jW → Prop} {ls : jL} {w : jW} : Wp d 140 45 ls (st) w Q = Wp d 140 46 ls (.int (nI 2) :: st) w Q := Wp.alu e140_45 rfl rfl
theorem e140_46 : decode (j_co 140) 46 = .ok (.iload_n 2, 1) := by decide +kernel
set_option maxRecDepth 20000 in
theorem w140_46 {d : Nat} {st : List Value} {Q : Option Value × jW → Prop} {w : jW} {a0 a1 : Option Value} {x : Int32} : Wp d 140 46 [a0, a1, some (.int x)] (st) w Q = Wp d 140 47 [a0, a1, some (.int x)] (.int x :: st) w Q := Wp.loc e140_46 rfl rfl rfl
theorem e140_47 : decode (j_co 140) 47 = .ok (.imul, 1) := by decide +kernel
set_option maxRecDepth 20000 in
theorem w140_47 {d : Nat} {st : List Value} {Q : Option Value × jW → Prop} {ls : jL} {w : jW} {a b : Int32} : Wp d 140 47 ls (.int b :: .int a :: st) w Q = Wp d 140 48 ls (.int (a * b) :: st) w Q := Wp.alu e140_47 rfl rfl
theorem e140_48 : decode (j_co 140) 48 = .ok (.aload_n 0, 1) := by decide +kernel
set_option maxRecDepth 20000 in
theorem w140_48 {d : Nat} {st : List Value} {Q : Option Value × jW → Prop} {w : jW} {a1 a2 : Option Value} {x : Nat} : Wp d 140 48 [some (.ref x), a1, a2] (st) w Q = Wp d 140 49 [some (.ref x), a1, a2] (.ref x :: st) w Q := Wp.loc e140_48 rfl rfl rfl
theorem e140_49 : decode (j_co 140) 49 = .ok (.getfield 25, 3) := by decide +kernel
set_option maxRecDepth 20000 in
theorem w140_49 {d : Nat} {st : List Value} {Q : Option Value × jW → Prop} {ls : jL} {xs : List Value} {I : fI} {L : fL} {o : Nat} (ht : f_tg o = 11) : Wp d 140 49 ls (.ref o :: st) (f_W xs I L) Q = Wp d 140 52 ls (.ref (f_rf o 7) :: st) (f_W xs I L) Q := Wp.getR (ci := 11) (k := 7) e140_49 rfl (by decide) (by decide) rfl ht
theorem e140_52 : decode (j_co 140) 52 = .ok (.bipush 6, 2) := by decide +kernel
set_option maxRecDepth 20000 in
theorem w140_52 {d : Nat} {st : List Value} {Q : Option Value × jW → Prop} {ls : jL} {w : jW} : Wp d 140 52 ls (st) w Q = Wp d 140 54 ls (.int (nI 6) :: st) w Q := Wp.alu e140_52 rfl rfl
theorem e140_54 : decode (j_co 140) 54 = .ok (.iload_n 1, 1) := by decide +kernel
set_option maxRecDepth 20000 in
theorem w140_54 {d : Nat} {st : List Value} {Q : Option Value × jW → Prop} {w : jW} {a0 a2 : Option Value} {x : Int32} : Wp d 140 54 [a0, some (.int x), a2] (st) w Q = Wp d 140 55 [a0, some (.int x), a2] (.int x :: st) w Q := Wp.loc e140_54 rfl rfl rfl
theorem e140_55 : decode (j_co 140) 55 = .ok (.imul, 1) := by decide +kernel
set_option maxRecDepth 20000 in
theorem w140_55 {d : Nat} {st : List Value} {Q : Option Value × jW → Prop} {ls : jL} {w : jW} {a b : Int32} : Wp d 140 55 ls (.int b :: .int a :: st) w Q = Wp d 140 56 ls (.int (a * b) :: st) w Q := Wp.alu e140_55 rfl rfl
theorem e140_56 : decode (j_co 140) 56 = .ok (.iconst 2, 1) := by decide +kernel
set_option maxRecDepth 20000 in
theorem w140_56 {d : Nat} {st : List Value} {Q : Option Value × jW → Prop} {ls : jL} {w : jW} : Wp d 140 56 ls (st) w Q = Wp d 140 57 ls (.int (nI 2) :: st) w Q := Wp.alu e140_56 rfl rfl
theorem e140_57 : decode (j_co 140) 57 = .ok (.iload_n 2, 1) := by decide +kernel
set_option maxRecDepth 20000 in
theorem w140_57 {d : Nat} {st : List Value} {Q : Option Value × jW → Prop} {w : jW} {a0 a1 : Option Value} {x : Int32} : Wp d 140 57 [a0, a1, some (.int x)] (st) w Q = Wp d 140 58 [a0, a1, some (.int x)] (.int x :: st) w Q := Wp.loc e140_57 rfl rfl rfl
theorem e140_58 : decode (j_co 140) 58 = .ok (.imul, 1) := by decide +kernel
set_option maxRecDepth 20000 in
theorem w140_58 {d : Nat} {st : List Value} {Q : Option Value × jW → Prop} {ls : jL} {w : jW} {a b : Int32} : Wp d 140 58 ls (.int b :: .int a :: st) w Q = Wp d 140 59 ls (.int (a * b) :: st) w Q := Wp.alu e140_58 rfl rfl
theorem e140_59 : decode (j_co 140) 59 = .ok (.iadd, 1) := by decide +kernel
set_option maxRecDepth 20000 in
theorem w140_59 {d : Nat} {st : List Value} {Q : Option Value × jW → Prop} {ls : jL} {w : jW} {a b : Int32} : Wp d 140 59 ls (.int b :: .int a :: st) w Q = Wp d 140 60 ls (.int (a + b) :: st) w Q := Wp.alu e140_59 rfl rfl
theorem e140_60 : decode (j_co 140) 60 = .ok (.iaload, 1) := by decide +kernel
set_option maxRecDepth 20000 in
theorem w140_60 {d : Nat} {st : List Value} {Q : Option Value × jW → Prop} {ls : jL} {xs : List Value} {I : fI} {L : fL} {o : Nat} {i : Int32} (ht : f_tg o = 100) (hi : ¬ (i < 0 ∨ f_ln o ≤ i.toNatClampNeg)) : Wp d 140 60 ls (.int i :: .ref o :: st) (f_W xs I L) Q = Wp d 140 61 ls (.int (I o i.toNatClampNeg) :: st) (f_W xs I L) Q := Wp.iald e140_60 ht hi
theorem e140_61 : decode (j_co 140) 61 = .ok (.iastore, 1) := by decide +kernel
set_option maxRecDepth 20000 in
theorem w140_61 {d : Nat} {st : List Value} {Q : Option Value × jW → Prop} {ls : jL} {xs : List Value} {I : fI} {L : fL} {o : Nat} {i x : Int32} (ht : f_tg o = 100) (hi : ¬ (i < 0 ∨ f_ln o ≤ i.toNatClampNeg)) : Wp d 140 61 ls (.int x :: .int i :: .ref o :: st) (f_W xs I L) Q = Wp d 140 62 ls (st) (f_W xs (f_up I o i.toNatClampNeg x) L) Q := Wp.iast e140_61 ht hi
theorem e140_62 : decode (j_co 140) 62 = .ok (.aload_n 0, 1) := by decide +kernel
set_option maxRecDepth 20000 in
theorem w140_62 {d : Nat} {st : List Value} {Q : Option Value × jW → Prop} {w : jW} {a1 a2 : Option Value} {x : Nat} : Wp d 140 62 [some (.ref x), a1, a2] (st) w Q = Wp d 140 63 [some (.ref x), a1, a2] (.ref x :: st) w Q := Wp.loc e140_62 rfl rfl rfl
theorem e140_63 : decode (j_co 140) 63 = .ok (.getfield 48, 3) := by decide +kernel
set_option maxRecDepth 20000 in
theorem w140_63 {d : Nat} {st : List Value} {Q : Option Value × jW → Prop} {ls : jL} {xs : List Value} {I : fI} {L : fL} {o : Nat} (ht : f_tg o = 11) : Wp d 140 63 ls (.ref o :: st) (f_W xs I L) Q = Wp d 140 66 ls (.ref (f_rf o 15) :: st) (f_W xs I L) Q := Wp.getR (ci := 11) (k := 15) e140_63 rfl (by decide) (by decide) rfl ht
theorem e140_66 : decode (j_co 140) 66 = .ok (.iconst 2, 1) := by decide +kernel
set_option maxRecDepth 20000 in
theorem w140_66 {d : Nat} {st : List Value} {Q : Option Value × jW → Prop} {ls : jL} {w : jW} : Wp d 140 66 ls (st) w Q = Wp d 140 67 ls (.int (nI 2) :: st) w Q := Wp.alu e140_66 rfl rfl
theorem e140_67 : decode (j_co 140) 67 = .ok (.iload_n 2, 1) := by decide +kernel
set_option maxRecDepth 20000 in
theorem w140_67 {d : Nat} {st : List Value} {Q : Option Value × jW → Prop} {w : jW} {a0 a1 : Option Value} {x : Int32} : Wp d 140 67 [a0, a1, some (.int x)] (st) w Q = Wp d 140 68 [a0, a1, some (.int x)] (.int x :: st) w Q := Wp.loc e140_67 rfl rfl rfl
theorem e140_68 : decode (j_co 140) 68 = .ok (.imul, 1) := by decide +kernel
set_option maxRecDepth 20000 in
theorem w140_68 {d : Nat} {st : List Value} {Q : Option Value × jW → Prop} {ls : jL} {w : jW} {a b : Int32} : Wp d 140 68 ls (.int b :: .int a :: st) w Q = Wp d 140 69 ls (.int (a * b) :: st) w Q := Wp.alu e140_68 rfl rfl
theorem e140_69 : decode (j_co 140) 69 = .ok (.iconst 1, 1) := by decide +kernel
set_option maxRecDepth 20000 in
theorem w140_69 {d : Nat} {st : List Value} {Q : Option Value × jW → Prop} {ls : jL} {w : jW} : Wp d 140 69 ls (st) w Q = Wp d 140 70 ls (.int (nI 1) :: st) w Q := Wp.alu e140_69 rfl rfl
theorem e140_70 : decode (j_co 140) 70 = .ok (.iadd, 1) := by decide +kernel
set_option maxRecDepth 20000 in
theorem w140_70 {d : Nat} {st : List Value} {Q : Option Value × jW → Prop} {ls : jL} {w : jW} {a b : Int32} : Wp d 140 70 ls (.int b :: .int a :: st) w Q = Wp d 140 71 ls (.int (a + b) :: st) w Q := Wp.alu e140_70 rfl rfl
theorem e140_71 : decode (j_co 140) 71 = .ok (.aload_n 0, 1) := by decide +kernel
set_option maxRecDepth 20000 in
theorem w140_71 {d : Nat} {st : List Value} {Q : Option Value × jW → Prop} {w : jW} {a1 a2 : Option Value} {x : Nat} : Wp d 140 71 [some (.ref x), a1, a2] (st) w Q = Wp d 140 72 [some (.ref x), a1, a2] (.ref x :: st) w Q := Wp.loc e140_71 rfl rfl rfl
theorem e140_72 : decode (j_co 140) 72 = .ok (.getfield 25, 3) := by decide +kernel
set_option maxRecDepth 20000 in
theorem w140_72 {d : Nat} {st : List Value} {Q : Option Value × jW → Prop} {ls : jL} {xs : List Value} {I : fI} {L : fL} {o : Nat} (ht : f_tg o = 11) : Wp d 140 72 ls (.ref o :: st) (f_W xs I L) Q = Wp d 140 75 ls (.ref (f_rf o 7) :: st) (f_W xs I L) Q := Wp.getR (ci := 11) (k := 7) e140_72 rfl (by decide) (by decide) rfl ht
theorem e140_75 : decode (j_co 140) 75 = .ok (.bipush 6, 2) := by decide +kernel
set_option maxRecDepth 20000 in
theorem w140_75 {d : Nat} {st : List Value} {Q : Option Value × jW → Prop} {ls : jL} {w : jW} : Wp d 140 75 ls (st) w Q = Wp d 140 77 ls (.int (nI 6) :: st) w Q := Wp.alu e140_75 rfl rfl
theorem e140_77 : decode (j_co 140) 77 = .ok (.iload_n 1, 1) := by decide +kernel
set_option maxRecDepth 20000 in
theorem w140_77 {d : Nat} {st : List Value} {Q : Option Value × jW → Prop} {w : jW} {a0 a2 : Option Value} {x : Int32} : Wp d 140 77 [a0, some (.int x), a2] (st) w Q = Wp d 140 78 [a0, some (.int x), a2] (.int x :: st) w Q := Wp.loc e140_77 rfl rfl rfl
theorem e140_78 : decode (j_co 140) 78 = .ok (.imul, 1) := by decide +kernel
set_option maxRecDepth 20000 in
theorem w140_78 {d : Nat} {st : List Value} {Q : Option Value × jW → Prop} {ls : jL} {w : jW} {a b : Int32} : Wp d 140 78 ls (.int b :: .int a :: st) w Q = Wp d 140 79 ls (.int (a * b) :: st) w Q := Wp.alu e140_78 rfl rfl
theorem e140_79 : decode (j_co 140) 79 = .ok (.iconst 2, 1) := by decide +kernel
set_option maxRecDepth 20000 in
theorem w140_79 {d : Nat} {st : List Value} {Q : Option Value × jW → Prop} {ls : jL} {w : jW} : Wp d 140 79 ls (st) w Q = Wp d 140 80 ls (.int (nI 2) :: st) w Q := Wp.alu e140_79 rfl rfl
theorem e140_80 : decode (j_co 140) 80 = .ok (.iload_n 2, 1) := by decide +kernel
set_option maxRecDepth 20000 in
theorem w140_80 {d : Nat} {st : List Value} {Q : Option Value × jW → Prop} {w : jW} {a0 a1 : Option Value} {x : Int32} : Wp d 140 80 [a0, a1, some (.int x)] (st) w Q = Wp d 140 81 [a0, a1, some (.int x)] (.int x :: st) w Q := Wp.loc e140_80 rfl rfl rfl
theorem e140_81 : decode (j_co 140) 81 = .ok (.imul, 1) := by decide +kernel
set_option maxRecDepth 20000 in
theorem w140_81 {d : Nat} {st : List Value} {Q : Option Value × jW → Prop} {ls : jL} {w : jW} {a b : Int32} : Wp d 140 81 ls (.int b :: .int a :: st) w Q = Wp d 140 82 ls (.int (a * b) :: st) w Q := Wp.alu e140_81 rfl rfl
theorem e140_82 : decode (j_co 140) 82 = .ok (.iadd, 1) := by decide +kernel
set_option maxRecDepth 20000 in
theorem w140_82 {d : Nat} {st : List Value} {Q : Option Value × jW → Prop} {ls : jL} {w : jW} {a b : Int32} : Wp d 140 82 ls (.int b :: .int a :: st) w Q = Wp d 140 83 ls (.int (a + b) :: st) w Q := Wp.alu e140_82 rfl rfl
theorem e140_83 : decode (j_co 140) 83 = .ok (.iconst 1, 1) := by decide +kernel
set_option maxRecDepth 20000 in
theorem w140_83 {d : Nat} {st : List Value} {Q : Option Value × jW → Prop} {ls : jL} {w : jW} : Wp d 140 83 ls (st) w Q = Wp d 140 84 ls (.int (nI 1) :: st) w Q := Wp.alu e140_83 rfl rfl
theorem e140_84 : decode (j_co 140) 84 = .ok (.iadd, 1) := by decide +kernel
set_option maxRecDepth 20000 in
theorem w140_84 {d : Nat} {st : List Value} {Q : Option Value × jW → Prop} {ls : jL} {w : jW} {a b : Int32} : Wp d 140 84 ls (.int b :: .int a :: st) w Q = Wp d 140 85 ls (.int (a + b) :: st) w Q := Wp.alu e140_84 rfl rfl
theorem e140_85 : decode (j_co 140) 85 = .ok (.iaload, 1) := by decide +kernel
set_option maxRecDepth 20000 in
theorem w140_85 {d : Nat} {st : List Value} {Q : Option Value × jW → Prop} {ls : jL} {xs : List Value} {I : fI} {L : fL} {o : Nat} {i : Int32} (ht : f_tg o = 100) (hi : ¬ (i < 0 ∨ f_ln o ≤ i.toNatClampNeg)) : Wp d 140 85 ls (.int i :: .ref o :: st) (f_W xs I L) Q = Wp d 140 86 ls (.int (I o i.toNatClampNeg) :: st) (f_W xs I L) Q := Wp.iald e140_85 ht hi
theorem e140_86 : decode (j_co 140) 86 = .ok (.iastore, 1) := by decide +kernel
set_option maxRecDepth 20000 in
theorem w140_86 {d : Nat} {st : List Value} {Q : Option Value × jW → Prop} {ls : jL} {xs : List Value} {I : fI} {L : fL} {o : Nat} {i x : Int32} (ht : f_tg o = 100) (hi : ¬ (i < 0 ∨ f_ln o ≤ i.toNatClampNeg)) : Wp d 140 86 ls (.int x :: .int i :: .ref o :: st) (f_W xs I L) Q = Wp d 140 87 ls (st) (f_W xs (f_up I o i.toNatClampNeg x) L) Q := Wp.iast e140_86 ht hi
theorem e140_87 : decode (j_co 140) 87 = .ok (.iinc 2 1, 3) := by decide +kernel
set_option maxRecDepth 20000 in
theorem w140_87 {d : Nat} {st : List Value} {Q : Option Value × jW → Prop} {w : jW} {a0 a1 : Option Value} {x : Int32} (h : j_cp a1) : Wp d 140 87 [a0, a1, some (.int x)] (st) w Q = Wp d 140 90 [a0, a1, some (.int (x + nI 1))] (st) w Q := Wp.loc e140_87 rfl rfl (v_inc (ls := [a0, a1, some (.int x)]) (k := 2) (n := 1) rfl (show 2 < 3 by decide) h)
theorem e140_90 : decode (j_co 140) 90 = .ok (.goto (-67), 3) := by decide +kernel
set_option maxRecDepth 20000 in
theorem w140_90 {d : Nat} {st : List Value} {Q : Option Value × jW → Prop} {ls : jL} {w : jW} : Wp d 140 90 ls (st) w Q = Wp d 140 23 ls (st) w Q := Wp.br e140_90 (Or.inl rfl) rfl rfl rfl rfl
theorem e140_93 : decode (j_co 140) 93 = .ok (.aload_n 0, 1) := by decide +kernel
set_option maxRecDepth 20000 in
theorem w140_93 {d : Nat} {st : List Value} {Q : Option Value × jW → Prop} {w : jW} {a1 a2 : Option Value} {x : Nat} : Wp d 140 93 [some (.ref x), a1, a2] (st) w Q = Wp d 140 94 [some (.ref x), a1, a2] (.ref x :: st) w Q := Wp.loc e140_93 rfl rfl rfl
theorem e140_94 : decode (j_co 140) 94 = .ok (.aload_n 0, 1) := by decide +kernel
set_option maxRecDepth 20000 in
theorem w140_94 {d : Nat} {st : List Value} {Q : Option Value × jW → Prop} {w : jW} {a1 a2 : Option Value} {x : Nat} : Wp d 140 94 [some (.ref x), a1, a2] (st) w Q = Wp d 140 95 [some (.ref x), a1, a2] (.ref x :: st) w Q := Wp.loc e140_94 rfl rfl rfl
theorem e140_95 : decode (j_co 140) 95 = .ok (.getfield 7, 3) := by decide +kernel
set_option maxRecDepth 20000 in
theorem w140_95 {d : Nat} {st : List Value} {Q : Option Value × jW → Prop} {ls : jL} {xs : List Value} {I : fI} {L : fL} {o : Nat} (ht : f_tg o = 11) : Wp d 140 95 ls (.ref o :: st) (f_W xs I L) Q = Wp d 140 98 ls (.ref (f_rf o 1) :: st) (f_W xs I L) Q := Wp.getR (ci := 11) (k := 1) e140_95 rfl (by decide) (by decide) rfl ht
theorem e140_98 : decode (j_co 140) 98 = .ok (.bipush 6, 2) := by decide +kernel
set_option maxRecDepth 20000 in
theorem w140_98 {d : Nat} {st : List Value} {Q : Option Value × jW → Prop} {ls : jL} {w : jW} : Wp d 140 98 ls (st) w Q = Wp d 140 100 ls (.int (nI 6) :: st) w Q := Wp.alu e140_98 rfl rfl
theorem e140_100 : decode (j_co 140) 100 = .ok (.aload_n 0, 1) := by decide +kernel
set_option maxRecDepth 20000 in
theorem w140_100 {d : Nat} {st : List Value} {Q : Option Value × jW → Prop} {w : jW} {a1 a2 : Option Value} {x : Nat} : Wp d 140 100 [some (.ref x), a1, a2] (st) w Q = Wp d 140 101 [some (.ref x), a1, a2] (.ref x :: st) w Q := Wp.loc e140_100 rfl rfl rfl
theorem e140_101 : decode (j_co 140) 101 = .ok (.getfield 19, 3) := by decide +kernel
set_option maxRecDepth 20000 in
theorem w140_101 {d : Nat} {st : List Value} {Q : Option Value × jW → Prop} {ls : jL} {xs : List Value} {I : fI} {L : fL} {o : Nat} (ht : f_tg o = 11) : Wp d 140 101 ls (.ref o :: st) (f_W xs I L) Q = Wp d 140 104 ls (.ref (f_rf o 5) :: st) (f_W xs I L) Q := Wp.getR (ci := 11) (k := 5) e140_101 rfl (by decide) (by decide) rfl ht
theorem e140_104 : decode (j_co 140) 104 = .ok (.iload_n 1, 1) := by decide +kernel
set_option maxRecDepth 20000 in
theorem w140_104 {d : Nat} {st : List Value} {Q : Option Value × jW → Prop} {w : jW} {a0 a2 : Option Value} {x : Int32} : Wp d 140 104 [a0, some (.int x), a2] (st) w Q = Wp d 140 105 [a0, some (.int x), a2] (.int x :: st) w Q := Wp.loc e140_104 rfl rfl rfl
theorem e140_105 : decode (j_co 140) 105 = .ok (.iaload, 1) := by decide +kernel
set_option maxRecDepth 20000 in
theorem w140_105 {d : Nat} {st : List Value} {Q : Option Value × jW → Prop} {ls : jL} {xs : List Value} {I : fI} {L : fL} {o : Nat} {i : Int32} (ht : f_tg o = 100) (hi : ¬ (i < 0 ∨ f_ln o ≤ i.toNatClampNeg)) : Wp d 140 105 ls (.int i :: .ref o :: st) (f_W xs I L) Q = Wp d 140 106 ls (.int (I o i.toNatClampNeg) :: st) (f_W xs I L) Q := Wp.iald e140_105 ht hi
theorem e140_106 : decode (j_co 140) 106 = .ok (.imul, 1) := by decide +kernel
set_option maxRecDepth 20000 in
theorem w140_106 {d : Nat} {st : List Value} {Q : Option Value × jW → Prop} {ls : jL} {w : jW} {a b : Int32} : Wp d 140 106 ls (.int b :: .int a :: st) w Q = Wp d 140 107 ls (.int (a * b) :: st) w Q := Wp.alu e140_106 rfl rfl
theorem e140_107 : decode (j_co 140) 107 = .ok (.invokevirtual 128, 3) := by decide +kernel
set_option maxRecDepth 20000 in
theorem w140_107 {d : Nat} {st : List Value} {Q : Option Value × jW → Prop} {ls : jL} {xs : List Value} {I : fI} {L : fL} {r : Nat} {x0 : Nat} {x1 : Int32} (hs : j_sumc st ≤ 8) (ht : f_tg r = 11) : Wp (d + 1) 140 107 ls (.int x1 :: .ref x0 :: .ref r :: st) (f_W xs I L) Q = Wp d 131 0 [some (.ref r), some (.ref x0), some (.int x1), none, none, none] [] (f_W xs I L) (fun r1 => Wp (d + 1) 140 110 ls (r1.1.toList ++ st) r1.2 Q) := Wp.cv (y' := 131) (as := [.ref x0, .int x1]) e140_107 rfl (by decide) rfl (show 3 ≤ 6 by decide) (by decide) hs ht
theorem e140_110 : decode (j_co 140) 110 = .ok (.aload_n 0, 1) := by decide +kernel
set_option maxRecDepth 20000 in
theorem w140_110 {d : Nat} {st : List Value} {Q : Option Value × jW → Prop} {w : jW} {a1 a2 : Option Value} {x : Nat} : Wp d 140 110 [some (.ref x), a1, a2] (st) w Q = Wp d 140 111 [some (.ref x), a1, a2] (.ref x :: st) w Q := Wp.loc e140_110 rfl rfl rfl
theorem e140_111 : decode (j_co 140) 111 = .ok (.invokevirtual 131, 3) := by decide +kernel
set_option maxRecDepth 20000 in
theorem w140_111 {d : Nat} {st : List Value} {Q : Option Value × jW → Prop} {ls : jL} {xs : List Value} {I : fI} {L : fL} {r : Nat} (hs : j_sumc st ≤ 8) (ht : f_tg r = 11) : Wp (d + 1) 140 111 ls (.ref r :: st) (f_W xs I L) Q = Wp d 132 0 [some (.ref r)] [] (f_W xs I L) (fun r1 => Wp (d + 1) 140 114 ls (r1.1.toList ++ st) r1.2 Q) := Wp.cv (y' := 132) (as := []) e140_111 rfl (by decide) rfl (show 1 ≤ 1 by decide) (by decide) hs ht
theorem e140_114 : decode (j_co 140) 114 = .ok (.ifCond .ne 7, 3) := by decide +kernel
set_option maxRecDepth 20000 in
theorem w140_114 {d : Nat} {st : List Value} {Q : Option Value × jW → Prop} {ls : jL} {w : jW} {a : Int32} : Wp d 140 114 ls (.int a :: st) w Q = ((a = nI 0 → Wp d 140 117 ls st w Q) ∧ (¬ a = nI 0 → Wp d 140 121 ls st w Q)) := Wp.if2n (c := a = nI 0) (off := 7) e140_114 rfl rfl rfl rfl rfl
theorem e140_117 : decode (j_co 140) 117 = .ok (.iconst 1, 1) := by decide +kernel
set_option maxRecDepth 20000 in
theorem w140_117 {d : Nat} {st : List Value} {Q : Option Value × jW → Prop} {ls : jL} {w : jW} : Wp d 140 117 ls (st) w Q = Wp d 140 118 ls (.int (nI 1) :: st) w Q := Wp.alu e140_117 rfl rfl
theorem e140_118 : decode (j_co 140) 118 = .ok (.goto 4, 3) := by decide +kernel
set_option maxRecDepth 20000 in
theorem w140_118 {d : Nat} {st : List Value} {Q : Option Value × jW → Prop} {ls : jL} {w : jW} : Wp d 140 118 ls (st) w Q = Wp d 140 122 ls (st) w Q := Wp.br e140_118 (Or.inl rfl) rfl rfl rfl rfl
theorem e140_121 : decode (j_co 140) 121 = .ok (.iconst 0, 1) := by decide +kernel
set_option maxRecDepth 20000 in
theorem w140_121 {d : Nat} {st : List Value} {Q : Option Value × jW → Prop} {ls : jL} {w : jW} : Wp d 140 121 ls (st) w Q = Wp d 140 122 ls (.int (nI 0) :: st) w Q := Wp.alu e140_121 rfl rfl
theorem e140_122 : decode (j_co 140) 122 = .ok (.ireturn, 1) := by decide +kernel
set_option maxRecDepth 20000 in
theorem w140_122 {d : Nat} {Q : Option Value × jW → Prop} {ls : jL} {w : jW} {x : Int32} (hx : x = 0 ∨ x = 1) : Wp d 140 122 ls [.int x] w Q = Q (some (.int x), w) := Wp.ret e140_122 (by rcases hx with rfl | rfl <;> rfl)
/-! M.judged -/
theorem e141_0 : decode (j_co 141) 0 = .ok (.iconst 0, 1) := by decide +kernel
set_option maxRecDepth 20000 in
theorem w141_0 {d : Nat} {st : List Value} {Q : Option Value × jW → Prop} {ls : jL} {w : jW} : Wp d 141 0 ls (st) w Q = Wp d 141 1 ls (.int (nI 0) :: st) w Q := Wp.alu e141_0 rfl rfl
theorem e141_1 : decode (j_co 141) 1 = .ok (.istore_n 1, 1) := by decide +kernel
set_option maxRecDepth 20000 in
theorem w141_1 {d : Nat} {st : List Value} {Q : Option Value × jW → Prop} {w : jW} {a0 a1 a2 : Option Value} {x : Int32} (h : j_cp a0) : Wp d 141 1 [a0, a1, a2] (.int x :: st) w Q = Wp d 141 2 [a0, some (.int x), a2] (st) w Q := Wp.loc e141_1 rfl rfl (v_stI (ls := [a0, a1, a2]) (k := 1) (show 1 < 3 by decide) h)
theorem e141_2 : decode (j_co 141) 2 = .ok (.iconst 0, 1) := by decide +kernel
set_option maxRecDepth 20000 in
theorem w141_2 {d : Nat} {st : List Value} {Q : Option Value × jW → Prop} {ls : jL} {w : jW} : Wp d 141 2 ls (st) w Q = Wp d 141 3 ls (.int (nI 0) :: st) w Q := Wp.alu e141_2 rfl rfl
theorem e141_3 : decode (j_co 141) 3 = .ok (.istore_n 2, 1) := by decide +kernel
set_option maxRecDepth 20000 in
theorem w141_3 {d : Nat} {st : List Value} {Q : Option Value × jW → Prop} {w : jW} {a0 a1 a2 : Option Value} {x : Int32} (h : j_cp a1) : Wp d 141 3 [a0, a1, a2] (.int x :: st) w Q = Wp d 141 4 [a0, a1, some (.int x)] (st) w Q := Wp.loc e141_3 rfl rfl (v_stI (ls := [a0, a1, a2]) (k := 2) (show 2 < 3 by decide) h)
theorem e141_4 : decode (j_co 141) 4 = .ok (.iload_n 2, 1) := by decide +kernel
set_option maxRecDepth 20000 in
theorem w141_4 {d : Nat} {st : List Value} {Q : Option Value × jW → Prop} {w : jW} {a0 a1 : Option Value} {x : Int32} : Wp d 141 4 [a0, a1, some (.int x)] (st) w Q = Wp d 141 5 [a0, a1, some (.int x)] (.int x :: st) w Q := Wp.loc e141_4 rfl rfl rfl
theorem e141_5 : decode (j_co 141) 5 = .ok (.aload_n 0, 1) := by decide +kernel
set_option maxRecDepth 20000 in
theorem w141_5 {d : Nat} {st : List Value} {Q : Option Value × jW → Prop} {w : jW} {a1 a2 : Option Value} {x : Nat} : Wp d 141 5 [some (.ref x), a1, a2] (st) w Q = Wp d 141 6 [some (.ref x), a1, a2] (.ref x :: st) w Q := Wp.loc e141_5 rfl rfl rfl
theorem e141_6 : decode (j_co 141) 6 = .ok (.getfield 135, 3) := by decide +kernel
set_option maxRecDepth 20000 in
theorem w141_6 {d : Nat} {st : List Value} {Q : Option Value × jW → Prop} {ls : jL} {xs : List Value} {I : fI} {L : fL} {o : Nat} (ht : f_tg o = 11) : Wp d 141 6 ls (.ref o :: st) (f_W xs I L) Q = Wp d 141 9 ls (.int (I o 16) :: st) (f_W xs I L) Q := Wp.getI (ci := 11) (k := 16) e141_6 rfl (by decide) (by decide) (by decide) ht
theorem e141_9 : decode (j_co 141) 9 = .ok (.if_icmp .ge 27, 3) := by decide +kernel
set_option maxRecDepth 20000 in
theorem w141_9 {d : Nat} {st : List Value} {Q : Option Value × jW → Prop} {ls : jL} {w : jW} {a b : Int32} : Wp d 141 9 ls (.int b :: .int a :: st) w Q = ((b ≤ a → Wp d 141 36 ls st w Q) ∧ (¬ b ≤ a → Wp d 141 12 ls st w Q)) := Wp.if2 (c := b ≤ a) (off := 27) e141_9 rfl rfl rfl rfl rfl
theorem e141_12 : decode (j_co 141) 12 = .ok (.iload_n 1, 1) := by decide +kernel
set_option maxRecDepth 20000 in
theorem w141_12 {d : Nat} {st : List Value} {Q : Option Value × jW → Prop} {w : jW} {a0 a2 : Option Value} {x : Int32} : Wp d 141 12 [a0, some (.int x), a2] (st) w Q = Wp d 141 13 [a0, some (.int x), a2] (.int x :: st) w Q := Wp.loc e141_12 rfl rfl rfl
theorem e141_13 : decode (j_co 141) 13 = .ok (.ifCond .ne 11, 3) := by decide +kernel
set_option maxRecDepth 20000 in
theorem w141_13 {d : Nat} {st : List Value} {Q : Option Value × jW → Prop} {ls : jL} {w : jW} {a : Int32} : Wp d 141 13 ls (.int a :: st) w Q = ((a = nI 0 → Wp d 141 16 ls st w Q) ∧ (¬ a = nI 0 → Wp d 141 24 ls st w Q)) := Wp.if2n (c := a = nI 0) (off := 11) e141_13 rfl rfl rfl rfl rfl
theorem e141_16 : decode (j_co 141) 16 = .ok (.aload_n 0, 1) := by decide +kernel
set_option maxRecDepth 20000 in
theorem w141_16 {d : Nat} {st : List Value} {Q : Option Value × jW → Prop} {w : jW} {a1 a2 : Option Value} {x : Nat} : Wp d 141 16 [some (.ref x), a1, a2] (st) w Q = Wp d 141 17 [some (.ref x), a1, a2] (.ref x :: st) w Q := Wp.loc e141_16 rfl rfl rfl
theorem e141_17 : decode (j_co 141) 17 = .ok (.iload_n 2, 1) := by decide +kernel
set_option maxRecDepth 20000 in
theorem w141_17 {d : Nat} {st : List Value} {Q : Option Value × jW → Prop} {w : jW} {a0 a1 : Option Value} {x : Int32} : Wp d 141 17 [a0, a1, some (.int x)] (st) w Q = Wp d 141 18 [a0, a1, some (.int x)] (.int x :: st) w Q := Wp.loc e141_17 rfl rfl rfl
theorem e141_18 : decode (j_co 141) 18 = .ok (.invokevirtual 185, 3) := by decide +kernel
set_option maxRecDepth 20000 in
theorem w141_18 {d : Nat} {st : List Value} {Q : Option Value × jW → Prop} {ls : jL} {xs : List Value} {I : fI} {L : fL} {r : Nat} {x0 : Int32} (hs : j_sumc st ≤ 8) (ht : f_tg r = 11) : Wp (d + 1) 141 18 ls (.int x0 :: .ref r :: st) (f_W xs I L) Q = Wp d 142 0 [some (.ref r), some (.int x0)] [] (f_W xs I L) (fun r1 => Wp (d + 1) 141 21 ls (r1.1.toList ++ st) r1.2 Q) := Wp.cv (y' := 142) (as := [.int x0]) e141_18 rfl (by decide) rfl (show 2 ≤ 2 by decide) (by decide) hs ht
theorem e141_21 : decode (j_co 141) 21 = .ok (.ifCond .eq 7, 3) := by decide +kernel
set_option maxRecDepth 20000 in
theorem w141_21 {d : Nat} {st : List Value} {Q : Option Value × jW → Prop} {ls : jL} {w : jW} {a : Int32} : Wp d 141 21 ls (.int a :: st) w Q = ((a = nI 0 → Wp d 141 28 ls st w Q) ∧ (¬ a = nI 0 → Wp d 141 24 ls st w Q)) := Wp.if2 (c := a = nI 0) (off := 7) e141_21 rfl rfl rfl rfl rfl
theorem e141_24 : decode (j_co 141) 24 = .ok (.iconst 1, 1) := by decide +kernel
set_option maxRecDepth 20000 in
theorem w141_24 {d : Nat} {st : List Value} {Q : Option Value × jW → Prop} {ls : jL} {w : jW} : Wp d 141 24 ls (st) w Q = Wp d 141 25 ls (.int (nI 1) :: st) w Q := Wp.alu e141_24 rfl rfl
theorem e141_25 : decode (j_co 141) 25 = .ok (.goto 4, 3) := by decide +kernel
set_option maxRecDepth 20000 in
theorem w141_25 {d : Nat} {st : List Value} {Q : Option Value × jW → Prop} {ls : jL} {w : jW} : Wp d 141 25 ls (st) w Q = Wp d 141 29 ls (st) w Q := Wp.br e141_25 (Or.inl rfl) rfl rfl rfl rfl
theorem e141_28 : decode (j_co 141) 28 = .ok (.iconst 0, 1) := by decide +kernel
set_option maxRecDepth 20000 in
theorem w141_28 {d : Nat} {st : List Value} {Q : Option Value × jW → Prop} {ls : jL} {w : jW} : Wp d 141 28 ls (st) w Q = Wp d 141 29 ls (.int (nI 0) :: st) w Q := Wp.alu e141_28 rfl rfl
theorem e141_29 : decode (j_co 141) 29 = .ok (.istore_n 1, 1) := by decide +kernel
set_option maxRecDepth 20000 in
theorem w141_29 {d : Nat} {st : List Value} {Q : Option Value × jW → Prop} {w : jW} {a0 a1 a2 : Option Value} {x : Int32} (h : j_cp a0) : Wp d 141 29 [a0, a1, a2] (.int x :: st) w Q = Wp d 141 30 [a0, some (.int x), a2] (st) w Q := Wp.loc e141_29 rfl rfl (v_stI (ls := [a0, a1, a2]) (k := 1) (show 1 < 3 by decide) h)
theorem e141_30 : decode (j_co 141) 30 = .ok (.iinc 2 1, 3) := by decide +kernel
set_option maxRecDepth 20000 in
theorem w141_30 {d : Nat} {st : List Value} {Q : Option Value × jW → Prop} {w : jW} {a0 a1 : Option Value} {x : Int32} (h : j_cp a1) : Wp d 141 30 [a0, a1, some (.int x)] (st) w Q = Wp d 141 33 [a0, a1, some (.int (x + nI 1))] (st) w Q := Wp.loc e141_30 rfl rfl (v_inc (ls := [a0, a1, some (.int x)]) (k := 2) (n := 1) rfl (show 2 < 3 by decide) h)
theorem e141_33 : decode (j_co 141) 33 = .ok (.goto (-29), 3) := by decide +kernel
set_option maxRecDepth 20000 in
theorem w141_33 {d : Nat} {st : List Value} {Q : Option Value × jW → Prop} {ls : jL} {w : jW} : Wp d 141 33 ls (st) w Q = Wp d 141 4 ls (st) w Q := Wp.br e141_33 (Or.inl rfl) rfl rfl rfl rfl
theorem e141_36 : decode (j_co 141) 36 = .ok (.aload_n 0, 1) := by decide +kernel
set_option maxRecDepth 20000 in
theorem w141_36 {d : Nat} {st : List Value} {Q : Option Value × jW → Prop} {w : jW} {a1 a2 : Option Value} {x : Nat} : Wp d 141 36 [some (.ref x), a1, a2] (st) w Q = Wp d 141 37 [some (.ref x), a1, a2] (.ref x :: st) w Q := Wp.loc e141_36 rfl rfl rfl
theorem e141_37 : decode (j_co 141) 37 = .ok (.getfield 145, 3) := by decide +kernel
set_option maxRecDepth 20000 in
theorem w141_37 {d : Nat} {st : List Value} {Q : Option Value × jW → Prop} {ls : jL} {xs : List Value} {I : fI} {L : fL} {o : Nat} (ht : f_tg o = 11) : Wp d 141 37 ls (.ref o :: st) (f_W xs I L) Q = Wp d 141 40 ls (.int (I o 24) :: st) (f_W xs I L) Q := Wp.getI (ci := 11) (k := 24) e141_37 rfl (by decide) (by decide) (by decide) ht
theorem e141_40 : decode (j_co 141) 40 = .ok (.ifCond .ne 11, 3) := by decide +kernel
set_option maxRecDepth 20000 in
theorem w141_40 {d : Nat} {st : List Value} {Q : Option Value × jW → Prop} {ls : jL} {w : jW} {a : Int32} : Wp d 141 40 ls (.int a :: st) w Q = ((a = nI 0 → Wp d 141 43 ls st w Q) ∧ (¬ a = nI 0 → Wp d 141 51 ls st w Q)) := Wp.if2n (c := a = nI 0) (off := 11) e141_40 rfl rfl rfl rfl rfl
theorem e141_43 : decode (j_co 141) 43 = .ok (.iload_n 1, 1) := by decide +kernel
set_option maxRecDepth 20000 in
theorem w141_43 {d : Nat} {st : List Value} {Q : Option Value × jW → Prop} {w : jW} {a0 a2 : Option Value} {x : Int32} : Wp d 141 43 [a0, some (.int x), a2] (st) w Q = Wp d 141 44 [a0, some (.int x), a2] (.int x :: st) w Q := Wp.loc e141_43 rfl rfl rfl
theorem e141_44 : decode (j_co 141) 44 = .ok (.ifCond .ne 7, 3) := by decide +kernel
set_option maxRecDepth 20000 in
theorem w141_44 {d : Nat} {st : List Value} {Q : Option Value × jW → Prop} {ls : jL} {w : jW} {a : Int32} : Wp d 141 44 ls (.int a :: st) w Q = ((a = nI 0 → Wp d 141 47 ls st w Q) ∧ (¬ a = nI 0 → Wp d 141 51 ls st w Q)) := Wp.if2n (c := a = nI 0) (off := 7) e141_44 rfl rfl rfl rfl rfl
theorem e141_47 : decode (j_co 141) 47 = .ok (.iconst 1, 1) := by decide +kernel
set_option maxRecDepth 20000 in
theorem w141_47 {d : Nat} {st : List Value} {Q : Option Value × jW → Prop} {ls : jL} {w : jW} : Wp d 141 47 ls (st) w Q = Wp d 141 48 ls (.int (nI 1) :: st) w Q := Wp.alu e141_47 rfl rfl
theorem e141_48 : decode (j_co 141) 48 = .ok (.goto 27, 3) := by decide +kernel
set_option maxRecDepth 20000 in
theorem w141_48 {d : Nat} {st : List Value} {Q : Option Value × jW → Prop} {ls : jL} {w : jW} : Wp d 141 48 ls (st) w Q = Wp d 141 75 ls (st) w Q := Wp.br e141_48 (Or.inl rfl) rfl rfl rfl rfl
theorem e141_51 : decode (j_co 141) 51 = .ok (.aload_n 0, 1) := by decide +kernel
set_option maxRecDepth 20000 in
theorem w141_51 {d : Nat} {st : List Value} {Q : Option Value × jW → Prop} {w : jW} {a1 a2 : Option Value} {x : Nat} : Wp d 141 51 [some (.ref x), a1, a2] (st) w Q = Wp d 141 52 [some (.ref x), a1, a2] (.ref x :: st) w Q := Wp.loc e141_51 rfl rfl rfl
theorem e141_52 : decode (j_co 141) 52 = .ok (.invokevirtual 188, 3) := by decide +kernel
set_option maxRecDepth 20000 in
theorem w141_52 {d : Nat} {st : List Value} {Q : Option Value × jW → Prop} {ls : jL} {xs : List Value} {I : fI} {L : fL} {r : Nat} (hs : j_sumc st ≤ 8) (ht : f_tg r = 11) : Wp (d + 1) 141 52 ls (.ref r :: st) (f_W xs I L) Q = Wp d 143 0 [some (.ref r), none] [] (f_W xs I L) (fun r1 => Wp (d + 1) 141 55 ls (r1.1.toList ++ st) r1.2 Q) := Wp.cv (y' := 143) (as := []) e141_52 rfl (by decide) rfl (show 1 ≤ 2 by decide) (by decide) hs ht
theorem e141_55 : decode (j_co 141) 55 = .ok (.bipush (-4), 2) := by decide +kernel
set_option maxRecDepth 20000 in
theorem w141_55 {d : Nat} {st : List Value} {Q : Option Value × jW → Prop} {ls : jL} {w : jW} : Wp d 141 55 ls (st) w Q = Wp d 141 57 ls (.int (-4) :: st) w Q := Wp.alu e141_55 rfl rfl
theorem e141_57 : decode (j_co 141) 57 = .ok (.if_icmp .eq 7, 3) := by decide +kernel
set_option maxRecDepth 20000 in
theorem w141_57 {d : Nat} {st : List Value} {Q : Option Value × jW → Prop} {ls : jL} {w : jW} {a b : Int32} : Wp d 141 57 ls (.int b :: .int a :: st) w Q = ((a = b → Wp d 141 64 ls st w Q) ∧ (¬ a = b → Wp d 141 60 ls st w Q)) := Wp.if2 (c := a = b) (off := 7) e141_57 rfl rfl rfl rfl rfl
theorem e141_60 : decode (j_co 141) 60 = .ok (.iconst 0, 1) := by decide +kernel
set_option maxRecDepth 20000 in
theorem w141_60 {d : Nat} {st : List Value} {Q : Option Value × jW → Prop} {ls : jL} {w : jW} : Wp d 141 60 ls (st) w Q = Wp d 141 61 ls (.int (nI 0) :: st) w Q := Wp.alu e141_60 rfl rfl
theorem e141_61 : decode (j_co 141) 61 = .ok (.goto 14, 3) := by decide +kernel
set_option maxRecDepth 20000 in
theorem w141_61 {d : Nat} {st : List Value} {Q : Option Value × jW → Prop} {ls : jL} {w : jW} : Wp d 141 61 ls (st) w Q = Wp d 141 75 ls (st) w Q := Wp.br e141_61 (Or.inl rfl) rfl rfl rfl rfl
theorem e141_64 : decode (j_co 141) 64 = .ok (.iload_n 1, 1) := by decide +kernel
set_option maxRecDepth 20000 in
theorem w141_64 {d : Nat} {st : List Value} {Q : Option Value × jW → Prop} {w : jW} {a0 a2 : Option Value} {x : Int32} : Wp d 141 64 [a0, some (.int x), a2] (st) w Q = Wp d 141 65 [a0, some (.int x), a2] (.int x :: st) w Q := Wp.loc e141_64 rfl rfl rfl
theorem e141_65 : decode (j_co 141) 65 = .ok (.ifCond .eq 8, 3) := by decide +kernel
set_option maxRecDepth 20000 in
theorem w141_65 {d : Nat} {st : List Value} {Q : Option Value × jW → Prop} {ls : jL} {w : jW} {a : Int32} : Wp d 141 65 ls (.int a :: st) w Q = ((a = nI 0 → Wp d 141 73 ls st w Q) ∧ (¬ a = nI 0 → Wp d 141 68 ls st w Q)) := Wp.if2 (c := a = nI 0) (off := 8) e141_65 rfl rfl rfl rfl rfl
theorem e141_68 : decode (j_co 141) 68 = .ok (.bipush (-5), 2) := by decide +kernel
set_option maxRecDepth 20000 in
theorem w141_68 {d : Nat} {st : List Value} {Q : Option Value × jW → Prop} {ls : jL} {w : jW} : Wp d 141 68 ls (st) w Q = Wp d 141 70 ls (.int (-5) :: st) w Q := Wp.alu e141_68 rfl rfl
theorem e141_70 : decode (j_co 141) 70 = .ok (.goto 5, 3) := by decide +kernel
set_option maxRecDepth 20000 in
theorem w141_70 {d : Nat} {st : List Value} {Q : Option Value × jW → Prop} {ls : jL} {w : jW} : Wp d 141 70 ls (st) w Q = Wp d 141 75 ls (st) w Q := Wp.br e141_70 (Or.inl rfl) rfl rfl rfl rfl
theorem e141_73 : decode (j_co 141) 73 = .ok (.bipush (-6), 2) := by decide +kernel
set_option maxRecDepth 20000 in
theorem w141_73 {d : Nat} {st : List Value} {Q : Option Value × jW → Prop} {ls : jL} {w : jW} : Wp d 141 73 ls (st) w Q = Wp d 141 75 ls (.int (-6) :: st) w Q := Wp.alu e141_73 rfl rfl
theorem e141_75 : decode (j_co 141) 75 = .ok (.ireturn, 1) := by decide +kernel
set_option maxRecDepth 20000 in
theorem w141_75 {d : Nat} {Q : Option Value × jW → Prop} {ls : jL} {w : jW} {x : Int32} : Wp d 141 75 ls [.int x] w Q = Q (some (.int x), w) := Wp.ret e141_75 rfl
/-! M.isMet -/
theorem e142_0 : decode (j_co 142) 0 = .ok (.aload_n 0, 1) := by decide +kernel
set_option maxRecDepth 20000 in
theorem w142_0 {d : Nat} {st : List Value} {Q : Option Value × jW → Prop} {w : jW} {a1 : Option Value} {x : Nat} : Wp d 142 0 [some (.ref x), a1] (st) w Q = Wp d 142 1 [some (.ref x), a1] (.ref x :: st) w Q := Wp.loc e142_0 rfl rfl rfl
theorem e142_1 : decode (j_co 142) 1 = .ok (.aload_n 0, 1) := by decide +kernel
set_option maxRecDepth 20000 in
theorem w142_1 {d : Nat} {st : List Value} {Q : Option Value × jW → Prop} {w : jW} {a1 : Option Value} {x : Nat} : Wp d 142 1 [some (.ref x), a1] (st) w Q = Wp d 142 2 [some (.ref x), a1] (.ref x :: st) w Q := Wp.loc e142_1 rfl rfl rfl
theorem e142_2 : decode (j_co 142) 2 = .ok (.getfield 54, 3) := by decide +kernel
set_option maxRecDepth 20000 in
theorem w142_2 {d : Nat} {st : List Value} {Q : Option Value × jW → Prop} {ls : jL} {xs : List Value} {I : fI} {L : fL} {o : Nat} (ht : f_tg o = 11) : Wp d 142 2 ls (.ref o :: st) (f_W xs I L) Q = Wp d 142 5 ls (.ref (f_rf o 18) :: st) (f_W xs I L) Q := Wp.getR (ci := 11) (k := 18) e142_2 rfl (by decide) (by decide) rfl ht
theorem e142_5 : decode (j_co 142) 5 = .ok (.bipush 6, 2) := by decide +kernel
set_option maxRecDepth 20000 in
theorem w142_5 {d : Nat} {st : List Value} {Q : Option Value × jW → Prop} {ls : jL} {w : jW} : Wp d 142 5 ls (st) w Q = Wp d 142 7 ls (.int (nI 6) :: st) w Q := Wp.alu e142_5 rfl rfl
theorem e142_7 : decode (j_co 142) 7 = .ok (.iload_n 1, 1) := by decide +kernel
set_option maxRecDepth 20000 in
theorem w142_7 {d : Nat} {st : List Value} {Q : Option Value × jW → Prop} {w : jW} {a0 : Option Value} {x : Int32} : Wp d 142 7 [a0, some (.int x)] (st) w Q = Wp d 142 8 [a0, some (.int x)] (.int x :: st) w Q := Wp.loc e142_7 rfl rfl rfl
theorem e142_8 : decode (j_co 142) 8 = .ok (.imul, 1) := by decide +kernel
set_option maxRecDepth 20000 in
theorem w142_8 {d : Nat} {st : List Value} {Q : Option Value × jW → Prop} {ls : jL} {w : jW} {a b : Int32} : Wp d 142 8 ls (.int b :: .int a :: st) w Q = Wp d 142 9 ls (.int (a * b) :: st) w Q := Wp.alu e142_8 rfl rfl
theorem e142_9 : decode (j_co 142) 9 = .ok (.invokevirtual 159, 3) := by decide +kernel
set_option maxRecDepth 20000 in
theorem w142_9 {d : Nat} {st : List Value} {Q : Option Value × jW → Prop} {ls : jL} {xs : List Value} {I : fI} {L : fL} {r : Nat} {x0 : Nat} {x1 : Int32} (hs : j_sumc st ≤ 8) (ht : f_tg r = 11) : Wp (d + 1) 142 9 ls (.int x1 :: .ref x0 :: .ref r :: st) (f_W xs I L) Q = Wp d 130 0 [some (.ref r), some (.ref x0), some (.int x1), none] [] (f_W xs I L) (fun r1 => Wp (d + 1) 142 12 ls (r1.1.toList ++ st) r1.2 Q) := Wp.cv (y' := 130) (as := [.ref x0, .int x1]) e142_9 rfl (by decide) rfl (show 3 ≤ 4 by decide) (by decide) hs ht
theorem e142_12 : decode (j_co 142) 12 = .ok (.aload_n 0, 1) := by decide +kernel
set_option maxRecDepth 20000 in
theorem w142_12 {d : Nat} {st : List Value} {Q : Option Value × jW → Prop} {w : jW} {a1 : Option Value} {x : Nat} : Wp d 142 12 [some (.ref x), a1] (st) w Q = Wp d 142 13 [some (.ref x), a1] (.ref x :: st) w Q := Wp.loc e142_12 rfl rfl rfl
theorem e142_13 : decode (j_co 142) 13 = .ok (.aload_n 0, 1) := by decide +kernel
set_option maxRecDepth 20000 in
theorem w142_13 {d : Nat} {st : List Value} {Q : Option Value × jW → Prop} {w : jW} {a1 : Option Value} {x : Nat} : Wp d 142 13 [some (.ref x), a1] (st) w Q = Wp d 142 14 [some (.ref x), a1] (.ref x :: st) w Q := Wp.loc e142_13 rfl rfl rfl
theorem e142_14 : decode (j_co 142) 14 = .ok (.getfield 36, 3) := by decide +kernel
set_option maxRecDepth 20000 in
theorem w142_14 {d : Nat} {st : List Value} {Q : Option Value × jW → Prop} {ls : jL} {xs : List Value} {I : fI} {L : fL} {o : Nat} (ht : f_tg o = 11) : Wp d 142 14 ls (.ref o :: st) (f_W xs I L) Q = Wp d 142 17 ls (.ref (f_rf o 11) :: st) (f_W xs I L) Q := Wp.getR (ci := 11) (k := 11) e142_14 rfl (by decide) (by decide) rfl ht
theorem e142_17 : decode (j_co 142) 17 = .ok (.bipush 6, 2) := by decide +kernel
set_option maxRecDepth 20000 in
theorem w142_17 {d : Nat} {st : List Value} {Q : Option Value × jW → Prop} {ls : jL} {w : jW} : Wp d 142 17 ls (st) w Q = Wp d 142 19 ls (.int (nI 6) :: st) w Q := Wp.alu e142_17 rfl rfl
theorem e142_19 : decode (j_co 142) 19 = .ok (.invokevirtual 128, 3) := by decide +kernel
set_option maxRecDepth 20000 in
theorem w142_19 {d : Nat} {st : List Value} {Q : Option Value × jW → Prop} {ls : jL} {xs : List Value} {I : fI} {L : fL} {r : Nat} {x0 : Nat} {x1 : Int32} (hs : j_sumc st ≤ 8) (ht : f_tg r = 11) : Wp (d + 1) 142 19 ls (.int x1 :: .ref x0 :: .ref r :: st) (f_W xs I L) Q = Wp d 131 0 [some (.ref r), some (.ref x0), some (.int x1), none, none, none] [] (f_W xs I L) (fun r1 => Wp (d + 1) 142 22 ls (r1.1.toList ++ st) r1.2 Q) := Wp.cv (y' := 131) (as := [.ref x0, .int x1]) e142_19 rfl (by decide) rfl (show 3 ≤ 6 by decide) (by decide) hs ht
theorem e142_22 : decode (j_co 142) 22 = .ok (.aload_n 0, 1) := by decide +kernel
set_option maxRecDepth 20000 in
theorem w142_22 {d : Nat} {st : List Value} {Q : Option Value × jW → Prop} {w : jW} {a1 : Option Value} {x : Nat} : Wp d 142 22 [some (.ref x), a1] (st) w Q = Wp d 142 23 [some (.ref x), a1] (.ref x :: st) w Q := Wp.loc e142_22 rfl rfl rfl
theorem e142_23 : decode (j_co 142) 23 = .ok (.getfield 51, 3) := by decide +kernel
set_option maxRecDepth 20000 in
theorem w142_23 {d : Nat} {st : List Value} {Q : Option Value × jW → Prop} {ls : jL} {xs : List Value} {I : fI} {L : fL} {o : Nat} (ht : f_tg o = 11) : Wp d 142 23 ls (.ref o :: st) (f_W xs I L) Q = Wp d 142 26 ls (.ref (f_rf o 17) :: st) (f_W xs I L) Q := Wp.getR (ci := 11) (k := 17) e142_23 rfl (by decide) (by decide) rfl ht
theorem e142_26 : decode (j_co 142) 26 = .ok (.iload_n 1, 1) := by decide +kernel
set_option maxRecDepth 20000 in
theorem w142_26 {d : Nat} {st : List Value} {Q : Option Value × jW → Prop} {w : jW} {a0 : Option Value} {x : Int32} : Wp d 142 26 [a0, some (.int x)] (st) w Q = Wp d 142 27 [a0, some (.int x)] (.int x :: st) w Q := Wp.loc e142_26 rfl rfl rfl
theorem e142_27 : decode (j_co 142) 27 = .ok (.iaload, 1) := by decide +kernel
set_option maxRecDepth 20000 in
theorem w142_27 {d : Nat} {st : List Value} {Q : Option Value × jW → Prop} {ls : jL} {xs : List Value} {I : fI} {L : fL} {o : Nat} {i : Int32} (ht : f_tg o = 100) (hi : ¬ (i < 0 ∨ f_ln o ≤ i.toNatClampNeg)) : Wp d 142 27 ls (.int i :: .ref o :: st) (f_W xs I L) Q = Wp d 142 28 ls (.int (I o i.toNatClampNeg) :: st) (f_W xs I L) Q := Wp.iald e142_27 ht hi
theorem e142_28 : decode (j_co 142) 28 = .ok (.aload_n 0, 1) := by decide +kernel
set_option maxRecDepth 20000 in
theorem w142_28 {d : Nat} {st : List Value} {Q : Option Value × jW → Prop} {w : jW} {a1 : Option Value} {x : Nat} : Wp d 142 28 [some (.ref x), a1] (st) w Q = Wp d 142 29 [some (.ref x), a1] (.ref x :: st) w Q := Wp.loc e142_28 rfl rfl rfl
theorem e142_29 : decode (j_co 142) 29 = .ok (.getfield 32, 3) := by decide +kernel
set_option maxRecDepth 20000 in
theorem w142_29 {d : Nat} {st : List Value} {Q : Option Value × jW → Prop} {ls : jL} {xs : List Value} {I : fI} {L : fL} {o : Nat} (ht : f_tg o = 11) : Wp d 142 29 ls (.ref o :: st) (f_W xs I L) Q = Wp d 142 32 ls (.int (I o 10) :: st) (f_W xs I L) Q := Wp.getI (ci := 11) (k := 10) e142_29 rfl (by decide) (by decide) (by decide) ht
theorem e142_32 : decode (j_co 142) 32 = .ok (.if_icmp .ne 14, 3) := by decide +kernel
set_option maxRecDepth 20000 in
theorem w142_32 {d : Nat} {st : List Value} {Q : Option Value × jW → Prop} {ls : jL} {w : jW} {a b : Int32} : Wp d 142 32 ls (.int b :: .int a :: st) w Q = ((a = b → Wp d 142 35 ls st w Q) ∧ (¬ a = b → Wp d 142 46 ls st w Q)) := Wp.if2n (c := a = b) (off := 14) e142_32 rfl rfl rfl rfl rfl
theorem e142_35 : decode (j_co 142) 35 = .ok (.aload_n 0, 1) := by decide +kernel
set_option maxRecDepth 20000 in
theorem w142_35 {d : Nat} {st : List Value} {Q : Option Value × jW → Prop} {w : jW} {a1 : Option Value} {x : Nat} : Wp d 142 35 [some (.ref x), a1] (st) w Q = Wp d 142 36 [some (.ref x), a1] (.ref x :: st) w Q := Wp.loc e142_35 rfl rfl rfl
theorem e142_36 : decode (j_co 142) 36 = .ok (.invokevirtual 131, 3) := by decide +kernel
set_option maxRecDepth 20000 in
theorem w142_36 {d : Nat} {st : List Value} {Q : Option Value × jW → Prop} {ls : jL} {xs : List Value} {I : fI} {L : fL} {r : Nat} (hs : j_sumc st ≤ 8) (ht : f_tg r = 11) : Wp (d + 1) 142 36 ls (.ref r :: st) (f_W xs I L) Q = Wp d 132 0 [some (.ref r)] [] (f_W xs I L) (fun r1 => Wp (d + 1) 142 39 ls (r1.1.toList ++ st) r1.2 Q) := Wp.cv (y' := 132) (as := []) e142_36 rfl (by decide) rfl (show 1 ≤ 1 by decide) (by decide) hs ht
theorem e142_39 : decode (j_co 142) 39 = .ok (.ifCond .ne 7, 3) := by decide +kernel
set_option maxRecDepth 20000 in
theorem w142_39 {d : Nat} {st : List Value} {Q : Option Value × jW → Prop} {ls : jL} {w : jW} {a : Int32} : Wp d 142 39 ls (.int a :: st) w Q = ((a = nI 0 → Wp d 142 42 ls st w Q) ∧ (¬ a = nI 0 → Wp d 142 46 ls st w Q)) := Wp.if2n (c := a = nI 0) (off := 7) e142_39 rfl rfl rfl rfl rfl
theorem e142_42 : decode (j_co 142) 42 = .ok (.iconst 1, 1) := by decide +kernel
set_option maxRecDepth 20000 in
theorem w142_42 {d : Nat} {st : List Value} {Q : Option Value × jW → Prop} {ls : jL} {w : jW} : Wp d 142 42 ls (st) w Q = Wp d 142 43 ls (.int (nI 1) :: st) w Q := Wp.alu e142_42 rfl rfl
theorem e142_43 : decode (j_co 142) 43 = .ok (.goto 4, 3) := by decide +kernel
set_option maxRecDepth 20000 in
theorem w142_43 {d : Nat} {st : List Value} {Q : Option Value × jW → Prop} {ls : jL} {w : jW} : Wp d 142 43 ls (st) w Q = Wp d 142 47 ls (st) w Q := Wp.br e142_43 (Or.inl rfl) rfl rfl rfl rfl
theorem e142_46 : decode (j_co 142) 46 = .ok (.iconst 0, 1) := by decide +kernel
set_option maxRecDepth 20000 in
theorem w142_46 {d : Nat} {st : List Value} {Q : Option Value × jW → Prop} {ls : jL} {w : jW} : Wp d 142 46 ls (st) w Q = Wp d 142 47 ls (.int (nI 0) :: st) w Q := Wp.alu e142_46 rfl rfl
theorem e142_47 : decode (j_co 142) 47 = .ok (.ireturn, 1) := by decide +kernel
set_option maxRecDepth 20000 in
theorem w142_47 {d : Nat} {Q : Option Value × jW → Prop} {ls : jL} {w : jW} {x : Int32} (hx : x = 0 ∨ x = 1) : Wp d 142 47 ls [.int x] w Q = Q (some (.int x), w) := Wp.ret e142_47 (by rcases hx with rfl | rfl <;> rfl)
/-! M.shownHeap -/
theorem e143_0 : decode (j_co 143) 0 = .ok (.iconst 0, 1) := by decide +kernel
set_option maxRecDepth 20000 in
theorem w143_0 {d : Nat} {st : List Value} {Q : Option Value × jW → Prop} {ls : jL} {w : jW} : Wp d 143 0 ls (st) w Q = Wp d 143 1 ls (.int (nI 0) :: st) w Q := Wp.alu e143_0 rfl rfl
theorem e143_1 : decode (j_co 143) 1 = .ok (.istore_n 1, 1) := by decide +kernel
set_option maxRecDepth 20000 in
theorem w143_1 {d : Nat} {st : List Value} {Q : Option Value × jW → Prop} {w : jW} {a0 a1 : Option Value} {x : Int32} (h : j_cp a0) : Wp d 143 1 [a0, a1] (.int x :: st) w Q = Wp d 143 2 [a0, some (.int x)] (st) w Q := Wp.loc e143_1 rfl rfl (v_stI (ls := [a0, a1]) (k := 1) (show 1 < 2 by decide) h)
theorem e143_2 : decode (j_co 143) 2 = .ok (.iload_n 1, 1) := by decide +kernel
set_option maxRecDepth 20000 in
theorem w143_2 {d : Nat} {st : List Value} {Q : Option Value × jW → Prop} {w : jW} {a0 : Option Value} {x : Int32} : Wp d 143 2 [a0, some (.int x)] (st) w Q = Wp d 143 3 [a0, some (.int x)] (.int x :: st) w Q := Wp.loc e143_2 rfl rfl rfl
theorem e143_3 : decode (j_co 143) 3 = .ok (.aload_n 0, 1) := by decide +kernel
set_option maxRecDepth 20000 in
theorem w143_3 {d : Nat} {st : List Value} {Q : Option Value × jW → Prop} {w : jW} {a1 : Option Value} {x : Nat} : Wp d 143 3 [some (.ref x), a1] (st) w Q = Wp d 143 4 [some (.ref x), a1] (.ref x :: st) w Q := Wp.loc e143_3 rfl rfl rfl
theorem e143_4 : decode (j_co 143) 4 = .ok (.getfield 135, 3) := by decide +kernel
set_option maxRecDepth 20000 in
theorem w143_4 {d : Nat} {st : List Value} {Q : Option Value × jW → Prop} {ls : jL} {xs : List Value} {I : fI} {L : fL} {o : Nat} (ht : f_tg o = 11) : Wp d 143 4 ls (.ref o :: st) (f_W xs I L) Q = Wp d 143 7 ls (.int (I o 16) :: st) (f_W xs I L) Q := Wp.getI (ci := 11) (k := 16) e143_4 rfl (by decide) (by decide) (by decide) ht
theorem e143_7 : decode (j_co 143) 7 = .ok (.if_icmp .ge 27, 3) := by decide +kernel
set_option maxRecDepth 20000 in
theorem w143_7 {d : Nat} {st : List Value} {Q : Option Value × jW → Prop} {ls : jL} {w : jW} {a b : Int32} : Wp d 143 7 ls (.int b :: .int a :: st) w Q = ((b ≤ a → Wp d 143 34 ls st w Q) ∧ (¬ b ≤ a → Wp d 143 10 ls st w Q)) := Wp.if2 (c := b ≤ a) (off := 27) e143_7 rfl rfl rfl rfl rfl
theorem e143_10 : decode (j_co 143) 10 = .ok (.aload_n 0, 1) := by decide +kernel
set_option maxRecDepth 20000 in
theorem w143_10 {d : Nat} {st : List Value} {Q : Option Value × jW → Prop} {w : jW} {a1 : Option Value} {x : Nat} : Wp d 143 10 [some (.ref x), a1] (st) w Q = Wp d 143 11 [some (.ref x), a1] (.ref x :: st) w Q := Wp.loc e143_10 rfl rfl rfl
theorem e143_11 : decode (j_co 143) 11 = .ok (.iload_n 1, 1) := by decide +kernel
set_option maxRecDepth 20000 in
theorem w143_11 {d : Nat} {st : List Value} {Q : Option Value × jW → Prop} {w : jW} {a0 : Option Value} {x : Int32} : Wp d 143 11 [a0, some (.int x)] (st) w Q = Wp d 143 12 [a0, some (.int x)] (.int x :: st) w Q := Wp.loc e143_11 rfl rfl rfl
theorem e143_12 : decode (j_co 143) 12 = .ok (.invokevirtual 182, 3) := by decide +kernel
set_option maxRecDepth 20000 in
theorem w143_12 {d : Nat} {st : List Value} {Q : Option Value × jW → Prop} {ls : jL} {xs : List Value} {I : fI} {L : fL} {r : Nat} {x0 : Int32} (hs : j_sumc st ≤ 8) (ht : f_tg r = 11) : Wp (d + 1) 143 12 ls (.int x0 :: .ref r :: st) (f_W xs I L) Q = Wp d 144 0 [some (.ref r), some (.int x0), none, none] [] (f_W xs I L) (fun r1 => Wp (d + 1) 143 15 ls (r1.1.toList ++ st) r1.2 Q) := Wp.cv (y' := 144) (as := [.int x0]) e143_12 rfl (by decide) rfl (show 2 ≤ 4 by decide) (by decide) hs ht
theorem e143_15 : decode (j_co 143) 15 = .ok (.ifCond .eq 13, 3) := by decide +kernel
set_option maxRecDepth 20000 in
theorem w143_15 {d : Nat} {st : List Value} {Q : Option Value × jW → Prop} {ls : jL} {w : jW} {a : Int32} : Wp d 143 15 ls (.int a :: st) w Q = ((a = nI 0 → Wp d 143 28 ls st w Q) ∧ (¬ a = nI 0 → Wp d 143 18 ls st w Q)) := Wp.if2 (c := a = nI 0) (off := 13) e143_15 rfl rfl rfl rfl rfl
theorem e143_18 : decode (j_co 143) 18 = .ok (.aload_n 0, 1) := by decide +kernel
set_option maxRecDepth 20000 in
theorem w143_18 {d : Nat} {st : List Value} {Q : Option Value × jW → Prop} {w : jW} {a1 : Option Value} {x : Nat} : Wp d 143 18 [some (.ref x), a1] (st) w Q = Wp d 143 19 [some (.ref x), a1] (.ref x :: st) w Q := Wp.loc e143_18 rfl rfl rfl
theorem e143_19 : decode (j_co 143) 19 = .ok (.iload_n 1, 1) := by decide +kernel
set_option maxRecDepth 20000 in
theorem w143_19 {d : Nat} {st : List Value} {Q : Option Value × jW → Prop} {w : jW} {a0 : Option Value} {x : Int32} : Wp d 143 19 [a0, some (.int x)] (st) w Q = Wp d 143 20 [a0, some (.int x)] (.int x :: st) w Q := Wp.loc e143_19 rfl rfl rfl
theorem e143_20 : decode (j_co 143) 20 = .ok (.invokevirtual 185, 3) := by decide +kernel
set_option maxRecDepth 20000 in
theorem w143_20 {d : Nat} {st : List Value} {Q : Option Value × jW → Prop} {ls : jL} {xs : List Value} {I : fI} {L : fL} {r : Nat} {x0 : Int32} (hs : j_sumc st ≤ 8) (ht : f_tg r = 11) : Wp (d + 1) 143 20 ls (.int x0 :: .ref r :: st) (f_W xs I L) Q = Wp d 142 0 [some (.ref r), some (.int x0)] [] (f_W xs I L) (fun r1 => Wp (d + 1) 143 23 ls (r1.1.toList ++ st) r1.2 Q) := Wp.cv (y' := 142) (as := [.int x0]) e143_20 rfl (by decide) rfl (show 2 ≤ 2 by decide) (by decide) hs ht
theorem e143_23 : decode (j_co 143) 23 = .ok (.ifCond .eq 5, 3) := by decide +kernel
set_option maxRecDepth 20000 in
theorem w143_23 {d : Nat} {st : List Value} {Q : Option Value × jW → Prop} {ls : jL} {w : jW} {a : Int32} : Wp d 143 23 ls (.int a :: st) w Q = ((a = nI 0 → Wp d 143 28 ls st w Q) ∧ (¬ a = nI 0 → Wp d 143 26 ls st w Q)) := Wp.if2 (c := a = nI 0) (off := 5) e143_23 rfl rfl rfl rfl rfl
theorem e143_26 : decode (j_co 143) 26 = .ok (.iload_n 1, 1) := by decide +kernel
set_option maxRecDepth 20000 in
theorem w143_26 {d : Nat} {st : List Value} {Q : Option Value × jW → Prop} {w : jW} {a0 : Option Value} {x : Int32} : Wp d 143 26 [a0, some (.int x)] (st) w Q = Wp d 143 27 [a0, some (.int x)] (.int x :: st) w Q := Wp.loc e143_26 rfl rfl rfl
theorem e143_27 : decode (j_co 143) 27 = .ok (.ireturn, 1) := by decide +kernel
set_option maxRecDepth 20000 in
theorem w143_27 {d : Nat} {Q : Option Value × jW → Prop} {ls : jL} {w : jW} {x : Int32} : Wp d 143 27 ls [.int x] w Q = Q (some (.int x), w) := Wp.ret e143_27 rfl
theorem e143_28 : decode (j_co 143) 28 = .ok (.iinc 1 1, 3) := by decide +kernel
set_option maxRecDepth 20000 in
theorem w143_28 {d : Nat} {st : List Value} {Q : Option Value × jW → Prop} {w : jW} {a0 : Option Value} {x : Int32} (h : j_cp a0) : Wp d 143 28 [a0, some (.int x)] (st) w Q = Wp d 143 31 [a0, some (.int (x + nI 1))] (st) w Q := Wp.loc e143_28 rfl rfl (v_inc (ls := [a0, some (.int x)]) (k := 1) (n := 1) rfl (show 1 < 2 by decide) h)
theorem e143_31 : decode (j_co 143) 31 = .ok (.goto (-29), 3) := by decide +kernel
set_option maxRecDepth 20000 in
theorem w143_31 {d : Nat} {st : List Value} {Q : Option Value × jW → Prop} {ls : jL} {w : jW} : Wp d 143 31 ls (st) w Q = Wp d 143 2 ls (st) w Q := Wp.br e143_31 (Or.inl rfl) rfl rfl rfl rfl
theorem e143_34 : decode (j_co 143) 34 = .ok (.bipush (-4), 2) := by decide +kernel
set_option maxRecDepth 20000 in
theorem w143_34 {d : Nat} {st : List Value} {Q : Option Value × jW → Prop} {ls : jL} {w : jW} : Wp d 143 34 ls (st) w Q = Wp d 143 36 ls (.int (-4) :: st) w Q := Wp.alu e143_34 rfl rfl
theorem e143_36 : decode (j_co 143) 36 = .ok (.ireturn, 1) := by decide +kernel
set_option maxRecDepth 20000 in
theorem w143_36 {d : Nat} {Q : Option Value × jW → Prop} {ls : jL} {w : jW} {x : Int32} : Wp d 143 36 ls [.int x] w Q = Q (some (.int x), w) := Wp.ret e143_36 rfl
/-! M.isSure -/
theorem e144_0 : decode (j_co 144) 0 = .ok (.iconst 1, 1) := by decide +kernel
set_option maxRecDepth 20000 in
theorem w144_0 {d : Nat} {st : List Value} {Q : Option Value × jW → Prop} {ls : jL} {w : jW} : Wp d 144 0 ls (st) w Q = Wp d 144 1 ls (.int (nI 1) :: st) w Q := Wp.alu e144_0 rfl rfl
theorem e144_1 : decode (j_co 144) 1 = .ok (.istore_n 2, 1) := by decide +kernel
set_option maxRecDepth 20000 in
theorem w144_1 {d : Nat} {st : List Value} {Q : Option Value × jW → Prop} {w : jW} {a0 a1 a2 a3 : Option Value} {x : Int32} (h : j_cp a1) : Wp d 144 1 [a0, a1, a2, a3] (.int x :: st) w Q = Wp d 144 2 [a0, a1, some (.int x), a3] (st) w Q := Wp.loc e144_1 rfl rfl (v_stI (ls := [a0, a1, a2, a3]) (k := 2) (show 2 < 4 by decide) h)
theorem e144_2 : decode (j_co 144) 2 = .ok (.iload_n 1, 1) := by decide +kernel
set_option maxRecDepth 20000 in
theorem w144_2 {d : Nat} {st : List Value} {Q : Option Value × jW → Prop} {w : jW} {a0 a2 a3 : Option Value} {x : Int32} : Wp d 144 2 [a0, some (.int x), a2, a3] (st) w Q = Wp d 144 3 [a0, some (.int x), a2, a3] (.int x :: st) w Q := Wp.loc e144_2 rfl rfl rfl
theorem e144_3 : decode (j_co 144) 3 = .ok (.istore_n 3, 1) := by decide +kernel
set_option maxRecDepth 20000 in
theorem w144_3 {d : Nat} {st : List Value} {Q : Option Value × jW → Prop} {w : jW} {a0 a1 a2 a3 : Option Value} {x : Int32} (h : j_cp a2) : Wp d 144 3 [a0, a1, a2, a3] (.int x :: st) w Q = Wp d 144 4 [a0, a1, a2, some (.int x)] (st) w Q := Wp.loc e144_3 rfl rfl (v_stI (ls := [a0, a1, a2, a3]) (k := 3) (show 3 < 4 by decide) h)
theorem e144_4 : decode (j_co 144) 4 = .ok (.iload_n 3, 1) := by decide +kernel
set_option maxRecDepth 20000 in
theorem w144_4 {d : Nat} {st : List Value} {Q : Option Value × jW → Prop} {w : jW} {a0 a1 a2 : Option Value} {x : Int32} : Wp d 144 4 [a0, a1, a2, some (.int x)] (st) w Q = Wp d 144 5 [a0, a1, a2, some (.int x)] (.int x :: st) w Q := Wp.loc e144_4 rfl rfl rfl
theorem e144_5 : decode (j_co 144) 5 = .ok (.bipush (-4), 2) := by decide +kernel
set_option maxRecDepth 20000 in
theorem w144_5 {d : Nat} {st : List Value} {Q : Option Value × jW → Prop} {ls : jL} {w : jW} : Wp d 144 5 ls (st) w Q = Wp d 144 7 ls (.int (-4) :: st) w Q := Wp.alu e144_5 rfl rfl
theorem e144_7 : decode (j_co 144) 7 = .ok (.if_icmp .eq 32, 3) := by decide +kernel
set_option maxRecDepth 20000 in
theorem w144_7 {d : Nat} {st : List Value} {Q : Option Value × jW → Prop} {ls : jL} {w : jW} {a b : Int32} : Wp d 144 7 ls (.int b :: .int a :: st) w Q = ((a = b → Wp d 144 39 ls st w Q) ∧ (¬ a = b → Wp d 144 10 ls st w Q)) := Wp.if2 (c := a = b) (off := 32) e144_7 rfl rfl rfl rfl rfl
theorem e144_10 : decode (j_co 144) 10 = .ok (.iload_n 2, 1) := by decide +kernel
set_option maxRecDepth 20000 in
theorem w144_10 {d : Nat} {st : List Value} {Q : Option Value × jW → Prop} {w : jW} {a0 a1 a3 : Option Value} {x : Int32} : Wp d 144 10 [a0, a1, some (.int x), a3] (st) w Q = Wp d 144 11 [a0, a1, some (.int x), a3] (.int x :: st) w Q := Wp.loc e144_10 rfl rfl rfl
theorem e144_11 : decode (j_co 144) 11 = .ok (.ifCond .eq 16, 3) := by decide +kernel
set_option maxRecDepth 20000 in
theorem w144_11 {d : Nat} {st : List Value} {Q : Option Value × jW → Prop} {ls : jL} {w : jW} {a : Int32} : Wp d 144 11 ls (.int a :: st) w Q = ((a = nI 0 → Wp d 144 27 ls st w Q) ∧ (¬ a = nI 0 → Wp d 144 14 ls st w Q)) := Wp.if2 (c := a = nI 0) (off := 16) e144_11 rfl rfl rfl rfl rfl
theorem e144_14 : decode (j_co 144) 14 = .ok (.aload_n 0, 1) := by decide +kernel
set_option maxRecDepth 20000 in
theorem w144_14 {d : Nat} {st : List Value} {Q : Option Value × jW → Prop} {w : jW} {a1 a2 a3 : Option Value} {x : Nat} : Wp d 144 14 [some (.ref x), a1, a2, a3] (st) w Q = Wp d 144 15 [some (.ref x), a1, a2, a3] (.ref x :: st) w Q := Wp.loc e144_14 rfl rfl rfl
theorem e144_15 : decode (j_co 144) 15 = .ok (.getfield 63, 3) := by decide +kernel
set_option maxRecDepth 20000 in
theorem w144_15 {d : Nat} {st : List Value} {Q : Option Value × jW → Prop} {ls : jL} {xs : List Value} {I : fI} {L : fL} {o : Nat} (ht : f_tg o = 11) : Wp d 144 15 ls (.ref o :: st) (f_W xs I L) Q = Wp d 144 18 ls (.ref (f_rf o 21) :: st) (f_W xs I L) Q := Wp.getR (ci := 11) (k := 21) e144_15 rfl (by decide) (by decide) rfl ht
theorem e144_18 : decode (j_co 144) 18 = .ok (.iload_n 3, 1) := by decide +kernel
set_option maxRecDepth 20000 in
theorem w144_18 {d : Nat} {st : List Value} {Q : Option Value × jW → Prop} {w : jW} {a0 a1 a2 : Option Value} {x : Int32} : Wp d 144 18 [a0, a1, a2, some (.int x)] (st) w Q = Wp d 144 19 [a0, a1, a2, some (.int x)] (.int x :: st) w Q := Wp.loc e144_18 rfl rfl rfl
theorem e144_19 : decode (j_co 144) 19 = .ok (.baload, 1) := by decide +kernel
set_option maxRecDepth 20000 in
theorem w144_19 {d : Nat} {st : List Value} {Q : Option Value × jW → Prop} {ls : jL} {xs : List Value} {I : fI} {L : fL} {o : Nat} {i : Int32} (ht : f_tg o = 101) (hi : ¬ (i < 0 ∨ f_ln o ≤ i.toNatClampNeg)) : Wp d 144 19 ls (.int i :: .ref o :: st) (f_W xs I L) Q = Wp d 144 20 ls (.int (I o i.toNatClampNeg) :: st) (f_W xs I L) Q := Wp.zald e144_19 ht hi
theorem e144_20 : decode (j_co 144) 20 = .ok (.ifCond .ne 7, 3) := by decide +kernel
set_option maxRecDepth 20000 in
theorem w144_20 {d : Nat} {st : List Value} {Q : Option Value × jW → Prop} {ls : jL} {w : jW} {a : Int32} : Wp d 144 20 ls (.int a :: st) w Q = ((a = nI 0 → Wp d 144 23 ls st w Q) ∧ (¬ a = nI 0 → Wp d 144 27 ls st w Q)) := Wp.if2n (c := a = nI 0) (off := 7) e144_20 rfl rfl rfl rfl rfl
theorem e144_23 : decode (j_co 144) 23 = .ok (.iconst 1, 1) := by decide +kernel
set_option maxRecDepth 20000 in
theorem w144_23 {d : Nat} {st : List Value} {Q : Option Value × jW → Prop} {ls : jL} {w : jW} : Wp d 144 23 ls (st) w Q = Wp d 144 24 ls (.int (nI 1) :: st) w Q := Wp.alu e144_23 rfl rfl
theorem e144_24 : decode (j_co 144) 24 = .ok (.goto 4, 3) := by decide +kernel
set_option maxRecDepth 20000 in
theorem w144_24 {d : Nat} {st : List Value} {Q : Option Value × jW → Prop} {ls : jL} {w : jW} : Wp d 144 24 ls (st) w Q = Wp d 144 28 ls (st) w Q := Wp.br e144_24 (Or.inl rfl) rfl rfl rfl rfl
theorem e144_27 : decode (j_co 144) 27 = .ok (.iconst 0, 1) := by decide +kernel
set_option maxRecDepth 20000 in
theorem w144_27 {d : Nat} {st : List Value} {Q : Option Value × jW → Prop} {ls : jL} {w : jW} : Wp d 144 27 ls (st) w Q = Wp d 144 28 ls (.int (nI 0) :: st) w Q := Wp.alu e144_27 rfl rfl
theorem e144_28 : decode (j_co 144) 28 = .ok (.istore_n 2, 1) := by decide +kernel
set_option maxRecDepth 20000 in
theorem w144_28 {d : Nat} {st : List Value} {Q : Option Value × jW → Prop} {w : jW} {a0 a1 a2 a3 : Option Value} {x : Int32} (h : j_cp a1) : Wp d 144 28 [a0, a1, a2, a3] (.int x :: st) w Q = Wp d 144 29 [a0, a1, some (.int x), a3] (st) w Q := Wp.loc e144_28 rfl rfl (v_stI (ls := [a0, a1, a2, a3]) (k := 2) (show 2 < 4 by decide) h)
theorem e144_29 : decode (j_co 144) 29 = .ok (.aload_n 0, 1) := by decide +kernel
set_option maxRecDepth 20000 in
theorem w144_29 {d : Nat} {st : List Value} {Q : Option Value × jW → Prop} {w : jW} {a1 a2 a3 : Option Value} {x : Nat} : Wp d 144 29 [some (.ref x), a1, a2, a3] (st) w Q = Wp d 144 30 [some (.ref x), a1, a2, a3] (.ref x :: st) w Q := Wp.loc e144_29 rfl rfl rfl
theorem e144_30 : decode (j_co 144) 30 = .ok (.getfield 57, 3) := by decide +kernel
set_option maxRecDepth 20000 in
theorem w144_30 {d : Nat} {st : List Value} {Q : Option Value × jW → Prop} {ls : jL} {xs : List Value} {I : fI} {L : fL} {o : Nat} (ht : f_tg o = 11) : Wp d 144 30 ls (.ref o :: st) (f_W xs I L) Q = Wp d 144 33 ls (.ref (f_rf o 19) :: st) (f_W xs I L) Q := Wp.getR (ci := 11) (k := 19) e144_30 rfl (by decide) (by decide) rfl ht
theorem e144_33 : decode (j_co 144) 33 = .ok (.iload_n 3, 1) := by decide +kernel
set_option maxRecDepth 20000 in
theorem w144_33 {d : Nat} {st : List Value} {Q : Option Value × jW → Prop} {w : jW} {a0 a1 a2 : Option Value} {x : Int32} : Wp d 144 33 [a0, a1, a2, some (.int x)] (st) w Q = Wp d 144 34 [a0, a1, a2, some (.int x)] (.int x :: st) w Q := Wp.loc e144_33 rfl rfl rfl
theorem e144_34 : decode (j_co 144) 34 = .ok (.iaload, 1) := by decide +kernel
set_option maxRecDepth 20000 in
theorem w144_34 {d : Nat} {st : List Value} {Q : Option Value × jW → Prop} {ls : jL} {xs : List Value} {I : fI} {L : fL} {o : Nat} {i : Int32} (ht : f_tg o = 100) (hi : ¬ (i < 0 ∨ f_ln o ≤ i.toNatClampNeg)) : Wp d 144 34 ls (.int i :: .ref o :: st) (f_W xs I L) Q = Wp d 144 35 ls (.int (I o i.toNatClampNeg) :: st) (f_W xs I L) Q := Wp.iald e144_34 ht hi
theorem e144_35 : decode (j_co 144) 35 = .ok (.istore_n 3, 1) := by decide +kernel
set_option maxRecDepth 20000 in
theorem w144_35 {d : Nat} {st : List Value} {Q : Option Value × jW → Prop} {w : jW} {a0 a1 a2 a3 : Option Value} {x : Int32} (h : j_cp a2) : Wp d 144 35 [a0, a1, a2, a3] (.int x :: st) w Q = Wp d 144 36 [a0, a1, a2, some (.int x)] (st) w Q := Wp.loc e144_35 rfl rfl (v_stI (ls := [a0, a1, a2, a3]) (k := 3) (show 3 < 4 by decide) h)
theorem e144_36 : decode (j_co 144) 36 = .ok (.goto (-32), 3) := by decide +kernel
set_option maxRecDepth 20000 in
theorem w144_36 {d : Nat} {st : List Value} {Q : Option Value × jW → Prop} {ls : jL} {w : jW} : Wp d 144 36 ls (st) w Q = Wp d 144 4 ls (st) w Q := Wp.br e144_36 (Or.inl rfl) rfl rfl rfl rfl
theorem e144_39 : decode (j_co 144) 39 = .ok (.iload_n 2, 1) := by decide +kernel
set_option maxRecDepth 20000 in
theorem w144_39 {d : Nat} {st : List Value} {Q : Option Value × jW → Prop} {w : jW} {a0 a1 a3 : Option Value} {x : Int32} : Wp d 144 39 [a0, a1, some (.int x), a3] (st) w Q = Wp d 144 40 [a0, a1, some (.int x), a3] (.int x :: st) w Q := Wp.loc e144_39 rfl rfl rfl
theorem e144_40 : decode (j_co 144) 40 = .ok (.ireturn, 1) := by decide +kernel
set_option maxRecDepth 20000 in
theorem w144_40 {d : Nat} {Q : Option Value × jW → Prop} {ls : jL} {w : jW} {x : Int32} (hx : x = 0 ∨ x = 1) : Wp d 144 40 ls [.int x] w Q = Q (some (.int x), w) := Wp.ret e144_40 (by rcases hx with rfl | rfl <;> rfl)
/-! M.heap -/
theorem e145_0 : decode (j_co 145) 0 = .ok (.aload_n 0, 1) := by decide +kernel
set_option maxRecDepth 20000 in
theorem w145_0 {d : Nat} {st : List Value} {Q : Option Value × jW → Prop} {w : jW} {a1 a2 : Option Value} {x : Nat} : Wp d 145 0 [some (.ref x), a1, a2] (st) w Q = Wp d 145 1 [some (.ref x), a1, a2] (.ref x :: st) w Q := Wp.loc e145_0 rfl rfl rfl
theorem e145_1 : decode (j_co 145) 1 = .ok (.invokevirtual 191, 3) := by decide +kernel
set_option maxRecDepth 20000 in
theorem w145_1 {d : Nat} {st : List Value} {Q : Option Value × jW → Prop} {ls : jL} {xs : List Value} {I : fI} {L : fL} {r : Nat} (hs : j_sumc st ≤ 8) (ht : f_tg r = 11) : Wp (d + 1) 145 1 ls (.ref r :: st) (f_W xs I L) Q = Wp d 128 0 [some (.ref r), none] [] (f_W xs I L) (fun r1 => Wp (d + 1) 145 4 ls (r1.1.toList ++ st) r1.2 Q) := Wp.cv (y' := 128) (as := []) e145_1 rfl (by decide) rfl (show 1 ≤ 2 by decide) (by decide) hs ht
theorem e145_4 : decode (j_co 145) 4 = .ok (.iload_n 1, 1) := by decide +kernel
set_option maxRecDepth 20000 in
theorem w145_4 {d : Nat} {st : List Value} {Q : Option Value × jW → Prop} {w : jW} {a0 a2 : Option Value} {x : Int32} : Wp d 145 4 [a0, some (.int x), a2] (st) w Q = Wp d 145 5 [a0, some (.int x), a2] (.int x :: st) w Q := Wp.loc e145_4 rfl rfl rfl
theorem e145_5 : decode (j_co 145) 5 = .ok (.i2l, 1) := by decide +kernel
set_option maxRecDepth 20000 in
theorem w145_5 {d : Nat} {st : List Value} {Q : Option Value × jW → Prop} {ls : jL} {w : jW} {a : Int32} : Wp d 145 5 ls (.int a :: st) w Q = Wp d 145 6 ls (.long a.toInt64 :: st) w Q := Wp.alu e145_5 rfl rfl
theorem e145_6 : decode (j_co 145) 6 = .ok (.lconst 0, 1) := by decide +kernel
set_option maxRecDepth 20000 in
theorem w145_6 {d : Nat} {st : List Value} {Q : Option Value × jW → Prop} {ls : jL} {w : jW} : Wp d 145 6 ls (st) w Q = Wp d 145 7 ls (.long (lN 0) :: st) w Q := Wp.alu e145_6 rfl rfl
theorem e145_7 : decode (j_co 145) 7 = .ok (.aload_n 0, 1) := by decide +kernel
set_option maxRecDepth 20000 in
theorem w145_7 {d : Nat} {st : List Value} {Q : Option Value × jW → Prop} {w : jW} {a1 a2 : Option Value} {x : Nat} : Wp d 145 7 [some (.ref x), a1, a2] (st) w Q = Wp d 145 8 [some (.ref x), a1, a2] (.ref x :: st) w Q := Wp.loc e145_7 rfl rfl rfl
theorem e145_8 : decode (j_co 145) 8 = .ok (.getfield 135, 3) := by decide +kernel
set_option maxRecDepth 20000 in
theorem w145_8 {d : Nat} {st : List Value} {Q : Option Value × jW → Prop} {ls : jL} {xs : List Value} {I : fI} {L : fL} {o : Nat} (ht : f_tg o = 11) : Wp d 145 8 ls (.ref o :: st) (f_W xs I L) Q = Wp d 145 11 ls (.int (I o 16) :: st) (f_W xs I L) Q := Wp.getI (ci := 11) (k := 16) e145_8 rfl (by decide) (by decide) (by decide) ht
theorem e145_11 : decode (j_co 145) 11 = .ok (.iconst 1, 1) := by decide +kernel
set_option maxRecDepth 20000 in
theorem w145_11 {d : Nat} {st : List Value} {Q : Option Value × jW → Prop} {ls : jL} {w : jW} : Wp d 145 11 ls (st) w Q = Wp d 145 12 ls (.int (nI 1) :: st) w Q := Wp.alu e145_11 rfl rfl
theorem e145_12 : decode (j_co 145) 12 = .ok (.isub, 1) := by decide +kernel
set_option maxRecDepth 20000 in
theorem w145_12 {d : Nat} {st : List Value} {Q : Option Value × jW → Prop} {ls : jL} {w : jW} {a b : Int32} : Wp d 145 12 ls (.int b :: .int a :: st) w Q = Wp d 145 13 ls (.int (a - b) :: st) w Q := Wp.alu e145_12 rfl rfl
theorem e145_13 : decode (j_co 145) 13 = .ok (.i2l, 1) := by decide +kernel
set_option maxRecDepth 20000 in
theorem w145_13 {d : Nat} {st : List Value} {Q : Option Value × jW → Prop} {ls : jL} {w : jW} {a : Int32} : Wp d 145 13 ls (.int a :: st) w Q = Wp d 145 14 ls (.long a.toInt64 :: st) w Q := Wp.alu e145_13 rfl rfl
theorem e145_14 : decode (j_co 145) 14 = .ok (.invokestatic 93, 3) := by decide +kernel
set_option maxRecDepth 20000 in
theorem w145_14 {d : Nat} {st : List Value} {Q : Option Value × jW → Prop} {ls : jL} {w : jW} {x0 : Int64} {x1 : Int64} {x2 : Int64} (hs : j_sumc st ≤ 8) : Wp (d + 1) 145 14 ls (.long x2 :: .long x1 :: .long x0 :: st) w Q = Wp d 115 0 [some (.long x0), none, some (.long x1), none, some (.long x2), none] [] w (fun r1 => Wp (d + 1) 145 17 ls (r1.1.toList ++ st) r1.2 Q) := Wp.cs (kd := 1) (y' := 115) (as := [.long x0, .long x1, .long x2]) e145_14 rfl (by decide) (by decide) rfl (show 6 ≤ 6 by decide) hs
theorem e145_17 : decode (j_co 145) 17 = .ok (.ifCond .ne 5, 3) := by decide +kernel
set_option maxRecDepth 20000 in
theorem w145_17 {d : Nat} {st : List Value} {Q : Option Value × jW → Prop} {ls : jL} {w : jW} {a : Int32} : Wp d 145 17 ls (.int a :: st) w Q = ((a = nI 0 → Wp d 145 20 ls st w Q) ∧ (¬ a = nI 0 → Wp d 145 22 ls st w Q)) := Wp.if2n (c := a = nI 0) (off := 5) e145_17 rfl rfl rfl rfl rfl
theorem e145_20 : decode (j_co 145) 20 = .ok (.iconst (-1), 1) := by decide +kernel
set_option maxRecDepth 20000 in
theorem w145_20 {d : Nat} {st : List Value} {Q : Option Value × jW → Prop} {ls : jL} {w : jW} : Wp d 145 20 ls (st) w Q = Wp d 145 21 ls (.int (-1) :: st) w Q := Wp.alu e145_20 rfl rfl
theorem e145_21 : decode (j_co 145) 21 = .ok (.ireturn, 1) := by decide +kernel
set_option maxRecDepth 20000 in
theorem w145_21 {d : Nat} {Q : Option Value × jW → Prop} {ls : jL} {w : jW} {x : Int32} : Wp d 145 21 ls [.int x] w Q = Q (some (.int x), w) := Wp.ret e145_21 rfl
theorem e145_22 : decode (j_co 145) 22 = .ok (.iload_n 2, 1) := by decide +kernel
set_option maxRecDepth 20000 in
theorem w145_22 {d : Nat} {st : List Value} {Q : Option Value × jW → Prop} {w : jW} {a0 a1 : Option Value} {x : Int32} : Wp d 145 22 [a0, a1, some (.int x)] (st) w Q = Wp d 145 23 [a0, a1, some (.int x)] (.int x :: st) w Q := Wp.loc e145_22 rfl rfl rfl
theorem e145_23 : decode (j_co 145) 23 = .ok (.tableswitch 101 0 5 #[37, 44, 51, 58, 73, 87], 37) := by decide +kernel
theorem e145_60 : decode (j_co 145) 60 = .ok (.aload_n 0, 1) := by decide +kernel
set_option maxRecDepth 20000 in
theorem w145_60 {d : Nat} {st : List Value} {Q : Option Value × jW → Prop} {w : jW} {a1 a2 : Option Value} {x : Nat} : Wp d 145 60 [some (.ref x), a1, a2] (st) w Q = Wp d 145 61 [some (.ref x), a1, a2] (.ref x :: st) w Q := Wp.loc e145_60 rfl rfl rfl
theorem e145_61 : decode (j_co 145) 61 = .ok (.getfield 51, 3) := by decide +kernel
set_option maxRecDepth 20000 in
theorem w145_61 {d : Nat} {st : List Value} {Q : Option Value × jW → Prop} {ls : jL} {xs : List Value} {I : fI} {L : fL} {o : Nat} (ht : f_tg o = 11) : Wp d 145 61 ls (.ref o :: st) (f_W xs I L) Q = Wp d 145 64 ls (.ref (f_rf o 17) :: st) (f_W xs I L) Q := Wp.getR (ci := 11) (k := 17) e145_61 rfl (by decide) (by decide) rfl ht
theorem e145_64 : decode (j_co 145) 64 = .ok (.iload_n 1, 1) := by decide +kernel
set_option maxRecDepth 20000 in
theorem w145_64 {d : Nat} {st : List Value} {Q : Option Value × jW → Prop} {w : jW} {a0 a2 : Option Value} {x : Int32} : Wp d 145 64 [a0, some (.int x), a2] (st) w Q = Wp d 145 65 [a0, some (.int x), a2] (.int x :: st) w Q := Wp.loc e145_64 rfl rfl rfl
theorem e145_65 : decode (j_co 145) 65 = .ok (.iaload, 1) := by decide +kernel
set_option maxRecDepth 20000 in
theorem w145_65 {d : Nat} {st : List Value} {Q : Option Value × jW → Prop} {ls : jL} {xs : List Value} {I : fI} {L : fL} {o : Nat} {i : Int32} (ht : f_tg o = 100) (hi : ¬ (i < 0 ∨ f_ln o ≤ i.toNatClampNeg)) : Wp d 145 65 ls (.int i :: .ref o :: st) (f_W xs I L) Q = Wp d 145 66 ls (.int (I o i.toNatClampNeg) :: st) (f_W xs I L) Q := Wp.iald e145_65 ht hi
theorem e145_66 : decode (j_co 145) 66 = .ok (.ireturn, 1) := by decide +kernel
set_option maxRecDepth 20000 in
theorem w145_66 {d : Nat} {Q : Option Value × jW → Prop} {ls : jL} {w : jW} {x : Int32} : Wp d 145 66 ls [.int x] w Q = Q (some (.int x), w) := Wp.ret e145_66 rfl
theorem e145_67 : decode (j_co 145) 67 = .ok (.aload_n 0, 1) := by decide +kernel
set_option maxRecDepth 20000 in
theorem w145_67 {d : Nat} {st : List Value} {Q : Option Value × jW → Prop} {w : jW} {a1 a2 : Option Value} {x : Nat} : Wp d 145 67 [some (.ref x), a1, a2] (st) w Q = Wp d 145 68 [some (.ref x), a1, a2] (.ref x :: st) w Q := Wp.loc e145_67 rfl rfl rfl
theorem e145_68 : decode (j_co 145) 68 = .ok (.getfield 57, 3) := by decide +kernel
set_option maxRecDepth 20000 in
theorem w145_68 {d : Nat} {st : List Value} {Q : Option Value × jW → Prop} {ls : jL} {xs : List Value} {I : fI} {L : fL} {o : Nat} (ht : f_tg o = 11) : Wp d 145 68 ls (.ref o :: st) (f_W xs I L) Q = Wp d 145 71 ls (.ref (f_rf o 19) :: st) (f_W xs I L) Q := Wp.getR (ci := 11) (k := 19) e145_68 rfl (by decide) (by decide) rfl ht
theorem e145_71 : decode (j_co 145) 71 = .ok (.iload_n 1, 1) := by decide +kernel
set_option maxRecDepth 20000 in
theorem w145_71 {d : Nat} {st : List Value} {Q : Option Value × jW → Prop} {w : jW} {a0 a2 : Option Value} {x : Int32} : Wp d 145 71 [a0, some (.int x), a2] (st) w Q = Wp d 145 72 [a0, some (.int x), a2] (.int x :: st) w Q := Wp.loc e145_71 rfl rfl rfl
theorem e145_72 : decode (j_co 145) 72 = .ok (.iaload, 1) := by decide +kernel
set_option maxRecDepth 20000 in
theorem w145_72 {d : Nat} {st : List Value} {Q : Option Value × jW → Prop} {ls : jL} {xs : List Value} {I : fI} {L : fL} {o : Nat} {i : Int32} (ht : f_tg o = 100) (hi : ¬ (i < 0 ∨ f_ln o ≤ i.toNatClampNeg)) : Wp d 145 72 ls (.int i :: .ref o :: st) (f_W xs I L) Q = Wp d 145 73 ls (.int (I o i.toNatClampNeg) :: st) (f_W xs I L) Q := Wp.iald e145_72 ht hi
theorem e145_73 : decode (j_co 145) 73 = .ok (.ireturn, 1) := by decide +kernel
set_option maxRecDepth 20000 in
theorem w145_73 {d : Nat} {Q : Option Value × jW → Prop} {ls : jL} {w : jW} {x : Int32} : Wp d 145 73 ls [.int x] w Q = Q (some (.int x), w) := Wp.ret e145_73 rfl
theorem e145_74 : decode (j_co 145) 74 = .ok (.aload_n 0, 1) := by decide +kernel
set_option maxRecDepth 20000 in
theorem w145_74 {d : Nat} {st : List Value} {Q : Option Value × jW → Prop} {w : jW} {a1 a2 : Option Value} {x : Nat} : Wp d 145 74 [some (.ref x), a1, a2] (st) w Q = Wp d 145 75 [some (.ref x), a1, a2] (.ref x :: st) w Q := Wp.loc e145_74 rfl rfl rfl
theorem e145_75 : decode (j_co 145) 75 = .ok (.getfield 60, 3) := by decide +kernel
set_option maxRecDepth 20000 in
theorem w145_75 {d : Nat} {st : List Value} {Q : Option Value × jW → Prop} {ls : jL} {xs : List Value} {I : fI} {L : fL} {o : Nat} (ht : f_tg o = 11) : Wp d 145 75 ls (.ref o :: st) (f_W xs I L) Q = Wp d 145 78 ls (.ref (f_rf o 20) :: st) (f_W xs I L) Q := Wp.getR (ci := 11) (k := 20) e145_75 rfl (by decide) (by decide) rfl ht
theorem e145_78 : decode (j_co 145) 78 = .ok (.iload_n 1, 1) := by decide +kernel
set_option maxRecDepth 20000 in
theorem w145_78 {d : Nat} {st : List Value} {Q : Option Value × jW → Prop} {w : jW} {a0 a2 : Option Value} {x : Int32} : Wp d 145 78 [a0, some (.int x), a2] (st) w Q = Wp d 145 79 [a0, some (.int x), a2] (.int x :: st) w Q := Wp.loc e145_78 rfl rfl rfl
theorem e145_79 : decode (j_co 145) 79 = .ok (.iaload, 1) := by decide +kernel
set_option maxRecDepth 20000 in
theorem w145_79 {d : Nat} {st : List Value} {Q : Option Value × jW → Prop} {ls : jL} {xs : List Value} {I : fI} {L : fL} {o : Nat} {i : Int32} (ht : f_tg o = 100) (hi : ¬ (i < 0 ∨ f_ln o ≤ i.toNatClampNeg)) : Wp d 145 79 ls (.int i :: .ref o :: st) (f_W xs I L) Q = Wp d 145 80 ls (.int (I o i.toNatClampNeg) :: st) (f_W xs I L) Q := Wp.iald e145_79 ht hi
theorem e145_80 : decode (j_co 145) 80 = .ok (.ireturn, 1) := by decide +kernel
set_option maxRecDepth 20000 in
theorem w145_80 {d : Nat} {Q : Option Value × jW → Prop} {ls : jL} {w : jW} {x : Int32} : Wp d 145 80 ls [.int x] w Q = Q (some (.int x), w) := Wp.ret e145_80 rfl
theorem e145_81 : decode (j_co 145) 81 = .ok (.aload_n 0, 1) := by decide +kernel
set_option maxRecDepth 20000 in
theorem w145_81 {d : Nat} {st : List Value} {Q : Option Value × jW → Prop} {w : jW} {a1 a2 : Option Value} {x : Nat} : Wp d 145 81 [some (.ref x), a1, a2] (st) w Q = Wp d 145 82 [some (.ref x), a1, a2] (.ref x :: st) w Q := Wp.loc e145_81 rfl rfl rfl
theorem e145_82 : decode (j_co 145) 82 = .ok (.getfield 63, 3) := by decide +kernel
set_option maxRecDepth 20000 in
theorem w145_82 {d : Nat} {st : List Value} {Q : Option Value × jW → Prop} {ls : jL} {xs : List Value} {I : fI} {L : fL} {o : Nat} (ht : f_tg o = 11) : Wp d 145 82 ls (.ref o :: st) (f_W xs I L) Q = Wp d 145 85 ls (.ref (f_rf o 21) :: st) (f_W xs I L) Q := Wp.getR (ci := 11) (k := 21) e145_82 rfl (by decide) (by decide) rfl ht
theorem e145_85 : decode (j_co 145) 85 = .ok (.iload_n 1, 1) := by decide +kernel
set_option maxRecDepth 20000 in
theorem w145_85 {d : Nat} {st : List Value} {Q : Option Value × jW → Prop} {w : jW} {a0 a2 : Option Value} {x : Int32} : Wp d 145 85 [a0, some (.int x), a2] (st) w Q = Wp d 145 86 [a0, some (.int x), a2] (.int x :: st) w Q := Wp.loc e145_85 rfl rfl rfl
theorem e145_86 : decode (j_co 145) 86 = .ok (.baload, 1) := by decide +kernel
set_option maxRecDepth 20000 in
theorem w145_86 {d : Nat} {st : List Value} {Q : Option Value × jW → Prop} {ls : jL} {xs : List Value} {I : fI} {L : fL} {o : Nat} {i : Int32} (ht : f_tg o = 101) (hi : ¬ (i < 0 ∨ f_ln o ≤ i.toNatClampNeg)) : Wp d 145 86 ls (.int i :: .ref o :: st) (f_W xs I L) Q = Wp d 145 87 ls (.int (I o i.toNatClampNeg) :: st) (f_W xs I L) Q := Wp.zald e145_86 ht hi
theorem e145_87 : decode (j_co 145) 87 = .ok (.ifCond .eq 7, 3) := by decide +kernel
set_option maxRecDepth 20000 in
theorem w145_87 {d : Nat} {st : List Value} {Q : Option Value × jW → Prop} {ls : jL} {w : jW} {a : Int32} : Wp d 145 87 ls (.int a :: st) w Q = ((a = nI 0 → Wp d 145 94 ls st w Q) ∧ (¬ a = nI 0 → Wp d 145 90 ls st w Q)) := Wp.if2 (c := a = nI 0) (off := 7) e145_87 rfl rfl rfl rfl rfl
theorem e145_90 : decode (j_co 145) 90 = .ok (.iconst 1, 1) := by decide +kernel
set_option maxRecDepth 20000 in
theorem w145_90 {d : Nat} {st : List Value} {Q : Option Value × jW → Prop} {ls : jL} {w : jW} : Wp d 145 90 ls (st) w Q = Wp d 145 91 ls (.int (nI 1) :: st) w Q := Wp.alu e145_90 rfl rfl
theorem e145_91 : decode (j_co 145) 91 = .ok (.goto 4, 3) := by decide +kernel
set_option maxRecDepth 20000 in
theorem w145_91 {d : Nat} {st : List Value} {Q : Option Value × jW → Prop} {ls : jL} {w : jW} : Wp d 145 91 ls (st) w Q = Wp d 145 95 ls (st) w Q := Wp.br e145_91 (Or.inl rfl) rfl rfl rfl rfl
theorem e145_94 : decode (j_co 145) 94 = .ok (.iconst 0, 1) := by decide +kernel
set_option maxRecDepth 20000 in
theorem w145_94 {d : Nat} {st : List Value} {Q : Option Value × jW → Prop} {ls : jL} {w : jW} : Wp d 145 94 ls (st) w Q = Wp d 145 95 ls (.int (nI 0) :: st) w Q := Wp.alu e145_94 rfl rfl
theorem e145_95 : decode (j_co 145) 95 = .ok (.ireturn, 1) := by decide +kernel
set_option maxRecDepth 20000 in
theorem w145_95 {d : Nat} {Q : Option Value × jW → Prop} {ls : jL} {w : jW} {x : Int32} : Wp d 145 95 ls [.int x] w Q = Q (some (.int x), w) := Wp.ret e145_95 rfl
theorem e145_96 : decode (j_co 145) 96 = .ok (.aload_n 0, 1) := by decide +kernel
set_option maxRecDepth 20000 in
theorem w145_96 {d : Nat} {st : List Value} {Q : Option Value × jW → Prop} {w : jW} {a1 a2 : Option Value} {x : Nat} : Wp d 145 96 [some (.ref x), a1, a2] (st) w Q = Wp d 145 97 [some (.ref x), a1, a2] (.ref x :: st) w Q := Wp.loc e145_96 rfl rfl rfl
theorem e145_97 : decode (j_co 145) 97 = .ok (.iload_n 1, 1) := by decide +kernel
set_option maxRecDepth 20000 in
theorem w145_97 {d : Nat} {st : List Value} {Q : Option Value × jW → Prop} {w : jW} {a0 a2 : Option Value} {x : Int32} : Wp d 145 97 [a0, some (.int x), a2] (st) w Q = Wp d 145 98 [a0, some (.int x), a2] (.int x :: st) w Q := Wp.loc e145_97 rfl rfl rfl
theorem e145_98 : decode (j_co 145) 98 = .ok (.invokevirtual 182, 3) := by decide +kernel
set_option maxRecDepth 20000 in
theorem w145_98 {d : Nat} {st : List Value} {Q : Option Value × jW → Prop} {ls : jL} {xs : List Value} {I : fI} {L : fL} {r : Nat} {x0 : Int32} (hs : j_sumc st ≤ 8) (ht : f_tg r = 11) : Wp (d + 1) 145 98 ls (.int x0 :: .ref r :: st) (f_W xs I L) Q = Wp d 144 0 [some (.ref r), some (.int x0), none, none] [] (f_W xs I L) (fun r1 => Wp (d + 1) 145 101 ls (r1.1.toList ++ st) r1.2 Q) := Wp.cv (y' := 144) (as := [.int x0]) e145_98 rfl (by decide) rfl (show 2 ≤ 4 by decide) (by decide) hs ht
theorem e145_101 : decode (j_co 145) 101 = .ok (.ifCond .eq 7, 3) := by decide +kernel
set_option maxRecDepth 20000 in
theorem w145_101 {d : Nat} {st : List Value} {Q : Option Value × jW → Prop} {ls : jL} {w : jW} {a : Int32} : Wp d 145 101 ls (.int a :: st) w Q = ((a = nI 0 → Wp d 145 108 ls st w Q) ∧ (¬ a = nI 0 → Wp d 145 104 ls st w Q)) := Wp.if2 (c := a = nI 0) (off := 7) e145_101 rfl rfl rfl rfl rfl
theorem e145_104 : decode (j_co 145) 104 = .ok (.iconst 1, 1) := by decide +kernel
set_option maxRecDepth 20000 in
theorem w145_104 {d : Nat} {st : List Value} {Q : Option Value × jW → Prop} {ls : jL} {w : jW} : Wp d 145 104 ls (st) w Q = Wp d 145 105 ls (.int (nI 1) :: st) w Q := Wp.alu e145_104 rfl rfl
theorem e145_105 : decode (j_co 145) 105 = .ok (.goto 4, 3) := by decide +kernel
set_option maxRecDepth 20000 in
theorem w145_105 {d : Nat} {st : List Value} {Q : Option Value × jW → Prop} {ls : jL} {w : jW} : Wp d 145 105 ls (st) w Q = Wp d 145 109 ls (st) w Q := Wp.br e145_105 (Or.inl rfl) rfl rfl rfl rfl
theorem e145_108 : decode (j_co 145) 108 = .ok (.iconst 0, 1) := by decide +kernel
set_option maxRecDepth 20000 in
theorem w145_108 {d : Nat} {st : List Value} {Q : Option Value × jW → Prop} {ls : jL} {w : jW} : Wp d 145 108 ls (st) w Q = Wp d 145 109 ls (.int (nI 0) :: st) w Q := Wp.alu e145_108 rfl rfl
theorem e145_109 : decode (j_co 145) 109 = .ok (.ireturn, 1) := by decide +kernel
set_option maxRecDepth 20000 in
theorem w145_109 {d : Nat} {Q : Option Value × jW → Prop} {ls : jL} {w : jW} {x : Int32} : Wp d 145 109 ls [.int x] w Q = Q (some (.int x), w) := Wp.ret e145_109 rfl
theorem e145_110 : decode (j_co 145) 110 = .ok (.aload_n 0, 1) := by decide +kernel
set_option maxRecDepth 20000 in
theorem w145_110 {d : Nat} {st : List Value} {Q : Option Value × jW → Prop} {w : jW} {a1 a2 : Option Value} {x : Nat} : Wp d 145 110 [some (.ref x), a1, a2] (st) w Q = Wp d 145 111 [some (.ref x), a1, a2] (.ref x :: st) w Q := Wp.loc e145_110 rfl rfl rfl
theorem e145_111 : decode (j_co 145) 111 = .ok (.iload_n 1, 1) := by decide +kernel
set_option maxRecDepth 20000 in
theorem w145_111 {d : Nat} {st : List Value} {Q : Option Value × jW → Prop} {w : jW} {a0 a2 : Option Value} {x : Int32} : Wp d 145 111 [a0, some (.int x), a2] (st) w Q = Wp d 145 112 [a0, some (.int x), a2] (.int x :: st) w Q := Wp.loc e145_111 rfl rfl rfl
theorem e145_112 : decode (j_co 145) 112 = .ok (.invokevirtual 185, 3) := by decide +kernel
set_option maxRecDepth 20000 in
theorem w145_112 {d : Nat} {st : List Value} {Q : Option Value × jW → Prop} {ls : jL} {xs : List Value} {I : fI} {L : fL} {r : Nat} {x0 : Int32} (hs : j_sumc st ≤ 8) (ht : f_tg r = 11) : Wp (d + 1) 145 112 ls (.int x0 :: .ref r :: st) (f_W xs I L) Q = Wp d 142 0 [some (.ref r), some (.int x0)] [] (f_W xs I L) (fun r1 => Wp (d + 1) 145 115 ls (r1.1.toList ++ st) r1.2 Q) := Wp.cv (y' := 142) (as := [.int x0]) e145_112 rfl (by decide) rfl (show 2 ≤ 2 by decide) (by decide) hs ht
theorem e145_115 : decode (j_co 145) 115 = .ok (.ifCond .eq 7, 3) := by decide +kernel
set_option maxRecDepth 20000 in
theorem w145_115 {d : Nat} {st : List Value} {Q : Option Value × jW → Prop} {ls : jL} {w : jW} {a : Int32} : Wp d 145 115 ls (.int a :: st) w Q = ((a = nI 0 → Wp d 145 122 ls st w Q) ∧ (¬ a = nI 0 → Wp d 145 118 ls st w Q)) := Wp.if2 (c := a = nI 0) (off := 7) e145_115 rfl rfl rfl rfl rfl
theorem e145_118 : decode (j_co 145) 118 = .ok (.iconst 1, 1) := by decide +kernel
set_option maxRecDepth 20000 in
theorem w145_118 {d : Nat} {st : List Value} {Q : Option Value × jW → Prop} {ls : jL} {w : jW} : Wp d 145 118 ls (st) w Q = Wp d 145 119 ls (.int (nI 1) :: st) w Q := Wp.alu e145_118 rfl rfl
theorem e145_119 : decode (j_co 145) 119 = .ok (.goto 4, 3) := by decide +kernel
set_option maxRecDepth 20000 in
theorem w145_119 {d : Nat} {st : List Value} {Q : Option Value × jW → Prop} {ls : jL} {w : jW} : Wp d 145 119 ls (st) w Q = Wp d 145 123 ls (st) w Q := Wp.br e145_119 (Or.inl rfl) rfl rfl rfl rfl
theorem e145_122 : decode (j_co 145) 122 = .ok (.iconst 0, 1) := by decide +kernel
set_option maxRecDepth 20000 in
theorem w145_122 {d : Nat} {st : List Value} {Q : Option Value × jW → Prop} {ls : jL} {w : jW} : Wp d 145 122 ls (st) w Q = Wp d 145 123 ls (.int (nI 0) :: st) w Q := Wp.alu e145_122 rfl rfl
theorem e145_123 : decode (j_co 145) 123 = .ok (.ireturn, 1) := by decide +kernel
set_option maxRecDepth 20000 in
theorem w145_123 {d : Nat} {Q : Option Value × jW → Prop} {ls : jL} {w : jW} {x : Int32} : Wp d 145 123 ls [.int x] w Q = Q (some (.int x), w) := Wp.ret e145_123 rfl
theorem e145_124 : decode (j_co 145) 124 = .ok (.iconst (-1), 1) := by decide +kernel
set_option maxRecDepth 20000 in
theorem w145_124 {d : Nat} {st : List Value} {Q : Option Value × jW → Prop} {ls : jL} {w : jW} : Wp d 145 124 ls (st) w Q = Wp d 145 125 ls (.int (-1) :: st) w Q := Wp.alu e145_124 rfl rfl
theorem e145_125 : decode (j_co 145) 125 = .ok (.ireturn, 1) := by decide +kernel
set_option maxRecDepth 20000 in
theorem w145_125 {d : Nat} {Q : Option Value × jW → Prop} {ls : jL} {w : jW} {x : Int32} : Wp d 145 125 ls [.int x] w Q = Q (some (.int x), w) := Wp.ret e145_125 rfl
/-! M.side -/
theorem e146_0 : decode (j_co 146) 0 = .ok (.aload_n 0, 1) := by decide +kernel
set_option maxRecDepth 20000 in
theorem w146_0 {d : Nat} {st : List Value} {Q : Option Value × jW → Prop} {w : jW} {a1 a2 a3 : Option Value} {x : Nat} : Wp d 146 0 [some (.ref x), a1, a2, a3] (st) w Q = Wp d 146 1 [some (.ref x), a1, a2, a3] (.ref x :: st) w Q := Wp.loc e146_0 rfl rfl rfl
theorem e146_1 : decode (j_co 146) 1 = .ok (.invokevirtual 191, 3) := by decide +kernel
set_option maxRecDepth 20000 in
theorem w146_1 {d : Nat} {st : List Value} {Q : Option Value × jW → Prop} {ls : jL} {xs : List Value} {I : fI} {L : fL} {r : Nat} (hs : j_sumc st ≤ 8) (ht : f_tg r = 11) : Wp (d + 1) 146 1 ls (.ref r :: st) (f_W xs I L) Q = Wp d 128 0 [some (.ref r), none] [] (f_W xs I L) (fun r1 => Wp (d + 1) 146 4 ls (r1.1.toList ++ st) r1.2 Q) := Wp.cv (y' := 128) (as := []) e146_1 rfl (by decide) rfl (show 1 ≤ 2 by decide) (by decide) hs ht
theorem e146_4 : decode (j_co 146) 4 = .ok (.iload_n 1, 1) := by decide +kernel
set_option maxRecDepth 20000 in
theorem w146_4 {d : Nat} {st : List Value} {Q : Option Value × jW → Prop} {w : jW} {a0 a2 a3 : Option Value} {x : Int32} : Wp d 146 4 [a0, some (.int x), a2, a3] (st) w Q = Wp d 146 5 [a0, some (.int x), a2, a3] (.int x :: st) w Q := Wp.loc e146_4 rfl rfl rfl
theorem e146_5 : decode (j_co 146) 5 = .ok (.i2l, 1) := by decide +kernel
set_option maxRecDepth 20000 in
theorem w146_5 {d : Nat} {st : List Value} {Q : Option Value × jW → Prop} {ls : jL} {w : jW} {a : Int32} : Wp d 146 5 ls (.int a :: st) w Q = Wp d 146 6 ls (.long a.toInt64 :: st) w Q := Wp.alu e146_5 rfl rfl
theorem e146_6 : decode (j_co 146) 6 = .ok (.lconst 0, 1) := by decide +kernel
set_option maxRecDepth 20000 in
theorem w146_6 {d : Nat} {st : List Value} {Q : Option Value × jW → Prop} {ls : jL} {w : jW} : Wp d 146 6 ls (st) w Q = Wp d 146 7 ls (.long (lN 0) :: st) w Q := Wp.alu e146_6 rfl rfl
theorem e146_7 : decode (j_co 146) 7 = .ok (.aload_n 0, 1) := by decide +kernel
set_option maxRecDepth 20000 in
theorem w146_7 {d : Nat} {st : List Value} {Q : Option Value × jW → Prop} {w : jW} {a1 a2 a3 : Option Value} {x : Nat} : Wp d 146 7 [some (.ref x), a1, a2, a3] (st) w Q = Wp d 146 8 [some (.ref x), a1, a2, a3] (.ref x :: st) w Q := Wp.loc e146_7 rfl rfl rfl
theorem e146_8 : decode (j_co 146) 8 = .ok (.getfield 135, 3) := by decide +kernel
set_option maxRecDepth 20000 in
theorem w146_8 {d : Nat} {st : List Value} {Q : Option Value × jW → Prop} {ls : jL} {xs : List Value} {I : fI} {L : fL} {o : Nat} (ht : f_tg o = 11) : Wp d 146 8 ls (.ref o :: st) (f_W xs I L) Q = Wp d 146 11 ls (.int (I o 16) :: st) (f_W xs I L) Q := Wp.getI (ci := 11) (k := 16) e146_8 rfl (by decide) (by decide) (by decide) ht
theorem e146_11 : decode (j_co 146) 11 = .ok (.iconst 1, 1) := by decide +kernel
set_option maxRecDepth 20000 in
theorem w146_11 {d : Nat} {st : List Value} {Q : Option Value × jW → Prop} {ls : jL} {w : jW} : Wp d 146 11 ls (st) w Q = Wp d 146 12 ls (.int (nI 1) :: st) w Q := Wp.alu e146_11 rfl rfl
theorem e146_12 : decode (j_co 146) 12 = .ok (.isub, 1) := by decide +kernel
set_option maxRecDepth 20000 in
theorem w146_12 {d : Nat} {st : List Value} {Q : Option Value × jW → Prop} {ls : jL} {w : jW} {a b : Int32} : Wp d 146 12 ls (.int b :: .int a :: st) w Q = Wp d 146 13 ls (.int (a - b) :: st) w Q := Wp.alu e146_12 rfl rfl
theorem e146_13 : decode (j_co 146) 13 = .ok (.i2l, 1) := by decide +kernel
set_option maxRecDepth 20000 in
theorem w146_13 {d : Nat} {st : List Value} {Q : Option Value × jW → Prop} {ls : jL} {w : jW} {a : Int32} : Wp d 146 13 ls (.int a :: st) w Q = Wp d 146 14 ls (.long a.toInt64 :: st) w Q := Wp.alu e146_13 rfl rfl
theorem e146_14 : decode (j_co 146) 14 = .ok (.invokestatic 93, 3) := by decide +kernel
set_option maxRecDepth 20000 in
theorem w146_14 {d : Nat} {st : List Value} {Q : Option Value × jW → Prop} {ls : jL} {w : jW} {x0 : Int64} {x1 : Int64} {x2 : Int64} (hs : j_sumc st ≤ 8) : Wp (d + 1) 146 14 ls (.long x2 :: .long x1 :: .long x0 :: st) w Q = Wp d 115 0 [some (.long x0), none, some (.long x1), none, some (.long x2), none] [] w (fun r1 => Wp (d + 1) 146 17 ls (r1.1.toList ++ st) r1.2 Q) := Wp.cs (kd := 1) (y' := 115) (as := [.long x0, .long x1, .long x2]) e146_14 rfl (by decide) (by decide) rfl (show 6 ≤ 6 by decide) hs
theorem e146_17 : decode (j_co 146) 17 = .ok (.ifCond .eq 41, 3) := by decide +kernel
set_option maxRecDepth 20000 in
theorem w146_17 {d : Nat} {st : List Value} {Q : Option Value × jW → Prop} {ls : jL} {w : jW} {a : Int32} : Wp d 146 17 ls (.int a :: st) w Q = ((a = nI 0 → Wp d 146 58 ls st w Q) ∧ (¬ a = nI 0 → Wp d 146 20 ls st w Q)) := Wp.if2 (c := a = nI 0) (off := 41) e146_17 rfl rfl rfl rfl rfl
theorem e146_20 : decode (j_co 146) 20 = .ok (.iload_n 2, 1) := by decide +kernel
set_option maxRecDepth 20000 in
theorem w146_20 {d : Nat} {st : List Value} {Q : Option Value × jW → Prop} {w : jW} {a0 a1 a3 : Option Value} {x : Int32} : Wp d 146 20 [a0, a1, some (.int x), a3] (st) w Q = Wp d 146 21 [a0, a1, some (.int x), a3] (.int x :: st) w Q := Wp.loc e146_20 rfl rfl rfl
theorem e146_21 : decode (j_co 146) 21 = .ok (.i2l, 1) := by decide +kernel
set_option maxRecDepth 20000 in
theorem w146_21 {d : Nat} {st : List Value} {Q : Option Value × jW → Prop} {ls : jL} {w : jW} {a : Int32} : Wp d 146 21 ls (.int a :: st) w Q = Wp d 146 22 ls (.long a.toInt64 :: st) w Q := Wp.alu e146_21 rfl rfl
theorem e146_22 : decode (j_co 146) 22 = .ok (.lconst 0, 1) := by decide +kernel
set_option maxRecDepth 20000 in
theorem w146_22 {d : Nat} {st : List Value} {Q : Option Value × jW → Prop} {ls : jL} {w : jW} : Wp d 146 22 ls (st) w Q = Wp d 146 23 ls (.long (lN 0) :: st) w Q := Wp.alu e146_22 rfl rfl
theorem e146_23 : decode (j_co 146) 23 = .ok (.ldc2_w 100, 3) := by decide +kernel
set_option maxRecDepth 20000 in
theorem w146_23 {d : Nat} {st : List Value} {Q : Option Value × jW → Prop} {ls : jL} {w : jW} : Wp d 146 23 ls (st) w Q = Wp d 146 26 ls (.long (lN 2) :: st) w Q := Wp.ldc2 e146_23 rfl
theorem e146_26 : decode (j_co 146) 26 = .ok (.invokestatic 93, 3) := by decide +kernel
set_option maxRecDepth 20000 in
theorem w146_26 {d : Nat} {st : List Value} {Q : Option Value × jW → Prop} {ls : jL} {w : jW} {x0 : Int64} {x1 : Int64} {x2 : Int64} (hs : j_sumc st ≤ 8) : Wp (d + 1) 146 26 ls (.long x2 :: .long x1 :: .long x0 :: st) w Q = Wp d 115 0 [some (.long x0), none, some (.long x1), none, some (.long x2), none] [] w (fun r1 => Wp (d + 1) 146 29 ls (r1.1.toList ++ st) r1.2 Q) := Wp.cs (kd := 1) (y' := 115) (as := [.long x0, .long x1, .long x2]) e146_26 rfl (by decide) (by decide) rfl (show 6 ≤ 6 by decide) hs
theorem e146_29 : decode (j_co 146) 29 = .ok (.ifCond .eq 29, 3) := by decide +kernel
set_option maxRecDepth 20000 in
theorem w146_29 {d : Nat} {st : List Value} {Q : Option Value × jW → Prop} {ls : jL} {w : jW} {a : Int32} : Wp d 146 29 ls (.int a :: st) w Q = ((a = nI 0 → Wp d 146 58 ls st w Q) ∧ (¬ a = nI 0 → Wp d 146 32 ls st w Q)) := Wp.if2 (c := a = nI 0) (off := 29) e146_29 rfl rfl rfl rfl rfl
theorem e146_32 : decode (j_co 146) 32 = .ok (.aload_n 0, 1) := by decide +kernel
set_option maxRecDepth 20000 in
theorem w146_32 {d : Nat} {st : List Value} {Q : Option Value × jW → Prop} {w : jW} {a1 a2 a3 : Option Value} {x : Nat} : Wp d 146 32 [some (.ref x), a1, a2, a3] (st) w Q = Wp d 146 33 [some (.ref x), a1, a2, a3] (.ref x :: st) w Q := Wp.loc e146_32 rfl rfl rfl
theorem e146_33 : decode (j_co 146) 33 = .ok (.getfield 54, 3) := by decide +kernel
set_option maxRecDepth 20000 in
theorem w146_33 {d : Nat} {st : List Value} {Q : Option Value × jW → Prop} {ls : jL} {xs : List Value} {I : fI} {L : fL} {o : Nat} (ht : f_tg o = 11) : Wp d 146 33 ls (.ref o :: st) (f_W xs I L) Q = Wp d 146 36 ls (.ref (f_rf o 18) :: st) (f_W xs I L) Q := Wp.getR (ci := 11) (k := 18) e146_33 rfl (by decide) (by decide) rfl ht
theorem e146_36 : decode (j_co 146) 36 = .ok (.bipush 6, 2) := by decide +kernel
set_option maxRecDepth 20000 in
theorem w146_36 {d : Nat} {st : List Value} {Q : Option Value × jW → Prop} {ls : jL} {w : jW} : Wp d 146 36 ls (st) w Q = Wp d 146 38 ls (.int (nI 6) :: st) w Q := Wp.alu e146_36 rfl rfl
theorem e146_38 : decode (j_co 146) 38 = .ok (.iload_n 1, 1) := by decide +kernel
set_option maxRecDepth 20000 in
theorem w146_38 {d : Nat} {st : List Value} {Q : Option Value × jW → Prop} {w : jW} {a0 a2 a3 : Option Value} {x : Int32} : Wp d 146 38 [a0, some (.int x), a2, a3] (st) w Q = Wp d 146 39 [a0, some (.int x), a2, a3] (.int x :: st) w Q := Wp.loc e146_38 rfl rfl rfl
theorem e146_39 : decode (j_co 146) 39 = .ok (.imul, 1) := by decide +kernel
set_option maxRecDepth 20000 in
theorem w146_39 {d : Nat} {st : List Value} {Q : Option Value × jW → Prop} {ls : jL} {w : jW} {a b : Int32} : Wp d 146 39 ls (.int b :: .int a :: st) w Q = Wp d 146 40 ls (.int (a * b) :: st) w Q := Wp.alu e146_39 rfl rfl
theorem e146_40 : decode (j_co 146) 40 = .ok (.iconst 2, 1) := by decide +kernel
set_option maxRecDepth 20000 in
theorem w146_40 {d : Nat} {st : List Value} {Q : Option Value × jW → Prop} {ls : jL} {w : jW} : Wp d 146 40 ls (st) w Q = Wp d 146 41 ls (.int (nI 2) :: st) w Q := Wp.alu e146_40 rfl rfl
theorem e146_41 : decode (j_co 146) 41 = .ok (.iload_n 2, 1) := by decide +kernel
set_option maxRecDepth 20000 in
theorem w146_41 {d : Nat} {st : List Value} {Q : Option Value × jW → Prop} {w : jW} {a0 a1 a3 : Option Value} {x : Int32} : Wp d 146 41 [a0, a1, some (.int x), a3] (st) w Q = Wp d 146 42 [a0, a1, some (.int x), a3] (.int x :: st) w Q := Wp.loc e146_41 rfl rfl rfl
theorem e146_42 : decode (j_co 146) 42 = .ok (.imul, 1) := by decide +kernel
set_option maxRecDepth 20000 in
theorem w146_42 {d : Nat} {st : List Value} {Q : Option Value × jW → Prop} {ls : jL} {w : jW} {a b : Int32} : Wp d 146 42 ls (.int b :: .int a :: st) w Q = Wp d 146 43 ls (.int (a * b) :: st) w Q := Wp.alu e146_42 rfl rfl
theorem e146_43 : decode (j_co 146) 43 = .ok (.iadd, 1) := by decide +kernel
set_option maxRecDepth 20000 in
theorem w146_43 {d : Nat} {st : List Value} {Q : Option Value × jW → Prop} {ls : jL} {w : jW} {a b : Int32} : Wp d 146 43 ls (.int b :: .int a :: st) w Q = Wp d 146 44 ls (.int (a + b) :: st) w Q := Wp.alu e146_43 rfl rfl
theorem e146_44 : decode (j_co 146) 44 = .ok (.iload_n 3, 1) := by decide +kernel
set_option maxRecDepth 20000 in
theorem w146_44 {d : Nat} {st : List Value} {Q : Option Value × jW → Prop} {w : jW} {a0 a1 a2 : Option Value} {x : Int32} : Wp d 146 44 [a0, a1, a2, some (.int x)] (st) w Q = Wp d 146 45 [a0, a1, a2, some (.int x)] (.int x :: st) w Q := Wp.loc e146_44 rfl rfl rfl
theorem e146_45 : decode (j_co 146) 45 = .ok (.ifCond .eq 7, 3) := by decide +kernel
set_option maxRecDepth 20000 in
theorem w146_45 {d : Nat} {st : List Value} {Q : Option Value × jW → Prop} {ls : jL} {w : jW} {a : Int32} : Wp d 146 45 ls (.int a :: st) w Q = ((a = nI 0 → Wp d 146 52 ls st w Q) ∧ (¬ a = nI 0 → Wp d 146 48 ls st w Q)) := Wp.if2 (c := a = nI 0) (off := 7) e146_45 rfl rfl rfl rfl rfl
theorem e146_48 : decode (j_co 146) 48 = .ok (.iconst 1, 1) := by decide +kernel
set_option maxRecDepth 20000 in
theorem w146_48 {d : Nat} {st : List Value} {Q : Option Value × jW → Prop} {ls : jL} {w : jW} : Wp d 146 48 ls (st) w Q = Wp d 146 49 ls (.int (nI 1) :: st) w Q := Wp.alu e146_48 rfl rfl
theorem e146_49 : decode (j_co 146) 49 = .ok (.goto 4, 3) := by decide +kernel
set_option maxRecDepth 20000 in
theorem w146_49 {d : Nat} {st : List Value} {Q : Option Value × jW → Prop} {ls : jL} {w : jW} : Wp d 146 49 ls (st) w Q = Wp d 146 53 ls (st) w Q := Wp.br e146_49 (Or.inl rfl) rfl rfl rfl rfl
theorem e146_52 : decode (j_co 146) 52 = .ok (.iconst 0, 1) := by decide +kernel
set_option maxRecDepth 20000 in
theorem w146_52 {d : Nat} {st : List Value} {Q : Option Value × jW → Prop} {ls : jL} {w : jW} : Wp d 146 52 ls (st) w Q = Wp d 146 53 ls (.int (nI 0) :: st) w Q := Wp.alu e146_52 rfl rfl
theorem e146_53 : decode (j_co 146) 53 = .ok (.iadd, 1) := by decide +kernel
set_option maxRecDepth 20000 in
theorem w146_53 {d : Nat} {st : List Value} {Q : Option Value × jW → Prop} {ls : jL} {w : jW} {a b : Int32} : Wp d 146 53 ls (.int b :: .int a :: st) w Q = Wp d 146 54 ls (.int (a + b) :: st) w Q := Wp.alu e146_53 rfl rfl
theorem e146_54 : decode (j_co 146) 54 = .ok (.iaload, 1) := by decide +kernel
set_option maxRecDepth 20000 in
theorem w146_54 {d : Nat} {st : List Value} {Q : Option Value × jW → Prop} {ls : jL} {xs : List Value} {I : fI} {L : fL} {o : Nat} {i : Int32} (ht : f_tg o = 100) (hi : ¬ (i < 0 ∨ f_ln o ≤ i.toNatClampNeg)) : Wp d 146 54 ls (.int i :: .ref o :: st) (f_W xs I L) Q = Wp d 146 55 ls (.int (I o i.toNatClampNeg) :: st) (f_W xs I L) Q := Wp.iald e146_54 ht hi
theorem e146_55 : decode (j_co 146) 55 = .ok (.goto 5, 3) := by decide +kernel
set_option maxRecDepth 20000 in
theorem w146_55 {d : Nat} {st : List Value} {Q : Option Value × jW → Prop} {ls : jL} {w : jW} : Wp d 146 55 ls (st) w Q = Wp d 146 60 ls (st) w Q := Wp.br e146_55 (Or.inl rfl) rfl rfl rfl rfl
theorem e146_58 : decode (j_co 146) 58 = .ok (.bipush (-100), 2) := by decide +kernel
set_option maxRecDepth 20000 in
theorem w146_58 {d : Nat} {st : List Value} {Q : Option Value × jW → Prop} {ls : jL} {w : jW} : Wp d 146 58 ls (st) w Q = Wp d 146 60 ls (.int (-100) :: st) w Q := Wp.alu e146_58 rfl rfl
theorem e146_60 : decode (j_co 146) 60 = .ok (.ireturn, 1) := by decide +kernel
set_option maxRecDepth 20000 in
theorem w146_60 {d : Nat} {Q : Option Value × jW → Prop} {ls : jL} {w : jW} {x : Int32} : Wp d 146 60 ls [.int x] w Q = Q (some (.int x), w) := Wp.ret e146_60 rfl
/-! M.comes -/
theorem e147_0 : decode (j_co 147) 0 = .ok (.aload_n 0, 1) := by decide +kernel
set_option maxRecDepth 20000 in
theorem w147_0 {d : Nat} {st : List Value} {Q : Option Value × jW → Prop} {w : jW} {a1 a2 a3 a4 : Option Value} {x : Nat} : Wp d 147 0 [some (.ref x), a1, a2, a3, a4] (st) w Q = Wp d 147 1 [some (.ref x), a1, a2, a3, a4] (.ref x :: st) w Q := Wp.loc e147_0 rfl rfl rfl
theorem e147_1 : decode (j_co 147) 1 = .ok (.iload_n 1, 1) := by decide +kernel
set_option maxRecDepth 20000 in
theorem w147_1 {d : Nat} {st : List Value} {Q : Option Value × jW → Prop} {w : jW} {a0 a2 a3 a4 : Option Value} {x : Int32} : Wp d 147 1 [a0, some (.int x), a2, a3, a4] (st) w Q = Wp d 147 2 [a0, some (.int x), a2, a3, a4] (.int x :: st) w Q := Wp.loc e147_1 rfl rfl rfl
theorem e147_2 : decode (j_co 147) 2 = .ok (.invokevirtual 106, 3) := by decide +kernel
set_option maxRecDepth 20000 in
theorem w147_2 {d : Nat} {st : List Value} {Q : Option Value × jW → Prop} {ls : jL} {xs : List Value} {I : fI} {L : fL} {r : Nat} {x0 : Int32} (hs : j_sumc st ≤ 8) (ht : f_tg r = 11) : Wp (d + 1) 147 2 ls (.int x0 :: .ref r :: st) (f_W xs I L) Q = Wp d 114 0 [some (.ref r), some (.int x0)] [] (f_W xs I L) (fun r1 => Wp (d + 1) 147 5 ls (r1.1.toList ++ st) r1.2 Q) := Wp.cv (y' := 114) (as := [.int x0]) e147_2 rfl (by decide) rfl (show 2 ≤ 2 by decide) (by decide) hs ht
theorem e147_5 : decode (j_co 147) 5 = .ok (.ifCond .eq 13, 3) := by decide +kernel
set_option maxRecDepth 20000 in
theorem w147_5 {d : Nat} {st : List Value} {Q : Option Value × jW → Prop} {ls : jL} {w : jW} {a : Int32} : Wp d 147 5 ls (.int a :: st) w Q = ((a = nI 0 → Wp d 147 18 ls st w Q) ∧ (¬ a = nI 0 → Wp d 147 8 ls st w Q)) := Wp.if2 (c := a = nI 0) (off := 13) e147_5 rfl rfl rfl rfl rfl
theorem e147_8 : decode (j_co 147) 8 = .ok (.iload_n 2, 1) := by decide +kernel
set_option maxRecDepth 20000 in
theorem w147_8 {d : Nat} {st : List Value} {Q : Option Value × jW → Prop} {w : jW} {a0 a1 a3 a4 : Option Value} {x : Int32} : Wp d 147 8 [a0, a1, some (.int x), a3, a4] (st) w Q = Wp d 147 9 [a0, a1, some (.int x), a3, a4] (.int x :: st) w Q := Wp.loc e147_8 rfl rfl rfl
theorem e147_9 : decode (j_co 147) 9 = .ok (.iload_n 3, 1) := by decide +kernel
set_option maxRecDepth 20000 in
theorem w147_9 {d : Nat} {st : List Value} {Q : Option Value × jW → Prop} {w : jW} {a0 a1 a2 a4 : Option Value} {x : Int32} : Wp d 147 9 [a0, a1, a2, some (.int x), a4] (st) w Q = Wp d 147 10 [a0, a1, a2, some (.int x), a4] (.int x :: st) w Q := Wp.loc e147_9 rfl rfl rfl
theorem e147_10 : decode (j_co 147) 10 = .ok (.iload 4, 2) := by decide +kernel
set_option maxRecDepth 20000 in
theorem w147_10 {d : Nat} {st : List Value} {Q : Option Value × jW → Prop} {w : jW} {a0 a1 a2 a3 : Option Value} {x : Int32} : Wp d 147 10 [a0, a1, a2, a3, some (.int x)] (st) w Q = Wp d 147 12 [a0, a1, a2, a3, some (.int x)] (.int x :: st) w Q := Wp.loc e147_10 rfl rfl rfl
theorem e147_12 : decode (j_co 147) 12 = .ok (.invokestatic 201, 3) := by decide +kernel
set_option maxRecDepth 20000 in
theorem w147_12 {d : Nat} {st : List Value} {Q : Option Value × jW → Prop} {ls : jL} {w : jW} {x0 : Int32} {x1 : Int32} {x2 : Int32} (hs : j_sumc st ≤ 8) : Wp (d + 1) 147 12 ls (.int x2 :: .int x1 :: .int x0 :: st) w Q = Wp d 148 0 [some (.int x0), some (.int x1), some (.int x2)] [] w (fun r1 => Wp (d + 1) 147 15 ls (r1.1.toList ++ st) r1.2 Q) := Wp.cs (kd := 1) (y' := 148) (as := [.int x0, .int x1, .int x2]) e147_12 rfl (by decide) (by decide) rfl (show 3 ≤ 3 by decide) hs
theorem e147_15 : decode (j_co 147) 15 = .ok (.ifCond .ne 5, 3) := by decide +kernel
set_option maxRecDepth 20000 in
theorem w147_15 {d : Nat} {st : List Value} {Q : Option Value × jW → Prop} {ls : jL} {w : jW} {a : Int32} : Wp d 147 15 ls (.int a :: st) w Q = ((a = nI 0 → Wp d 147 18 ls st w Q) ∧ (¬ a = nI 0 → Wp d 147 20 ls st w Q)) := Wp.if2n (c := a = nI 0) (off := 5) e147_15 rfl rfl rfl rfl rfl
theorem e147_18 : decode (j_co 147) 18 = .ok (.iconst (-1), 1) := by decide +kernel
set_option maxRecDepth 20000 in
theorem w147_18 {d : Nat} {st : List Value} {Q : Option Value × jW → Prop} {ls : jL} {w : jW} : Wp d 147 18 ls (st) w Q = Wp d 147 19 ls (.int (-1) :: st) w Q := Wp.alu e147_18 rfl rfl
theorem e147_19 : decode (j_co 147) 19 = .ok (.ireturn, 1) := by decide +kernel
set_option maxRecDepth 20000 in
theorem w147_19 {d : Nat} {Q : Option Value × jW → Prop} {ls : jL} {w : jW} {x : Int32} : Wp d 147 19 ls [.int x] w Q = Q (some (.int x), w) := Wp.ret e147_19 rfl
theorem e147_20 : decode (j_co 147) 20 = .ok (.aload_n 0, 1) := by decide +kernel
set_option maxRecDepth 20000 in
theorem w147_20 {d : Nat} {st : List Value} {Q : Option Value × jW → Prop} {w : jW} {a1 a2 a3 a4 : Option Value} {x : Nat} : Wp d 147 20 [some (.ref x), a1, a2, a3, a4] (st) w Q = Wp d 147 21 [some (.ref x), a1, a2, a3, a4] (.ref x :: st) w Q := Wp.loc e147_20 rfl rfl rfl
theorem e147_21 : decode (j_co 147) 21 = .ok (.invokevirtual 191, 3) := by decide +kernel
set_option maxRecDepth 20000 in
theorem w147_21 {d : Nat} {st : List Value} {Q : Option Value × jW → Prop} {ls : jL} {xs : List Value} {I : fI} {L : fL} {r : Nat} (hs : j_sumc st ≤ 8) (ht : f_tg r = 11) : Wp (d + 1) 147 21 ls (.ref r :: st) (f_W xs I L) Q = Wp d 128 0 [some (.ref r), none] [] (f_W xs I L) (fun r1 => Wp (d + 1) 147 24 ls (r1.1.toList ++ st) r1.2 Q) := Wp.cv (y' := 128) (as := []) e147_21 rfl (by decide) rfl (show 1 ≤ 2 by decide) (by decide) hs ht
theorem e147_24 : decode (j_co 147) 24 = .ok (.aload_n 0, 1) := by decide +kernel
set_option maxRecDepth 20000 in
theorem w147_24 {d : Nat} {st : List Value} {Q : Option Value × jW → Prop} {w : jW} {a1 a2 a3 a4 : Option Value} {x : Nat} : Wp d 147 24 [some (.ref x), a1, a2, a3, a4] (st) w Q = Wp d 147 25 [some (.ref x), a1, a2, a3, a4] (.ref x :: st) w Q := Wp.loc e147_24 rfl rfl rfl
theorem e147_25 : decode (j_co 147) 25 = .ok (.iload_n 2, 1) := by decide +kernel
set_option maxRecDepth 20000 in
theorem w147_25 {d : Nat} {st : List Value} {Q : Option Value × jW → Prop} {w : jW} {a0 a1 a3 a4 : Option Value} {x : Int32} : Wp d 147 25 [a0, a1, some (.int x), a3, a4] (st) w Q = Wp d 147 26 [a0, a1, some (.int x), a3, a4] (.int x :: st) w Q := Wp.loc e147_25 rfl rfl rfl
theorem e147_26 : decode (j_co 147) 26 = .ok (.iload_n 3, 1) := by decide +kernel
set_option maxRecDepth 20000 in
theorem w147_26 {d : Nat} {st : List Value} {Q : Option Value × jW → Prop} {w : jW} {a0 a1 a2 a4 : Option Value} {x : Int32} : Wp d 147 26 [a0, a1, a2, some (.int x), a4] (st) w Q = Wp d 147 27 [a0, a1, a2, some (.int x), a4] (.int x :: st) w Q := Wp.loc e147_26 rfl rfl rfl
theorem e147_27 : decode (j_co 147) 27 = .ok (.iload 4, 2) := by decide +kernel
set_option maxRecDepth 20000 in
theorem w147_27 {d : Nat} {st : List Value} {Q : Option Value × jW → Prop} {w : jW} {a0 a1 a2 a3 : Option Value} {x : Int32} : Wp d 147 27 [a0, a1, a2, a3, some (.int x)] (st) w Q = Wp d 147 29 [a0, a1, a2, a3, some (.int x)] (.int x :: st) w Q := Wp.loc e147_27 rfl rfl rfl
theorem e147_29 : decode (j_co 147) 29 = .ok (.invokevirtual 205, 3) := by decide +kernel
set_option maxRecDepth 20000 in
theorem w147_29 {d : Nat} {st : List Value} {Q : Option Value × jW → Prop} {ls : jL} {xs : List Value} {I : fI} {L : fL} {r : Nat} {x0 : Int32} {x1 : Int32} {x2 : Int32} (hs : j_sumc st ≤ 8) (ht : f_tg r = 11) : Wp (d + 1) 147 29 ls (.int x2 :: .int x1 :: .int x0 :: .ref r :: st) (f_W xs I L) Q = Wp d 149 0 [some (.ref r), some (.int x0), some (.int x1), some (.int x2)] [] (f_W xs I L) (fun r1 => Wp (d + 1) 147 32 ls (r1.1.toList ++ st) r1.2 Q) := Wp.cv (y' := 149) (as := [.int x0, .int x1, .int x2]) e147_29 rfl (by decide) rfl (show 4 ≤ 4 by decide) (by decide) hs ht
theorem e147_32 : decode (j_co 147) 32 = .ok (.aload_n 0, 1) := by decide +kernel
set_option maxRecDepth 20000 in
theorem w147_32 {d : Nat} {st : List Value} {Q : Option Value × jW → Prop} {w : jW} {a1 a2 a3 a4 : Option Value} {x : Nat} : Wp d 147 32 [some (.ref x), a1, a2, a3, a4] (st) w Q = Wp d 147 33 [some (.ref x), a1, a2, a3, a4] (.ref x :: st) w Q := Wp.loc e147_32 rfl rfl rfl
theorem e147_33 : decode (j_co 147) 33 = .ok (.iload_n 1, 1) := by decide +kernel
set_option maxRecDepth 20000 in
theorem w147_33 {d : Nat} {st : List Value} {Q : Option Value × jW → Prop} {w : jW} {a0 a2 a3 a4 : Option Value} {x : Int32} : Wp d 147 33 [a0, some (.int x), a2, a3, a4] (st) w Q = Wp d 147 34 [a0, some (.int x), a2, a3, a4] (.int x :: st) w Q := Wp.loc e147_33 rfl rfl rfl
theorem e147_34 : decode (j_co 147) 34 = .ok (.invokevirtual 142, 3) := by decide +kernel
set_option maxRecDepth 20000 in
theorem w147_34 {d : Nat} {st : List Value} {Q : Option Value × jW → Prop} {ls : jL} {xs : List Value} {I : fI} {L : fL} {r : Nat} {x0 : Int32} (hs : j_sumc st ≤ 8) (ht : f_tg r = 11) : Wp (d + 1) 147 34 ls (.int x0 :: .ref r :: st) (f_W xs I L) Q = Wp d 138 0 [some (.ref r), some (.int x0), none, none] [] (f_W xs I L) (fun r1 => Wp (d + 1) 147 37 ls (r1.1.toList ++ st) r1.2 Q) := Wp.cv (y' := 138) (as := [.int x0]) e147_34 rfl (by decide) rfl (show 2 ≤ 4 by decide) (by decide) hs ht
theorem e147_37 : decode (j_co 147) 37 = .ok (.ifCond .eq 7, 3) := by decide +kernel
set_option maxRecDepth 20000 in
theorem w147_37 {d : Nat} {st : List Value} {Q : Option Value × jW → Prop} {ls : jL} {w : jW} {a : Int32} : Wp d 147 37 ls (.int a :: st) w Q = ((a = nI 0 → Wp d 147 44 ls st w Q) ∧ (¬ a = nI 0 → Wp d 147 40 ls st w Q)) := Wp.if2 (c := a = nI 0) (off := 7) e147_37 rfl rfl rfl rfl rfl
theorem e147_40 : decode (j_co 147) 40 = .ok (.iconst 1, 1) := by decide +kernel
set_option maxRecDepth 20000 in
theorem w147_40 {d : Nat} {st : List Value} {Q : Option Value × jW → Prop} {ls : jL} {w : jW} : Wp d 147 40 ls (st) w Q = Wp d 147 41 ls (.int (nI 1) :: st) w Q := Wp.alu e147_40 rfl rfl
theorem e147_41 : decode (j_co 147) 41 = .ok (.goto 4, 3) := by decide +kernel
set_option maxRecDepth 20000 in
theorem w147_41 {d : Nat} {st : List Value} {Q : Option Value × jW → Prop} {ls : jL} {w : jW} : Wp d 147 41 ls (st) w Q = Wp d 147 45 ls (st) w Q := Wp.br e147_41 (Or.inl rfl) rfl rfl rfl rfl
theorem e147_44 : decode (j_co 147) 44 = .ok (.iconst 0, 1) := by decide +kernel
set_option maxRecDepth 20000 in
theorem w147_44 {d : Nat} {st : List Value} {Q : Option Value × jW → Prop} {ls : jL} {w : jW} : Wp d 147 44 ls (st) w Q = Wp d 147 45 ls (.int (nI 0) :: st) w Q := Wp.alu e147_44 rfl rfl
theorem e147_45 : decode (j_co 147) 45 = .ok (.ireturn, 1) := by decide +kernel
set_option maxRecDepth 20000 in
theorem w147_45 {d : Nat} {Q : Option Value × jW → Prop} {ls : jL} {w : jW} {x : Int32} : Wp d 147 45 ls [.int x] w Q = Q (some (.int x), w) := Wp.ret e147_45 rfl
/-! M.areNumbers -/
theorem e148_0 : decode (j_co 148) 0 = .ok (.iload_n 0, 1) := by decide +kernel
set_option maxRecDepth 20000 in
theorem w148_0 {d : Nat} {st : List Value} {Q : Option Value × jW → Prop} {w : jW} {a1 a2 : Option Value} {x : Int32} : Wp d 148 0 [some (.int x), a1, a2] (st) w Q = Wp d 148 1 [some (.int x), a1, a2] (.int x :: st) w Q := Wp.loc e148_0 rfl rfl rfl
theorem e148_1 : decode (j_co 148) 1 = .ok (.i2l, 1) := by decide +kernel
set_option maxRecDepth 20000 in
theorem w148_1 {d : Nat} {st : List Value} {Q : Option Value × jW → Prop} {ls : jL} {w : jW} {a : Int32} : Wp d 148 1 ls (.int a :: st) w Q = Wp d 148 2 ls (.long a.toInt64 :: st) w Q := Wp.alu e148_1 rfl rfl
theorem e148_2 : decode (j_co 148) 2 = .ok (.ldc2_w 197, 3) := by decide +kernel
set_option maxRecDepth 20000 in
theorem w148_2 {d : Nat} {st : List Value} {Q : Option Value × jW → Prop} {ls : jL} {w : jW} : Wp d 148 2 ls (st) w Q = Wp d 148 5 ls (.long (-20) :: st) w Q := Wp.ldc2 e148_2 rfl
theorem e148_5 : decode (j_co 148) 5 = .ok (.ldc2_w 199, 3) := by decide +kernel
set_option maxRecDepth 20000 in
theorem w148_5 {d : Nat} {st : List Value} {Q : Option Value × jW → Prop} {ls : jL} {w : jW} : Wp d 148 5 ls (st) w Q = Wp d 148 8 ls (.long (lN 20) :: st) w Q := Wp.ldc2 e148_5 rfl
theorem e148_8 : decode (j_co 148) 8 = .ok (.invokestatic 93, 3) := by decide +kernel
set_option maxRecDepth 20000 in
theorem w148_8 {d : Nat} {st : List Value} {Q : Option Value × jW → Prop} {ls : jL} {w : jW} {x0 : Int64} {x1 : Int64} {x2 : Int64} (hs : j_sumc st ≤ 8) : Wp (d + 1) 148 8 ls (.long x2 :: .long x1 :: .long x0 :: st) w Q = Wp d 115 0 [some (.long x0), none, some (.long x1), none, some (.long x2), none] [] w (fun r1 => Wp (d + 1) 148 11 ls (r1.1.toList ++ st) r1.2 Q) := Wp.cs (kd := 1) (y' := 115) (as := [.long x0, .long x1, .long x2]) e148_8 rfl (by decide) (by decide) rfl (show 6 ≤ 6 by decide) hs
theorem e148_11 : decode (j_co 148) 11 = .ok (.ifCond .eq 35, 3) := by decide +kernel
set_option maxRecDepth 20000 in
theorem w148_11 {d : Nat} {st : List Value} {Q : Option Value × jW → Prop} {ls : jL} {w : jW} {a : Int32} : Wp d 148 11 ls (.int a :: st) w Q = ((a = nI 0 → Wp d 148 46 ls st w Q) ∧ (¬ a = nI 0 → Wp d 148 14 ls st w Q)) := Wp.if2 (c := a = nI 0) (off := 35) e148_11 rfl rfl rfl rfl rfl
theorem e148_14 : decode (j_co 148) 14 = .ok (.iload_n 1, 1) := by decide +kernel
set_option maxRecDepth 20000 in
theorem w148_14 {d : Nat} {st : List Value} {Q : Option Value × jW → Prop} {w : jW} {a0 a2 : Option Value} {x : Int32} : Wp d 148 14 [a0, some (.int x), a2] (st) w Q = Wp d 148 15 [a0, some (.int x), a2] (.int x :: st) w Q := Wp.loc e148_14 rfl rfl rfl
theorem e148_15 : decode (j_co 148) 15 = .ok (.i2l, 1) := by decide +kernel
set_option maxRecDepth 20000 in
theorem w148_15 {d : Nat} {st : List Value} {Q : Option Value × jW → Prop} {ls : jL} {w : jW} {a : Int32} : Wp d 148 15 ls (.int a :: st) w Q = Wp d 148 16 ls (.long a.toInt64 :: st) w Q := Wp.alu e148_15 rfl rfl
theorem e148_16 : decode (j_co 148) 16 = .ok (.ldc2_w 197, 3) := by decide +kernel
set_option maxRecDepth 20000 in
theorem w148_16 {d : Nat} {st : List Value} {Q : Option Value × jW → Prop} {ls : jL} {w : jW} : Wp d 148 16 ls (st) w Q = Wp d 148 19 ls (.long (-20) :: st) w Q := Wp.ldc2 e148_16 rfl
theorem e148_19 : decode (j_co 148) 19 = .ok (.ldc2_w 199, 3) := by decide +kernel
set_option maxRecDepth 20000 in
theorem w148_19 {d : Nat} {st : List Value} {Q : Option Value × jW → Prop} {ls : jL} {w : jW} : Wp d 148 19 ls (st) w Q = Wp d 148 22 ls (.long (lN 20) :: st) w Q := Wp.ldc2 e148_19 rfl
theorem e148_22 : decode (j_co 148) 22 = .ok (.invokestatic 93, 3) := by decide +kernel
set_option maxRecDepth 20000 in
theorem w148_22 {d : Nat} {st : List Value} {Q : Option Value × jW → Prop} {ls : jL} {w : jW} {x0 : Int64} {x1 : Int64} {x2 : Int64} (hs : j_sumc st ≤ 8) : Wp (d + 1) 148 22 ls (.long x2 :: .long x1 :: .long x0 :: st) w Q = Wp d 115 0 [some (.long x0), none, some (.long x1), none, some (.long x2), none] [] w (fun r1 => Wp (d + 1) 148 25 ls (r1.1.toList ++ st) r1.2 Q) := Wp.cs (kd := 1) (y' := 115) (as := [.long x0, .long x1, .long x2]) e148_22 rfl (by decide) (by decide) rfl (show 6 ≤ 6 by decide) hs
theorem e148_25 : decode (j_co 148) 25 = .ok (.ifCond .eq 21, 3) := by decide +kernel
set_option maxRecDepth 20000 in
theorem w148_25 {d : Nat} {st : List Value} {Q : Option Value × jW → Prop} {ls : jL} {w : jW} {a : Int32} : Wp d 148 25 ls (.int a :: st) w Q = ((a = nI 0 → Wp d 148 46 ls st w Q) ∧ (¬ a = nI 0 → Wp d 148 28 ls st w Q)) := Wp.if2 (c := a = nI 0) (off := 21) e148_25 rfl rfl rfl rfl rfl
theorem e148_28 : decode (j_co 148) 28 = .ok (.iload_n 2, 1) := by decide +kernel
set_option maxRecDepth 20000 in
theorem w148_28 {d : Nat} {st : List Value} {Q : Option Value × jW → Prop} {w : jW} {a0 a1 : Option Value} {x : Int32} : Wp d 148 28 [a0, a1, some (.int x)] (st) w Q = Wp d 148 29 [a0, a1, some (.int x)] (.int x :: st) w Q := Wp.loc e148_28 rfl rfl rfl
theorem e148_29 : decode (j_co 148) 29 = .ok (.i2l, 1) := by decide +kernel
set_option maxRecDepth 20000 in
theorem w148_29 {d : Nat} {st : List Value} {Q : Option Value × jW → Prop} {ls : jL} {w : jW} {a : Int32} : Wp d 148 29 ls (.int a :: st) w Q = Wp d 148 30 ls (.long a.toInt64 :: st) w Q := Wp.alu e148_29 rfl rfl
theorem e148_30 : decode (j_co 148) 30 = .ok (.ldc2_w 197, 3) := by decide +kernel
set_option maxRecDepth 20000 in
theorem w148_30 {d : Nat} {st : List Value} {Q : Option Value × jW → Prop} {ls : jL} {w : jW} : Wp d 148 30 ls (st) w Q = Wp d 148 33 ls (.long (-20) :: st) w Q := Wp.ldc2 e148_30 rfl
theorem e148_33 : decode (j_co 148) 33 = .ok (.ldc2_w 199, 3) := by decide +kernel
set_option maxRecDepth 20000 in
theorem w148_33 {d : Nat} {st : List Value} {Q : Option Value × jW → Prop} {ls : jL} {w : jW} : Wp d 148 33 ls (st) w Q = Wp d 148 36 ls (.long (lN 20) :: st) w Q := Wp.ldc2 e148_33 rfl
theorem e148_36 : decode (j_co 148) 36 = .ok (.invokestatic 93, 3) := by decide +kernel
set_option maxRecDepth 20000 in
theorem w148_36 {d : Nat} {st : List Value} {Q : Option Value × jW → Prop} {ls : jL} {w : jW} {x0 : Int64} {x1 : Int64} {x2 : Int64} (hs : j_sumc st ≤ 8) : Wp (d + 1) 148 36 ls (.long x2 :: .long x1 :: .long x0 :: st) w Q = Wp d 115 0 [some (.long x0), none, some (.long x1), none, some (.long x2), none] [] w (fun r1 => Wp (d + 1) 148 39 ls (r1.1.toList ++ st) r1.2 Q) := Wp.cs (kd := 1) (y' := 115) (as := [.long x0, .long x1, .long x2]) e148_36 rfl (by decide) (by decide) rfl (show 6 ≤ 6 by decide) hs
theorem e148_39 : decode (j_co 148) 39 = .ok (.ifCond .eq 7, 3) := by decide +kernel
set_option maxRecDepth 20000 in
theorem w148_39 {d : Nat} {st : List Value} {Q : Option Value × jW → Prop} {ls : jL} {w : jW} {a : Int32} : Wp d 148 39 ls (.int a :: st) w Q = ((a = nI 0 → Wp d 148 46 ls st w Q) ∧ (¬ a = nI 0 → Wp d 148 42 ls st w Q)) := Wp.if2 (c := a = nI 0) (off := 7) e148_39 rfl rfl rfl rfl rfl
theorem e148_42 : decode (j_co 148) 42 = .ok (.iconst 1, 1) := by decide +kernel
set_option maxRecDepth 20000 in
theorem w148_42 {d : Nat} {st : List Value} {Q : Option Value × jW → Prop} {ls : jL} {w : jW} : Wp d 148 42 ls (st) w Q = Wp d 148 43 ls (.int (nI 1) :: st) w Q := Wp.alu e148_42 rfl rfl
theorem e148_43 : decode (j_co 148) 43 = .ok (.goto 4, 3) := by decide +kernel
set_option maxRecDepth 20000 in
theorem w148_43 {d : Nat} {st : List Value} {Q : Option Value × jW → Prop} {ls : jL} {w : jW} : Wp d 148 43 ls (st) w Q = Wp d 148 47 ls (st) w Q := Wp.br e148_43 (Or.inl rfl) rfl rfl rfl rfl
theorem e148_46 : decode (j_co 148) 46 = .ok (.iconst 0, 1) := by decide +kernel
set_option maxRecDepth 20000 in
theorem w148_46 {d : Nat} {st : List Value} {Q : Option Value × jW → Prop} {ls : jL} {w : jW} : Wp d 148 46 ls (st) w Q = Wp d 148 47 ls (.int (nI 0) :: st) w Q := Wp.alu e148_46 rfl rfl
theorem e148_47 : decode (j_co 148) 47 = .ok (.ireturn, 1) := by decide +kernel
set_option maxRecDepth 20000 in
theorem w148_47 {d : Nat} {Q : Option Value × jW → Prop} {ls : jL} {w : jW} {x : Int32} (hx : x = 0 ∨ x = 1) : Wp d 148 47 ls [.int x] w Q = Q (some (.int x), w) := Wp.ret e148_47 (by rcases hx with rfl | rfl <;> rfl)
/-! M.point -/
theorem e149_0 : decode (j_co 149) 0 = .ok (.aload_n 0, 1) := by decide +kernel
set_option maxRecDepth 20000 in
theorem w149_0 {d : Nat} {st : List Value} {Q : Option Value × jW → Prop} {w : jW} {a1 a2 a3 : Option Value} {x : Nat} : Wp d 149 0 [some (.ref x), a1, a2, a3] (st) w Q = Wp d 149 1 [some (.ref x), a1, a2, a3] (.ref x :: st) w Q := Wp.loc e149_0 rfl rfl rfl
theorem e149_1 : decode (j_co 149) 1 = .ok (.getfield 48, 3) := by decide +kernel
set_option maxRecDepth 20000 in
theorem w149_1 {d : Nat} {st : List Value} {Q : Option Value × jW → Prop} {ls : jL} {xs : List Value} {I : fI} {L : fL} {o : Nat} (ht : f_tg o = 11) : Wp d 149 1 ls (.ref o :: st) (f_W xs I L) Q = Wp d 149 4 ls (.ref (f_rf o 15) :: st) (f_W xs I L) Q := Wp.getR (ci := 11) (k := 15) e149_1 rfl (by decide) (by decide) rfl ht
theorem e149_4 : decode (j_co 149) 4 = .ok (.iconst 0, 1) := by decide +kernel
set_option maxRecDepth 20000 in
theorem w149_4 {d : Nat} {st : List Value} {Q : Option Value × jW → Prop} {ls : jL} {w : jW} : Wp d 149 4 ls (st) w Q = Wp d 149 5 ls (.int (nI 0) :: st) w Q := Wp.alu e149_4 rfl rfl
theorem e149_5 : decode (j_co 149) 5 = .ok (.iload_n 1, 1) := by decide +kernel
set_option maxRecDepth 20000 in
theorem w149_5 {d : Nat} {st : List Value} {Q : Option Value × jW → Prop} {w : jW} {a0 a2 a3 : Option Value} {x : Int32} : Wp d 149 5 [a0, some (.int x), a2, a3] (st) w Q = Wp d 149 6 [a0, some (.int x), a2, a3] (.int x :: st) w Q := Wp.loc e149_5 rfl rfl rfl
theorem e149_6 : decode (j_co 149) 6 = .ok (.iastore, 1) := by decide +kernel
set_option maxRecDepth 20000 in
theorem w149_6 {d : Nat} {st : List Value} {Q : Option Value × jW → Prop} {ls : jL} {xs : List Value} {I : fI} {L : fL} {o : Nat} {i x : Int32} (ht : f_tg o = 100) (hi : ¬ (i < 0 ∨ f_ln o ≤ i.toNatClampNeg)) : Wp d 149 6 ls (.int x :: .int i :: .ref o :: st) (f_W xs I L) Q = Wp d 149 7 ls (st) (f_W xs (f_up I o i.toNatClampNeg x) L) Q := Wp.iast e149_6 ht hi
theorem e149_7 : decode (j_co 149) 7 = .ok (.aload_n 0, 1) := by decide +kernel
set_option maxRecDepth 20000 in
theorem w149_7 {d : Nat} {st : List Value} {Q : Option Value × jW → Prop} {w : jW} {a1 a2 a3 : Option Value} {x : Nat} : Wp d 149 7 [some (.ref x), a1, a2, a3] (st) w Q = Wp d 149 8 [some (.ref x), a1, a2, a3] (.ref x :: st) w Q := Wp.loc e149_7 rfl rfl rfl
theorem e149_8 : decode (j_co 149) 8 = .ok (.getfield 48, 3) := by decide +kernel
set_option maxRecDepth 20000 in
theorem w149_8 {d : Nat} {st : List Value} {Q : Option Value × jW → Prop} {ls : jL} {xs : List Value} {I : fI} {L : fL} {o : Nat} (ht : f_tg o = 11) : Wp d 149 8 ls (.ref o :: st) (f_W xs I L) Q = Wp d 149 11 ls (.ref (f_rf o 15) :: st) (f_W xs I L) Q := Wp.getR (ci := 11) (k := 15) e149_8 rfl (by decide) (by decide) rfl ht
theorem e149_11 : decode (j_co 149) 11 = .ok (.iconst 1, 1) := by decide +kernel
set_option maxRecDepth 20000 in
theorem w149_11 {d : Nat} {st : List Value} {Q : Option Value × jW → Prop} {ls : jL} {w : jW} : Wp d 149 11 ls (st) w Q = Wp d 149 12 ls (.int (nI 1) :: st) w Q := Wp.alu e149_11 rfl rfl
theorem e149_12 : decode (j_co 149) 12 = .ok (.iload_n 1, 1) := by decide +kernel
set_option maxRecDepth 20000 in
theorem w149_12 {d : Nat} {st : List Value} {Q : Option Value × jW → Prop} {w : jW} {a0 a2 a3 : Option Value} {x : Int32} : Wp d 149 12 [a0, some (.int x), a2, a3] (st) w Q = Wp d 149 13 [a0, some (.int x), a2, a3] (.int x :: st) w Q := Wp.loc e149_12 rfl rfl rfl
theorem e149_13 : decode (j_co 149) 13 = .ok (.iastore, 1) := by decide +kernel
set_option maxRecDepth 20000 in
theorem w149_13 {d : Nat} {st : List Value} {Q : Option Value × jW → Prop} {ls : jL} {xs : List Value} {I : fI} {L : fL} {o : Nat} {i x : Int32} (ht : f_tg o = 100) (hi : ¬ (i < 0 ∨ f_ln o ≤ i.toNatClampNeg)) : Wp d 149 13 ls (.int x :: .int i :: .ref o :: st) (f_W xs I L) Q = Wp d 149 14 ls (st) (f_W xs (f_up I o i.toNatClampNeg x) L) Q := Wp.iast e149_13 ht hi
theorem e149_14 : decode (j_co 149) 14 = .ok (.aload_n 0, 1) := by decide +kernel
set_option maxRecDepth 20000 in
theorem w149_14 {d : Nat} {st : List Value} {Q : Option Value × jW → Prop} {w : jW} {a1 a2 a3 : Option Value} {x : Nat} : Wp d 149 14 [some (.ref x), a1, a2, a3] (st) w Q = Wp d 149 15 [some (.ref x), a1, a2, a3] (.ref x :: st) w Q := Wp.loc e149_14 rfl rfl rfl
theorem e149_15 : decode (j_co 149) 15 = .ok (.getfield 48, 3) := by decide +kernel
set_option maxRecDepth 20000 in
theorem w149_15 {d : Nat} {st : List Value} {Q : Option Value × jW → Prop} {ls : jL} {xs : List Value} {I : fI} {L : fL} {o : Nat} (ht : f_tg o = 11) : Wp d 149 15 ls (.ref o :: st) (f_W xs I L) Q = Wp d 149 18 ls (.ref (f_rf o 15) :: st) (f_W xs I L) Q := Wp.getR (ci := 11) (k := 15) e149_15 rfl (by decide) (by decide) rfl ht
theorem e149_18 : decode (j_co 149) 18 = .ok (.iconst 2, 1) := by decide +kernel
set_option maxRecDepth 20000 in
theorem w149_18 {d : Nat} {st : List Value} {Q : Option Value × jW → Prop} {ls : jL} {w : jW} : Wp d 149 18 ls (st) w Q = Wp d 149 19 ls (.int (nI 2) :: st) w Q := Wp.alu e149_18 rfl rfl
theorem e149_19 : decode (j_co 149) 19 = .ok (.iload_n 2, 1) := by decide +kernel
set_option maxRecDepth 20000 in
theorem w149_19 {d : Nat} {st : List Value} {Q : Option Value × jW → Prop} {w : jW} {a0 a1 a3 : Option Value} {x : Int32} : Wp d 149 19 [a0, a1, some (.int x), a3] (st) w Q = Wp d 149 20 [a0, a1, some (.int x), a3] (.int x :: st) w Q := Wp.loc e149_19 rfl rfl rfl
theorem e149_20 : decode (j_co 149) 20 = .ok (.iastore, 1) := by decide +kernel
set_option maxRecDepth 20000 in
theorem w149_20 {d : Nat} {st : List Value} {Q : Option Value × jW → Prop} {ls : jL} {xs : List Value} {I : fI} {L : fL} {o : Nat} {i x : Int32} (ht : f_tg o = 100) (hi : ¬ (i < 0 ∨ f_ln o ≤ i.toNatClampNeg)) : Wp d 149 20 ls (.int x :: .int i :: .ref o :: st) (f_W xs I L) Q = Wp d 149 21 ls (st) (f_W xs (f_up I o i.toNatClampNeg x) L) Q := Wp.iast e149_20 ht hi
theorem e149_21 : decode (j_co 149) 21 = .ok (.aload_n 0, 1) := by decide +kernel
set_option maxRecDepth 20000 in
theorem w149_21 {d : Nat} {st : List Value} {Q : Option Value × jW → Prop} {w : jW} {a1 a2 a3 : Option Value} {x : Nat} : Wp d 149 21 [some (.ref x), a1, a2, a3] (st) w Q = Wp d 149 22 [some (.ref x), a1, a2, a3] (.ref x :: st) w Q := Wp.loc e149_21 rfl rfl rfl
theorem e149_22 : decode (j_co 149) 22 = .ok (.getfield 48, 3) := by decide +kernel
set_option maxRecDepth 20000 in
theorem w149_22 {d : Nat} {st : List Value} {Q : Option Value × jW → Prop} {ls : jL} {xs : List Value} {I : fI} {L : fL} {o : Nat} (ht : f_tg o = 11) : Wp d 149 22 ls (.ref o :: st) (f_W xs I L) Q = Wp d 149 25 ls (.ref (f_rf o 15) :: st) (f_W xs I L) Q := Wp.getR (ci := 11) (k := 15) e149_22 rfl (by decide) (by decide) rfl ht
theorem e149_25 : decode (j_co 149) 25 = .ok (.iconst 3, 1) := by decide +kernel
set_option maxRecDepth 20000 in
theorem w149_25 {d : Nat} {st : List Value} {Q : Option Value × jW → Prop} {ls : jL} {w : jW} : Wp d 149 25 ls (st) w Q = Wp d 149 26 ls (.int (nI 3) :: st) w Q := Wp.alu e149_25 rfl rfl
theorem e149_26 : decode (j_co 149) 26 = .ok (.iload_n 2, 1) := by decide +kernel
set_option maxRecDepth 20000 in
theorem w149_26 {d : Nat} {st : List Value} {Q : Option Value × jW → Prop} {w : jW} {a0 a1 a3 : Option Value} {x : Int32} : Wp d 149 26 [a0, a1, some (.int x), a3] (st) w Q = Wp d 149 27 [a0, a1, some (.int x), a3] (.int x :: st) w Q := Wp.loc e149_26 rfl rfl rfl
theorem e149_27 : decode (j_co 149) 27 = .ok (.iastore, 1) := by decide +kernel
set_option maxRecDepth 20000 in
theorem w149_27 {d : Nat} {st : List Value} {Q : Option Value × jW → Prop} {ls : jL} {xs : List Value} {I : fI} {L : fL} {o : Nat} {i x : Int32} (ht : f_tg o = 100) (hi : ¬ (i < 0 ∨ f_ln o ≤ i.toNatClampNeg)) : Wp d 149 27 ls (.int x :: .int i :: .ref o :: st) (f_W xs I L) Q = Wp d 149 28 ls (st) (f_W xs (f_up I o i.toNatClampNeg x) L) Q := Wp.iast e149_27 ht hi
theorem e149_28 : decode (j_co 149) 28 = .ok (.aload_n 0, 1) := by decide +kernel
set_option maxRecDepth 20000 in
theorem w149_28 {d : Nat} {st : List Value} {Q : Option Value × jW → Prop} {w : jW} {a1 a2 a3 : Option Value} {x : Nat} : Wp d 149 28 [some (.ref x), a1, a2, a3] (st) w Q = Wp d 149 29 [some (.ref x), a1, a2, a3] (.ref x :: st) w Q := Wp.loc e149_28 rfl rfl rfl
theorem e149_29 : decode (j_co 149) 29 = .ok (.getfield 48, 3) := by decide +kernel
set_option maxRecDepth 20000 in
theorem w149_29 {d : Nat} {st : List Value} {Q : Option Value × jW → Prop} {ls : jL} {xs : List Value} {I : fI} {L : fL} {o : Nat} (ht : f_tg o = 11) : Wp d 149 29 ls (.ref o :: st) (f_W xs I L) Q = Wp d 149 32 ls (.ref (f_rf o 15) :: st) (f_W xs I L) Q := Wp.getR (ci := 11) (k := 15) e149_29 rfl (by decide) (by decide) rfl ht
theorem e149_32 : decode (j_co 149) 32 = .ok (.iconst 4, 1) := by decide +kernel
set_option maxRecDepth 20000 in
theorem w149_32 {d : Nat} {st : List Value} {Q : Option Value × jW → Prop} {ls : jL} {w : jW} : Wp d 149 32 ls (st) w Q = Wp d 149 33 ls (.int (nI 4) :: st) w Q := Wp.alu e149_32 rfl rfl
theorem e149_33 : decode (j_co 149) 33 = .ok (.iload_n 3, 1) := by decide +kernel
set_option maxRecDepth 20000 in
theorem w149_33 {d : Nat} {st : List Value} {Q : Option Value × jW → Prop} {w : jW} {a0 a1 a2 : Option Value} {x : Int32} : Wp d 149 33 [a0, a1, a2, some (.int x)] (st) w Q = Wp d 149 34 [a0, a1, a2, some (.int x)] (.int x :: st) w Q := Wp.loc e149_33 rfl rfl rfl
theorem e149_34 : decode (j_co 149) 34 = .ok (.iastore, 1) := by decide +kernel
set_option maxRecDepth 20000 in
theorem w149_34 {d : Nat} {st : List Value} {Q : Option Value × jW → Prop} {ls : jL} {xs : List Value} {I : fI} {L : fL} {o : Nat} {i x : Int32} (ht : f_tg o = 100) (hi : ¬ (i < 0 ∨ f_ln o ≤ i.toNatClampNeg)) : Wp d 149 34 ls (.int x :: .int i :: .ref o :: st) (f_W xs I L) Q = Wp d 149 35 ls (st) (f_W xs (f_up I o i.toNatClampNeg x) L) Q := Wp.iast e149_34 ht hi
theorem e149_35 : decode (j_co 149) 35 = .ok (.aload_n 0, 1) := by decide +kernel
set_option maxRecDepth 20000 in
theorem w149_35 {d : Nat} {st : List Value} {Q : Option Value × jW → Prop} {w : jW} {a1 a2 a3 : Option Value} {x : Nat} : Wp d 149 35 [some (.ref x), a1, a2, a3] (st) w Q = Wp d 149 36 [some (.ref x), a1, a2, a3] (.ref x :: st) w Q := Wp.loc e149_35 rfl rfl rfl
theorem e149_36 : decode (j_co 149) 36 = .ok (.getfield 48, 3) := by decide +kernel
set_option maxRecDepth 20000 in
theorem w149_36 {d : Nat} {st : List Value} {Q : Option Value × jW → Prop} {ls : jL} {xs : List Value} {I : fI} {L : fL} {o : Nat} (ht : f_tg o = 11) : Wp d 149 36 ls (.ref o :: st) (f_W xs I L) Q = Wp d 149 39 ls (.ref (f_rf o 15) :: st) (f_W xs I L) Q := Wp.getR (ci := 11) (k := 15) e149_36 rfl (by decide) (by decide) rfl ht
theorem e149_39 : decode (j_co 149) 39 = .ok (.iconst 5, 1) := by decide +kernel
set_option maxRecDepth 20000 in
theorem w149_39 {d : Nat} {st : List Value} {Q : Option Value × jW → Prop} {ls : jL} {w : jW} : Wp d 149 39 ls (st) w Q = Wp d 149 40 ls (.int (nI 5) :: st) w Q := Wp.alu e149_39 rfl rfl
theorem e149_40 : decode (j_co 149) 40 = .ok (.iload_n 3, 1) := by decide +kernel
set_option maxRecDepth 20000 in
theorem w149_40 {d : Nat} {st : List Value} {Q : Option Value × jW → Prop} {w : jW} {a0 a1 a2 : Option Value} {x : Int32} : Wp d 149 40 [a0, a1, a2, some (.int x)] (st) w Q = Wp d 149 41 [a0, a1, a2, some (.int x)] (.int x :: st) w Q := Wp.loc e149_40 rfl rfl rfl
theorem e149_41 : decode (j_co 149) 41 = .ok (.iastore, 1) := by decide +kernel
set_option maxRecDepth 20000 in
theorem w149_41 {d : Nat} {st : List Value} {Q : Option Value × jW → Prop} {ls : jL} {xs : List Value} {I : fI} {L : fL} {o : Nat} {i x : Int32} (ht : f_tg o = 100) (hi : ¬ (i < 0 ∨ f_ln o ≤ i.toNatClampNeg)) : Wp d 149 41 ls (.int x :: .int i :: .ref o :: st) (f_W xs I L) Q = Wp d 149 42 ls (st) (f_W xs (f_up I o i.toNatClampNeg x) L) Q := Wp.iast e149_41 ht hi
theorem e149_42 : decode (j_co 149) 42 = .ok (.return_, 1) := by decide +kernel
set_option maxRecDepth 20000 in
theorem w149_42 {d : Nat} {Q : Option Value × jW → Prop} {ls : jL} {w : jW} : Wp d 149 42 ls [] w Q = Q (none, w) := Wp.ret e149_42 rfl
/-! M.many -/
theorem e150_0 : decode (j_co 150) 0 = .ok (.aload_n 0, 1) := by decide +kernel
set_option maxRecDepth 20000 in
theorem w150_0 {d : Nat} {st : List Value} {Q : Option Value × jW → Prop} {w : jW} {a1 a2 a3 a4 a5 a6 a7 a8 : Option Value} {x : Nat} : Wp d 150 0 [some (.ref x), a1, a2, a3, a4, a5, a6, a7, a8] (st) w Q = Wp d 150 1 [some (.ref x), a1, a2, a3, a4, a5, a6, a7, a8] (.ref x :: st) w Q := Wp.loc e150_0 rfl rfl rfl
theorem e150_1 : decode (j_co 150) 1 = .ok (.iload_n 1, 1) := by decide +kernel
set_option maxRecDepth 20000 in
theorem w150_1 {d : Nat} {st : List Value} {Q : Option Value × jW → Prop} {w : jW} {a0 a2 a3 a4 a5 a6 a7 a8 : Option Value} {x : Int32} : Wp d 150 1 [a0, some (.int x), a2, a3, a4, a5, a6, a7, a8] (st) w Q = Wp d 150 2 [a0, some (.int x), a2, a3, a4, a5, a6, a7, a8] (.int x :: st) w Q := Wp.loc e150_1 rfl rfl rfl
theorem e150_2 : decode (j_co 150) 2 = .ok (.invokevirtual 106, 3) := by decide +kernel
set_option maxRecDepth 20000 in
theorem w150_2 {d : Nat} {st : List Value} {Q : Option Value × jW → Prop} {ls : jL} {xs : List Value} {I : fI} {L : fL} {r : Nat} {x0 : Int32} (hs : j_sumc st ≤ 8) (ht : f_tg r = 11) : Wp (d + 1) 150 2 ls (.int x0 :: .ref r :: st) (f_W xs I L) Q = Wp d 114 0 [some (.ref r), some (.int x0)] [] (f_W xs I L) (fun r1 => Wp (d + 1) 150 5 ls (r1.1.toList ++ st) r1.2 Q) := Wp.cv (y' := 114) (as := [.int x0]) e150_2 rfl (by decide) rfl (show 2 ≤ 2 by decide) (by decide) hs ht
theorem e150_5 : decode (j_co 150) 5 = .ok (.ifCond .ne 5, 3) := by decide +kernel
set_option maxRecDepth 20000 in
theorem w150_5 {d : Nat} {st : List Value} {Q : Option Value × jW → Prop} {ls : jL} {w : jW} {a : Int32} : Wp d 150 5 ls (.int a :: st) w Q = ((a = nI 0 → Wp d 150 8 ls st w Q) ∧ (¬ a = nI 0 → Wp d 150 10 ls st w Q)) := Wp.if2n (c := a = nI 0) (off := 5) e150_5 rfl rfl rfl rfl rfl
theorem e150_8 : decode (j_co 150) 8 = .ok (.iconst (-1), 1) := by decide +kernel
set_option maxRecDepth 20000 in
theorem w150_8 {d : Nat} {st : List Value} {Q : Option Value × jW → Prop} {ls : jL} {w : jW} : Wp d 150 8 ls (st) w Q = Wp d 150 9 ls (.int (-1) :: st) w Q := Wp.alu e150_8 rfl rfl
theorem e150_9 : decode (j_co 150) 9 = .ok (.ireturn, 1) := by decide +kernel
set_option maxRecDepth 20000 in
theorem w150_9 {d : Nat} {Q : Option Value × jW → Prop} {ls : jL} {w : jW} {x : Int32} : Wp d 150 9 ls [.int x] w Q = Q (some (.int x), w) := Wp.ret e150_9 rfl
theorem e150_10 : decode (j_co 150) 10 = .ok (.aload_n 0, 1) := by decide +kernel
set_option maxRecDepth 20000 in
theorem w150_10 {d : Nat} {st : List Value} {Q : Option Value × jW → Prop} {w : jW} {a1 a2 a3 a4 a5 a6 a7 a8 : Option Value} {x : Nat} : Wp d 150 10 [some (.ref x), a1, a2, a3, a4, a5, a6, a7, a8] (st) w Q = Wp d 150 11 [some (.ref x), a1, a2, a3, a4, a5, a6, a7, a8] (.ref x :: st) w Q := Wp.loc e150_10 rfl rfl rfl
theorem e150_11 : decode (j_co 150) 11 = .ok (.invokevirtual 191, 3) := by decide +kernel
set_option maxRecDepth 20000 in
theorem w150_11 {d : Nat} {st : List Value} {Q : Option Value × jW → Prop} {ls : jL} {xs : List Value} {I : fI} {L : fL} {r : Nat} (hs : j_sumc st ≤ 8) (ht : f_tg r = 11) : Wp (d + 1) 150 11 ls (.ref r :: st) (f_W xs I L) Q = Wp d 128 0 [some (.ref r), none] [] (f_W xs I L) (fun r1 => Wp (d + 1) 150 14 ls (r1.1.toList ++ st) r1.2 Q) := Wp.cv (y' := 128) (as := []) e150_11 rfl (by decide) rfl (show 1 ≤ 2 by decide) (by decide) hs ht
theorem e150_14 : decode (j_co 150) 14 = .ok (.iconst 0, 1) := by decide +kernel
set_option maxRecDepth 20000 in
theorem w150_14 {d : Nat} {st : List Value} {Q : Option Value × jW → Prop} {ls : jL} {w : jW} : Wp d 150 14 ls (st) w Q = Wp d 150 15 ls (.int (nI 0) :: st) w Q := Wp.alu e150_14 rfl rfl
theorem e150_15 : decode (j_co 150) 15 = .ok (.istore_n 2, 1) := by decide +kernel
set_option maxRecDepth 20000 in
theorem w150_15 {d : Nat} {st : List Value} {Q : Option Value × jW → Prop} {w : jW} {a0 a1 a2 a3 a4 a5 a6 a7 a8 : Option Value} {x : Int32} (h : j_cp a1) : Wp d 150 15 [a0, a1, a2, a3, a4, a5, a6, a7, a8] (.int x :: st) w Q = Wp d 150 16 [a0, a1, some (.int x), a3, a4, a5, a6, a7, a8] (st) w Q := Wp.loc e150_15 rfl rfl (v_stI (ls := [a0, a1, a2, a3, a4, a5, a6, a7, a8]) (k := 2) (show 2 < 9 by decide) h)
theorem e150_16 : decode (j_co 150) 16 = .ok (.bipush (-20), 2) := by decide +kernel
set_option maxRecDepth 20000 in
theorem w150_16 {d : Nat} {st : List Value} {Q : Option Value × jW → Prop} {ls : jL} {w : jW} : Wp d 150 16 ls (st) w Q = Wp d 150 18 ls (.int (-20) :: st) w Q := Wp.alu e150_16 rfl rfl
theorem e150_18 : decode (j_co 150) 18 = .ok (.istore_n 3, 1) := by decide +kernel
set_option maxRecDepth 20000 in
theorem w150_18 {d : Nat} {st : List Value} {Q : Option Value × jW → Prop} {w : jW} {a0 a1 a2 a3 a4 a5 a6 a7 a8 : Option Value} {x : Int32} (h : j_cp a2) : Wp d 150 18 [a0, a1, a2, a3, a4, a5, a6, a7, a8] (.int x :: st) w Q = Wp d 150 19 [a0, a1, a2, some (.int x), a4, a5, a6, a7, a8] (st) w Q := Wp.loc e150_18 rfl rfl (v_stI (ls := [a0, a1, a2, a3, a4, a5, a6, a7, a8]) (k := 3) (show 3 < 9 by decide) h)
theorem e150_19 : decode (j_co 150) 19 = .ok (.iload_n 3, 1) := by decide +kernel
set_option maxRecDepth 20000 in
theorem w150_19 {d : Nat} {st : List Value} {Q : Option Value × jW → Prop} {w : jW} {a0 a1 a2 a4 a5 a6 a7 a8 : Option Value} {x : Int32} : Wp d 150 19 [a0, a1, a2, some (.int x), a4, a5, a6, a7, a8] (st) w Q = Wp d 150 20 [a0, a1, a2, some (.int x), a4, a5, a6, a7, a8] (.int x :: st) w Q := Wp.loc e150_19 rfl rfl rfl
theorem e150_20 : decode (j_co 150) 20 = .ok (.bipush 20, 2) := by decide +kernel
set_option maxRecDepth 20000 in
theorem w150_20 {d : Nat} {st : List Value} {Q : Option Value × jW → Prop} {ls : jL} {w : jW} : Wp d 150 20 ls (st) w Q = Wp d 150 22 ls (.int (nI 20) :: st) w Q := Wp.alu e150_20 rfl rfl
theorem e150_22 : decode (j_co 150) 22 = .ok (.if_icmp .gt 183, 3) := by decide +kernel
set_option maxRecDepth 20000 in
theorem w150_22 {d : Nat} {st : List Value} {Q : Option Value × jW → Prop} {ls : jL} {w : jW} {a b : Int32} : Wp d 150 22 ls (.int b :: .int a :: st) w Q = ((b < a → Wp d 150 205 ls st w Q) ∧ (¬ b < a → Wp d 150 25 ls st w Q)) := Wp.if2 (c := b < a) (off := 183) e150_22 rfl rfl rfl rfl rfl
theorem e150_25 : decode (j_co 150) 25 = .ok (.bipush (-20), 2) := by decide +kernel
set_option maxRecDepth 20000 in
theorem w150_25 {d : Nat} {st : List Value} {Q : Option Value × jW → Prop} {ls : jL} {w : jW} : Wp d 150 25 ls (st) w Q = Wp d 150 27 ls (.int (-20) :: st) w Q := Wp.alu e150_25 rfl rfl
theorem e150_27 : decode (j_co 150) 27 = .ok (.istore 4, 2) := by decide +kernel
set_option maxRecDepth 20000 in
theorem w150_27 {d : Nat} {st : List Value} {Q : Option Value × jW → Prop} {w : jW} {a0 a1 a2 a3 a4 a5 a6 a7 a8 : Option Value} {x : Int32} (h : j_cp a3) : Wp d 150 27 [a0, a1, a2, a3, a4, a5, a6, a7, a8] (.int x :: st) w Q = Wp d 150 29 [a0, a1, a2, a3, some (.int x), a5, a6, a7, a8] (st) w Q := Wp.loc e150_27 rfl rfl (v_stI (ls := [a0, a1, a2, a3, a4, a5, a6, a7, a8]) (k := 4) (show 4 < 9 by decide) h)
theorem e150_29 : decode (j_co 150) 29 = .ok (.iload 4, 2) := by decide +kernel
set_option maxRecDepth 20000 in
theorem w150_29 {d : Nat} {st : List Value} {Q : Option Value × jW → Prop} {w : jW} {a0 a1 a2 a3 a5 a6 a7 a8 : Option Value} {x : Int32} : Wp d 150 29 [a0, a1, a2, a3, some (.int x), a5, a6, a7, a8] (st) w Q = Wp d 150 31 [a0, a1, a2, a3, some (.int x), a5, a6, a7, a8] (.int x :: st) w Q := Wp.loc e150_29 rfl rfl rfl
theorem e150_31 : decode (j_co 150) 31 = .ok (.bipush 20, 2) := by decide +kernel
set_option maxRecDepth 20000 in
theorem w150_31 {d : Nat} {st : List Value} {Q : Option Value × jW → Prop} {ls : jL} {w : jW} : Wp d 150 31 ls (st) w Q = Wp d 150 33 ls (.int (nI 20) :: st) w Q := Wp.alu e150_31 rfl rfl
theorem e150_33 : decode (j_co 150) 33 = .ok (.if_icmp .gt 166, 3) := by decide +kernel
set_option maxRecDepth 20000 in
theorem w150_33 {d : Nat} {st : List Value} {Q : Option Value × jW → Prop} {ls : jL} {w : jW} {a b : Int32} : Wp d 150 33 ls (.int b :: .int a :: st) w Q = ((b < a → Wp d 150 199 ls st w Q) ∧ (¬ b < a → Wp d 150 36 ls st w Q)) := Wp.if2 (c := b < a) (off := 166) e150_33 rfl rfl rfl rfl rfl
theorem e150_36 : decode (j_co 150) 36 = .ok (.lconst 0, 1) := by decide +kernel
set_option maxRecDepth 20000 in
theorem w150_36 {d : Nat} {st : List Value} {Q : Option Value × jW → Prop} {ls : jL} {w : jW} : Wp d 150 36 ls (st) w Q = Wp d 150 37 ls (.long (lN 0) :: st) w Q := Wp.alu e150_36 rfl rfl
theorem e150_37 : decode (j_co 150) 37 = .ok (.lstore 5, 2) := by decide +kernel
set_option maxRecDepth 20000 in
theorem w150_37 {d : Nat} {st : List Value} {Q : Option Value × jW → Prop} {w : jW} {a0 a1 a2 a3 a4 a5 a6 a7 a8 : Option Value} {x : Int64} (h : j_cp a4) : Wp d 150 37 [a0, a1, a2, a3, a4, a5, a6, a7, a8] (.long x :: st) w Q = Wp d 150 39 [a0, a1, a2, a3, a4, some (.long x), none, a7, a8] (st) w Q := Wp.loc e150_37 rfl rfl (v_stL (ls := [a0, a1, a2, a3, a4, a5, a6, a7, a8]) (k := 5) (show 6 < 9 by decide) h)
theorem e150_39 : decode (j_co 150) 39 = .ok (.iconst 0, 1) := by decide +kernel
set_option maxRecDepth 20000 in
theorem w150_39 {d : Nat} {st : List Value} {Q : Option Value × jW → Prop} {ls : jL} {w : jW} : Wp d 150 39 ls (st) w Q = Wp d 150 40 ls (.int (nI 0) :: st) w Q := Wp.alu e150_39 rfl rfl
theorem e150_40 : decode (j_co 150) 40 = .ok (.istore 7, 2) := by decide +kernel
set_option maxRecDepth 20000 in
theorem w150_40 {d : Nat} {st : List Value} {Q : Option Value × jW → Prop} {w : jW} {a0 a1 a2 a3 a4 a5 a6 a7 a8 : Option Value} {x : Int32} (h : j_cp a6) : Wp d 150 40 [a0, a1, a2, a3, a4, a5, a6, a7, a8] (.int x :: st) w Q = Wp d 150 42 [a0, a1, a2, a3, a4, a5, a6, some (.int x), a8] (st) w Q := Wp.loc e150_40 rfl rfl (v_stI (ls := [a0, a1, a2, a3, a4, a5, a6, a7, a8]) (k := 7) (show 7 < 9 by decide) h)
theorem e150_42 : decode (j_co 150) 42 = .ok (.iload 7, 2) := by decide +kernel
set_option maxRecDepth 20000 in
theorem w150_42 {d : Nat} {st : List Value} {Q : Option Value × jW → Prop} {w : jW} {a0 a1 a2 a3 a4 a5 a6 a8 : Option Value} {x : Int32} : Wp d 150 42 [a0, a1, a2, a3, a4, a5, a6, some (.int x), a8] (st) w Q = Wp d 150 44 [a0, a1, a2, a3, a4, a5, a6, some (.int x), a8] (.int x :: st) w Q := Wp.loc e150_42 rfl rfl rfl
theorem e150_44 : decode (j_co 150) 44 = .ok (.aload_n 0, 1) := by decide +kernel
set_option maxRecDepth 20000 in
theorem w150_44 {d : Nat} {st : List Value} {Q : Option Value × jW → Prop} {w : jW} {a1 a2 a3 a4 a5 a6 a7 a8 : Option Value} {x : Nat} : Wp d 150 44 [some (.ref x), a1, a2, a3, a4, a5, a6, a7, a8] (st) w Q = Wp d 150 45 [some (.ref x), a1, a2, a3, a4, a5, a6, a7, a8] (.ref x :: st) w Q := Wp.loc e150_44 rfl rfl rfl
theorem e150_45 : decode (j_co 150) 45 = .ok (.getfield 135, 3) := by decide +kernel
set_option maxRecDepth 20000 in
theorem w150_45 {d : Nat} {st : List Value} {Q : Option Value × jW → Prop} {ls : jL} {xs : List Value} {I : fI} {L : fL} {o : Nat} (ht : f_tg o = 11) : Wp d 150 45 ls (.ref o :: st) (f_W xs I L) Q = Wp d 150 48 ls (.int (I o 16) :: st) (f_W xs I L) Q := Wp.getI (ci := 11) (k := 16) e150_45 rfl (by decide) (by decide) (by decide) ht
theorem e150_48 : decode (j_co 150) 48 = .ok (.if_icmp .ge 118, 3) := by decide +kernel
set_option maxRecDepth 20000 in
theorem w150_48 {d : Nat} {st : List Value} {Q : Option Value × jW → Prop} {ls : jL} {w : jW} {a b : Int32} : Wp d 150 48 ls (.int b :: .int a :: st) w Q = ((b ≤ a → Wp d 150 166 ls st w Q) ∧ (¬ b ≤ a → Wp d 150 51 ls st w Q)) := Wp.if2 (c := b ≤ a) (off := 118) e150_48 rfl rfl rfl rfl rfl
theorem e150_51 : decode (j_co 150) 51 = .ok (.bipush 6, 2) := by decide +kernel
set_option maxRecDepth 20000 in
theorem w150_51 {d : Nat} {st : List Value} {Q : Option Value × jW → Prop} {ls : jL} {w : jW} : Wp d 150 51 ls (st) w Q = Wp d 150 53 ls (.int (nI 6) :: st) w Q := Wp.alu e150_51 rfl rfl
theorem e150_53 : decode (j_co 150) 53 = .ok (.iload 7, 2) := by decide +kernel
set_option maxRecDepth 20000 in
theorem w150_53 {d : Nat} {st : List Value} {Q : Option Value × jW → Prop} {w : jW} {a0 a1 a2 a3 a4 a5 a6 a8 : Option Value} {x : Int32} : Wp d 150 53 [a0, a1, a2, a3, a4, a5, a6, some (.int x), a8] (st) w Q = Wp d 150 55 [a0, a1, a2, a3, a4, a5, a6, some (.int x), a8] (.int x :: st) w Q := Wp.loc e150_53 rfl rfl rfl
theorem e150_55 : decode (j_co 150) 55 = .ok (.imul, 1) := by decide +kernel
set_option maxRecDepth 20000 in
theorem w150_55 {d : Nat} {st : List Value} {Q : Option Value × jW → Prop} {ls : jL} {w : jW} {a b : Int32} : Wp d 150 55 ls (.int b :: .int a :: st) w Q = Wp d 150 56 ls (.int (a * b) :: st) w Q := Wp.alu e150_55 rfl rfl
theorem e150_56 : decode (j_co 150) 56 = .ok (.istore 8, 2) := by decide +kernel
set_option maxRecDepth 20000 in
theorem w150_56 {d : Nat} {st : List Value} {Q : Option Value × jW → Prop} {w : jW} {a0 a1 a2 a3 a4 a5 a6 a7 a8 : Option Value} {x : Int32} (h : j_cp a7) : Wp d 150 56 [a0, a1, a2, a3, a4, a5, a6, a7, a8] (.int x :: st) w Q = Wp d 150 58 [a0, a1, a2, a3, a4, a5, a6, a7, some (.int x)] (st) w Q := Wp.loc e150_56 rfl rfl (v_stI (ls := [a0, a1, a2, a3, a4, a5, a6, a7, a8]) (k := 8) (show 8 < 9 by decide) h)
theorem e150_58 : decode (j_co 150) 58 = .ok (.aload_n 0, 1) := by decide +kernel
set_option maxRecDepth 20000 in
theorem w150_58 {d : Nat} {st : List Value} {Q : Option Value × jW → Prop} {w : jW} {a1 a2 a3 a4 a5 a6 a7 a8 : Option Value} {x : Nat} : Wp d 150 58 [some (.ref x), a1, a2, a3, a4, a5, a6, a7, a8] (st) w Q = Wp d 150 59 [some (.ref x), a1, a2, a3, a4, a5, a6, a7, a8] (.ref x :: st) w Q := Wp.loc e150_58 rfl rfl rfl
theorem e150_59 : decode (j_co 150) 59 = .ok (.getfield 51, 3) := by decide +kernel
set_option maxRecDepth 20000 in
theorem w150_59 {d : Nat} {st : List Value} {Q : Option Value × jW → Prop} {ls : jL} {xs : List Value} {I : fI} {L : fL} {o : Nat} (ht : f_tg o = 11) : Wp d 150 59 ls (.ref o :: st) (f_W xs I L) Q = Wp d 150 62 ls (.ref (f_rf o 17) :: st) (f_W xs I L) Q := Wp.getR (ci := 11) (k := 17) e150_59 rfl (by decide) (by decide) rfl ht
theorem e150_62 : decode (j_co 150) 62 = .ok (.iload 7, 2) := by decide +kernel
set_option maxRecDepth 20000 in
theorem w150_62 {d : Nat} {st : List Value} {Q : Option Value × jW → Prop} {w : jW} {a0 a1 a2 a3 a4 a5 a6 a8 : Option Value} {x : Int32} : Wp d 150 62 [a0, a1, a2, a3, a4, a5, a6, some (.int x), a8] (st) w Q = Wp d 150 64 [a0, a1, a2, a3, a4, a5, a6, some (.int x), a8] (.int x :: st) w Q := Wp.loc e150_62 rfl rfl rfl
theorem e150_64 : decode (j_co 150) 64 = .ok (.iaload, 1) := by decide +kernel
set_option maxRecDepth 20000 in
theorem w150_64 {d : Nat} {st : List Value} {Q : Option Value × jW → Prop} {ls : jL} {xs : List Value} {I : fI} {L : fL} {o : Nat} {i : Int32} (ht : f_tg o = 100) (hi : ¬ (i < 0 ∨ f_ln o ≤ i.toNatClampNeg)) : Wp d 150 64 ls (.int i :: .ref o :: st) (f_W xs I L) Q = Wp d 150 65 ls (.int (I o i.toNatClampNeg) :: st) (f_W xs I L) Q := Wp.iald e150_64 ht hi
theorem e150_65 : decode (j_co 150) 65 = .ok (.iload_n 1, 1) := by decide +kernel
set_option maxRecDepth 20000 in
theorem w150_65 {d : Nat} {st : List Value} {Q : Option Value × jW → Prop} {w : jW} {a0 a2 a3 a4 a5 a6 a7 a8 : Option Value} {x : Int32} : Wp d 150 65 [a0, some (.int x), a2, a3, a4, a5, a6, a7, a8] (st) w Q = Wp d 150 66 [a0, some (.int x), a2, a3, a4, a5, a6, a7, a8] (.int x :: st) w Q := Wp.loc e150_65 rfl rfl rfl
theorem e150_66 : decode (j_co 150) 66 = .ok (.if_icmp .ne 94, 3) := by decide +kernel
set_option maxRecDepth 20000 in
theorem w150_66 {d : Nat} {st : List Value} {Q : Option Value × jW → Prop} {ls : jL} {w : jW} {a b : Int32} : Wp d 150 66 ls (.int b :: .int a :: st) w Q = ((a = b → Wp d 150 69 ls st w Q) ∧ (¬ a = b → Wp d 150 160 ls st w Q)) := Wp.if2n (c := a = b) (off := 94) e150_66 rfl rfl rfl rfl rfl
theorem e150_69 : decode (j_co 150) 69 = .ok (.iload_n 3, 1) := by decide +kernel
set_option maxRecDepth 20000 in
theorem w150_69 {d : Nat} {st : List Value} {Q : Option Value × jW → Prop} {w : jW} {a0 a1 a2 a4 a5 a6 a7 a8 : Option Value} {x : Int32} : Wp d 150 69 [a0, a1, a2, some (.int x), a4, a5, a6, a7, a8] (st) w Q = Wp d 150 70 [a0, a1, a2, some (.int x), a4, a5, a6, a7, a8] (.int x :: st) w Q := Wp.loc e150_69 rfl rfl rfl
theorem e150_70 : decode (j_co 150) 70 = .ok (.i2l, 1) := by decide +kernel
set_option maxRecDepth 20000 in
theorem w150_70 {d : Nat} {st : List Value} {Q : Option Value × jW → Prop} {ls : jL} {w : jW} {a : Int32} : Wp d 150 70 ls (.int a :: st) w Q = Wp d 150 71 ls (.long a.toInt64 :: st) w Q := Wp.alu e150_70 rfl rfl
theorem e150_71 : decode (j_co 150) 71 = .ok (.aload_n 0, 1) := by decide +kernel
set_option maxRecDepth 20000 in
theorem w150_71 {d : Nat} {st : List Value} {Q : Option Value × jW → Prop} {w : jW} {a1 a2 a3 a4 a5 a6 a7 a8 : Option Value} {x : Nat} : Wp d 150 71 [some (.ref x), a1, a2, a3, a4, a5, a6, a7, a8] (st) w Q = Wp d 150 72 [some (.ref x), a1, a2, a3, a4, a5, a6, a7, a8] (.ref x :: st) w Q := Wp.loc e150_71 rfl rfl rfl
theorem e150_72 : decode (j_co 150) 72 = .ok (.getfield 54, 3) := by decide +kernel
set_option maxRecDepth 20000 in
theorem w150_72 {d : Nat} {st : List Value} {Q : Option Value × jW → Prop} {ls : jL} {xs : List Value} {I : fI} {L : fL} {o : Nat} (ht : f_tg o = 11) : Wp d 150 72 ls (.ref o :: st) (f_W xs I L) Q = Wp d 150 75 ls (.ref (f_rf o 18) :: st) (f_W xs I L) Q := Wp.getR (ci := 11) (k := 18) e150_72 rfl (by decide) (by decide) rfl ht
theorem e150_75 : decode (j_co 150) 75 = .ok (.iload 8, 2) := by decide +kernel
set_option maxRecDepth 20000 in
theorem w150_75 {d : Nat} {st : List Value} {Q : Option Value × jW → Prop} {w : jW} {a0 a1 a2 a3 a4 a5 a6 a7 : Option Value} {x : Int32} : Wp d 150 75 [a0, a1, a2, a3, a4, a5, a6, a7, some (.int x)] (st) w Q = Wp d 150 77 [a0, a1, a2, a3, a4, a5, a6, a7, some (.int x)] (.int x :: st) w Q := Wp.loc e150_75 rfl rfl rfl
theorem e150_77 : decode (j_co 150) 77 = .ok (.iaload, 1) := by decide +kernel
set_option maxRecDepth 20000 in
theorem w150_77 {d : Nat} {st : List Value} {Q : Option Value × jW → Prop} {ls : jL} {xs : List Value} {I : fI} {L : fL} {o : Nat} {i : Int32} (ht : f_tg o = 100) (hi : ¬ (i < 0 ∨ f_ln o ≤ i.toNatClampNeg)) : Wp d 150 77 ls (.int i :: .ref o :: st) (f_W xs I L) Q = Wp d 150 78 ls (.int (I o i.toNatClampNeg) :: st) (f_W xs I L) Q := Wp.iald e150_77 ht hi
theorem e150_78 : decode (j_co 150) 78 = .ok (.i2l, 1) := by decide +kernel
set_option maxRecDepth 20000 in
theorem w150_78 {d : Nat} {st : List Value} {Q : Option Value × jW → Prop} {ls : jL} {w : jW} {a : Int32} : Wp d 150 78 ls (.int a :: st) w Q = Wp d 150 79 ls (.long a.toInt64 :: st) w Q := Wp.alu e150_78 rfl rfl
theorem e150_79 : decode (j_co 150) 79 = .ok (.aload_n 0, 1) := by decide +kernel
set_option maxRecDepth 20000 in
theorem w150_79 {d : Nat} {st : List Value} {Q : Option Value × jW → Prop} {w : jW} {a1 a2 a3 a4 a5 a6 a7 a8 : Option Value} {x : Nat} : Wp d 150 79 [some (.ref x), a1, a2, a3, a4, a5, a6, a7, a8] (st) w Q = Wp d 150 80 [some (.ref x), a1, a2, a3, a4, a5, a6, a7, a8] (.ref x :: st) w Q := Wp.loc e150_79 rfl rfl rfl
theorem e150_80 : decode (j_co 150) 80 = .ok (.getfield 54, 3) := by decide +kernel
set_option maxRecDepth 20000 in
theorem w150_80 {d : Nat} {st : List Value} {Q : Option Value × jW → Prop} {ls : jL} {xs : List Value} {I : fI} {L : fL} {o : Nat} (ht : f_tg o = 11) : Wp d 150 80 ls (.ref o :: st) (f_W xs I L) Q = Wp d 150 83 ls (.ref (f_rf o 18) :: st) (f_W xs I L) Q := Wp.getR (ci := 11) (k := 18) e150_80 rfl (by decide) (by decide) rfl ht
theorem e150_83 : decode (j_co 150) 83 = .ok (.iload 8, 2) := by decide +kernel
set_option maxRecDepth 20000 in
theorem w150_83 {d : Nat} {st : List Value} {Q : Option Value × jW → Prop} {w : jW} {a0 a1 a2 a3 a4 a5 a6 a7 : Option Value} {x : Int32} : Wp d 150 83 [a0, a1, a2, a3, a4, a5, a6, a7, some (.int x)] (st) w Q = Wp d 150 85 [a0, a1, a2, a3, a4, a5, a6, a7, some (.int x)] (.int x :: st) w Q := Wp.loc e150_83 rfl rfl rfl
theorem e150_85 : decode (j_co 150) 85 = .ok (.iconst 1, 1) := by decide +kernel
set_option maxRecDepth 20000 in
theorem w150_85 {d : Nat} {st : List Value} {Q : Option Value × jW → Prop} {ls : jL} {w : jW} : Wp d 150 85 ls (st) w Q = Wp d 150 86 ls (.int (nI 1) :: st) w Q := Wp.alu e150_85 rfl rfl
theorem e150_86 : decode (j_co 150) 86 = .ok (.iadd, 1) := by decide +kernel
set_option maxRecDepth 20000 in
theorem w150_86 {d : Nat} {st : List Value} {Q : Option Value × jW → Prop} {ls : jL} {w : jW} {a b : Int32} : Wp d 150 86 ls (.int b :: .int a :: st) w Q = Wp d 150 87 ls (.int (a + b) :: st) w Q := Wp.alu e150_86 rfl rfl
theorem e150_87 : decode (j_co 150) 87 = .ok (.iaload, 1) := by decide +kernel
set_option maxRecDepth 20000 in
theorem w150_87 {d : Nat} {st : List Value} {Q : Option Value × jW → Prop} {ls : jL} {xs : List Value} {I : fI} {L : fL} {o : Nat} {i : Int32} (ht : f_tg o = 100) (hi : ¬ (i < 0 ∨ f_ln o ≤ i.toNatClampNeg)) : Wp d 150 87 ls (.int i :: .ref o :: st) (f_W xs I L) Q = Wp d 150 88 ls (.int (I o i.toNatClampNeg) :: st) (f_W xs I L) Q := Wp.iald e150_87 ht hi
theorem e150_88 : decode (j_co 150) 88 = .ok (.i2l, 1) := by decide +kernel
set_option maxRecDepth 20000 in
theorem w150_88 {d : Nat} {st : List Value} {Q : Option Value × jW → Prop} {ls : jL} {w : jW} {a : Int32} : Wp d 150 88 ls (.int a :: st) w Q = Wp d 150 89 ls (.long a.toInt64 :: st) w Q := Wp.alu e150_88 rfl rfl
theorem e150_89 : decode (j_co 150) 89 = .ok (.invokestatic 93, 3) := by decide +kernel
set_option maxRecDepth 20000 in
theorem w150_89 {d : Nat} {st : List Value} {Q : Option Value × jW → Prop} {ls : jL} {w : jW} {x0 : Int64} {x1 : Int64} {x2 : Int64} (hs : j_sumc st ≤ 8) : Wp (d + 1) 150 89 ls (.long x2 :: .long x1 :: .long x0 :: st) w Q = Wp d 115 0 [some (.long x0), none, some (.long x1), none, some (.long x2), none] [] w (fun r1 => Wp (d + 1) 150 92 ls (r1.1.toList ++ st) r1.2 Q) := Wp.cs (kd := 1) (y' := 115) (as := [.long x0, .long x1, .long x2]) e150_89 rfl (by decide) (by decide) rfl (show 6 ≤ 6 by decide) hs
theorem e150_92 : decode (j_co 150) 92 = .ok (.ifCond .eq 68, 3) := by decide +kernel
set_option maxRecDepth 20000 in
theorem w150_92 {d : Nat} {st : List Value} {Q : Option Value × jW → Prop} {ls : jL} {w : jW} {a : Int32} : Wp d 150 92 ls (.int a :: st) w Q = ((a = nI 0 → Wp d 150 160 ls st w Q) ∧ (¬ a = nI 0 → Wp d 150 95 ls st w Q)) := Wp.if2 (c := a = nI 0) (off := 68) e150_92 rfl rfl rfl rfl rfl
theorem e150_95 : decode (j_co 150) 95 = .ok (.iload 4, 2) := by decide +kernel
set_option maxRecDepth 20000 in
theorem w150_95 {d : Nat} {st : List Value} {Q : Option Value × jW → Prop} {w : jW} {a0 a1 a2 a3 a5 a6 a7 a8 : Option Value} {x : Int32} : Wp d 150 95 [a0, a1, a2, a3, some (.int x), a5, a6, a7, a8] (st) w Q = Wp d 150 97 [a0, a1, a2, a3, some (.int x), a5, a6, a7, a8] (.int x :: st) w Q := Wp.loc e150_95 rfl rfl rfl
theorem e150_97 : decode (j_co 150) 97 = .ok (.i2l, 1) := by decide +kernel
set_option maxRecDepth 20000 in
theorem w150_97 {d : Nat} {st : List Value} {Q : Option Value × jW → Prop} {ls : jL} {w : jW} {a : Int32} : Wp d 150 97 ls (.int a :: st) w Q = Wp d 150 98 ls (.long a.toInt64 :: st) w Q := Wp.alu e150_97 rfl rfl
theorem e150_98 : decode (j_co 150) 98 = .ok (.aload_n 0, 1) := by decide +kernel
set_option maxRecDepth 20000 in
theorem w150_98 {d : Nat} {st : List Value} {Q : Option Value × jW → Prop} {w : jW} {a1 a2 a3 a4 a5 a6 a7 a8 : Option Value} {x : Nat} : Wp d 150 98 [some (.ref x), a1, a2, a3, a4, a5, a6, a7, a8] (st) w Q = Wp d 150 99 [some (.ref x), a1, a2, a3, a4, a5, a6, a7, a8] (.ref x :: st) w Q := Wp.loc e150_98 rfl rfl rfl
theorem e150_99 : decode (j_co 150) 99 = .ok (.getfield 54, 3) := by decide +kernel
set_option maxRecDepth 20000 in
theorem w150_99 {d : Nat} {st : List Value} {Q : Option Value × jW → Prop} {ls : jL} {xs : List Value} {I : fI} {L : fL} {o : Nat} (ht : f_tg o = 11) : Wp d 150 99 ls (.ref o :: st) (f_W xs I L) Q = Wp d 150 102 ls (.ref (f_rf o 18) :: st) (f_W xs I L) Q := Wp.getR (ci := 11) (k := 18) e150_99 rfl (by decide) (by decide) rfl ht
theorem e150_102 : decode (j_co 150) 102 = .ok (.iload 8, 2) := by decide +kernel
set_option maxRecDepth 20000 in
theorem w150_102 {d : Nat} {st : List Value} {Q : Option Value × jW → Prop} {w : jW} {a0 a1 a2 a3 a4 a5 a6 a7 : Option Value} {x : Int32} : Wp d 150 102 [a0, a1, a2, a3, a4, a5, a6, a7, some (.int x)] (st) w Q = Wp d 150 104 [a0, a1, a2, a3, a4, a5, a6, a7, some (.int x)] (.int x :: st) w Q := Wp.loc e150_102 rfl rfl rfl
theorem e150_104 : decode (j_co 150) 104 = .ok (.iconst 2, 1) := by decide +kernel
set_option maxRecDepth 20000 in
theorem w150_104 {d : Nat} {st : List Value} {Q : Option Value × jW → Prop} {ls : jL} {w : jW} : Wp d 150 104 ls (st) w Q = Wp d 150 105 ls (.int (nI 2) :: st) w Q := Wp.alu e150_104 rfl rfl
theorem e150_105 : decode (j_co 150) 105 = .ok (.iadd, 1) := by decide +kernel
set_option maxRecDepth 20000 in
theorem w150_105 {d : Nat} {st : List Value} {Q : Option Value × jW → Prop} {ls : jL} {w : jW} {a b : Int32} : Wp d 150 105 ls (.int b :: .int a :: st) w Q = Wp d 150 106 ls (.int (a + b) :: st) w Q := Wp.alu e150_105 rfl rfl
theorem e150_106 : decode (j_co 150) 106 = .ok (.iaload, 1) := by decide +kernel
set_option maxRecDepth 20000 in
theorem w150_106 {d : Nat} {st : List Value} {Q : Option Value × jW → Prop} {ls : jL} {xs : List Value} {I : fI} {L : fL} {o : Nat} {i : Int32} (ht : f_tg o = 100) (hi : ¬ (i < 0 ∨ f_ln o ≤ i.toNatClampNeg)) : Wp d 150 106 ls (.int i :: .ref o :: st) (f_W xs I L) Q = Wp d 150 107 ls (.int (I o i.toNatClampNeg) :: st) (f_W xs I L) Q := Wp.iald e150_106 ht hi
theorem e150_107 : decode (j_co 150) 107 = .ok (.i2l, 1) := by decide +kernel
set_option maxRecDepth 20000 in
theorem w150_107 {d : Nat} {st : List Value} {Q : Option Value × jW → Prop} {ls : jL} {w : jW} {a : Int32} : Wp d 150 107 ls (.int a :: st) w Q = Wp d 150 108 ls (.long a.toInt64 :: st) w Q := Wp.alu e150_107 rfl rfl
theorem e150_108 : decode (j_co 150) 108 = .ok (.aload_n 0, 1) := by decide +kernel
set_option maxRecDepth 20000 in
theorem w150_108 {d : Nat} {st : List Value} {Q : Option Value × jW → Prop} {w : jW} {a1 a2 a3 a4 a5 a6 a7 a8 : Option Value} {x : Nat} : Wp d 150 108 [some (.ref x), a1, a2, a3, a4, a5, a6, a7, a8] (st) w Q = Wp d 150 109 [some (.ref x), a1, a2, a3, a4, a5, a6, a7, a8] (.ref x :: st) w Q := Wp.loc e150_108 rfl rfl rfl
theorem e150_109 : decode (j_co 150) 109 = .ok (.getfield 54, 3) := by decide +kernel
set_option maxRecDepth 20000 in
theorem w150_109 {d : Nat} {st : List Value} {Q : Option Value × jW → Prop} {ls : jL} {xs : List Value} {I : fI} {L : fL} {o : Nat} (ht : f_tg o = 11) : Wp d 150 109 ls (.ref o :: st) (f_W xs I L) Q = Wp d 150 112 ls (.ref (f_rf o 18) :: st) (f_W xs I L) Q := Wp.getR (ci := 11) (k := 18) e150_109 rfl (by decide) (by decide) rfl ht
theorem e150_112 : decode (j_co 150) 112 = .ok (.iload 8, 2) := by decide +kernel
set_option maxRecDepth 20000 in
theorem w150_112 {d : Nat} {st : List Value} {Q : Option Value × jW → Prop} {w : jW} {a0 a1 a2 a3 a4 a5 a6 a7 : Option Value} {x : Int32} : Wp d 150 112 [a0, a1, a2, a3, a4, a5, a6, a7, some (.int x)] (st) w Q = Wp d 150 114 [a0, a1, a2, a3, a4, a5, a6, a7, some (.int x)] (.int x :: st) w Q := Wp.loc e150_112 rfl rfl rfl
theorem e150_114 : decode (j_co 150) 114 = .ok (.iconst 3, 1) := by decide +kernel
set_option maxRecDepth 20000 in
theorem w150_114 {d : Nat} {st : List Value} {Q : Option Value × jW → Prop} {ls : jL} {w : jW} : Wp d 150 114 ls (st) w Q = Wp d 150 115 ls (.int (nI 3) :: st) w Q := Wp.alu e150_114 rfl rfl
theorem e150_115 : decode (j_co 150) 115 = .ok (.iadd, 1) := by decide +kernel
set_option maxRecDepth 20000 in
theorem w150_115 {d : Nat} {st : List Value} {Q : Option Value × jW → Prop} {ls : jL} {w : jW} {a b : Int32} : Wp d 150 115 ls (.int b :: .int a :: st) w Q = Wp d 150 116 ls (.int (a + b) :: st) w Q := Wp.alu e150_115 rfl rfl
theorem e150_116 : decode (j_co 150) 116 = .ok (.iaload, 1) := by decide +kernel
set_option maxRecDepth 20000 in
theorem w150_116 {d : Nat} {st : List Value} {Q : Option Value × jW → Prop} {ls : jL} {xs : List Value} {I : fI} {L : fL} {o : Nat} {i : Int32} (ht : f_tg o = 100) (hi : ¬ (i < 0 ∨ f_ln o ≤ i.toNatClampNeg)) : Wp d 150 116 ls (.int i :: .ref o :: st) (f_W xs I L) Q = Wp d 150 117 ls (.int (I o i.toNatClampNeg) :: st) (f_W xs I L) Q := Wp.iald e150_116 ht hi
theorem e150_117 : decode (j_co 150) 117 = .ok (.i2l, 1) := by decide +kernel
set_option maxRecDepth 20000 in
theorem w150_117 {d : Nat} {st : List Value} {Q : Option Value × jW → Prop} {ls : jL} {w : jW} {a : Int32} : Wp d 150 117 ls (.int a :: st) w Q = Wp d 150 118 ls (.long a.toInt64 :: st) w Q := Wp.alu e150_117 rfl rfl
theorem e150_118 : decode (j_co 150) 118 = .ok (.invokestatic 93, 3) := by decide +kernel
set_option maxRecDepth 20000 in
theorem w150_118 {d : Nat} {st : List Value} {Q : Option Value × jW → Prop} {ls : jL} {w : jW} {x0 : Int64} {x1 : Int64} {x2 : Int64} (hs : j_sumc st ≤ 8) : Wp (d + 1) 150 118 ls (.long x2 :: .long x1 :: .long x0 :: st) w Q = Wp d 115 0 [some (.long x0), none, some (.long x1), none, some (.long x2), none] [] w (fun r1 => Wp (d + 1) 150 121 ls (r1.1.toList ++ st) r1.2 Q) := Wp.cs (kd := 1) (y' := 115) (as := [.long x0, .long x1, .long x2]) e150_118 rfl (by decide) (by decide) rfl (show 6 ≤ 6 by decide) hs
theorem e150_121 : decode (j_co 150) 121 = .ok (.ifCond .eq 39, 3) := by decide +kernel
set_option maxRecDepth 20000 in
theorem w150_121 {d : Nat} {st : List Value} {Q : Option Value × jW → Prop} {ls : jL} {w : jW} {a : Int32} : Wp d 150 121 ls (.int a :: st) w Q = ((a = nI 0 → Wp d 150 160 ls st w Q) ∧ (¬ a = nI 0 → Wp d 150 124 ls st w Q)) := Wp.if2 (c := a = nI 0) (off := 39) e150_121 rfl rfl rfl rfl rfl
theorem e150_124 : decode (j_co 150) 124 = .ok (.lload 5, 2) := by decide +kernel
set_option maxRecDepth 20000 in
theorem w150_124 {d : Nat} {st : List Value} {Q : Option Value × jW → Prop} {w : jW} {a0 a1 a2 a3 a4 a6 a7 a8 : Option Value} {x : Int64} : Wp d 150 124 [a0, a1, a2, a3, a4, some (.long x), a6, a7, a8] (st) w Q = Wp d 150 126 [a0, a1, a2, a3, a4, some (.long x), a6, a7, a8] (.long x :: st) w Q := Wp.loc e150_124 rfl rfl rfl
theorem e150_126 : decode (j_co 150) 126 = .ok (.lconst 1, 1) := by decide +kernel
set_option maxRecDepth 20000 in
theorem w150_126 {d : Nat} {st : List Value} {Q : Option Value × jW → Prop} {ls : jL} {w : jW} : Wp d 150 126 ls (st) w Q = Wp d 150 127 ls (.long (lN 1) :: st) w Q := Wp.alu e150_126 rfl rfl
theorem e150_127 : decode (j_co 150) 127 = .ok (.aload_n 0, 1) := by decide +kernel
set_option maxRecDepth 20000 in
theorem w150_127 {d : Nat} {st : List Value} {Q : Option Value × jW → Prop} {w : jW} {a1 a2 a3 a4 a5 a6 a7 a8 : Option Value} {x : Nat} : Wp d 150 127 [some (.ref x), a1, a2, a3, a4, a5, a6, a7, a8] (st) w Q = Wp d 150 128 [some (.ref x), a1, a2, a3, a4, a5, a6, a7, a8] (.ref x :: st) w Q := Wp.loc e150_127 rfl rfl rfl
theorem e150_128 : decode (j_co 150) 128 = .ok (.getfield 54, 3) := by decide +kernel
set_option maxRecDepth 20000 in
theorem w150_128 {d : Nat} {st : List Value} {Q : Option Value × jW → Prop} {ls : jL} {xs : List Value} {I : fI} {L : fL} {o : Nat} (ht : f_tg o = 11) : Wp d 150 128 ls (.ref o :: st) (f_W xs I L) Q = Wp d 150 131 ls (.ref (f_rf o 18) :: st) (f_W xs I L) Q := Wp.getR (ci := 11) (k := 18) e150_128 rfl (by decide) (by decide) rfl ht
theorem e150_131 : decode (j_co 150) 131 = .ok (.iload 8, 2) := by decide +kernel
set_option maxRecDepth 20000 in
theorem w150_131 {d : Nat} {st : List Value} {Q : Option Value × jW → Prop} {w : jW} {a0 a1 a2 a3 a4 a5 a6 a7 : Option Value} {x : Int32} : Wp d 150 131 [a0, a1, a2, a3, a4, a5, a6, a7, some (.int x)] (st) w Q = Wp d 150 133 [a0, a1, a2, a3, a4, a5, a6, a7, some (.int x)] (.int x :: st) w Q := Wp.loc e150_131 rfl rfl rfl
theorem e150_133 : decode (j_co 150) 133 = .ok (.iconst 5, 1) := by decide +kernel
set_option maxRecDepth 20000 in
theorem w150_133 {d : Nat} {st : List Value} {Q : Option Value × jW → Prop} {ls : jL} {w : jW} : Wp d 150 133 ls (st) w Q = Wp d 150 134 ls (.int (nI 5) :: st) w Q := Wp.alu e150_133 rfl rfl
theorem e150_134 : decode (j_co 150) 134 = .ok (.iadd, 1) := by decide +kernel
set_option maxRecDepth 20000 in
theorem w150_134 {d : Nat} {st : List Value} {Q : Option Value × jW → Prop} {ls : jL} {w : jW} {a b : Int32} : Wp d 150 134 ls (.int b :: .int a :: st) w Q = Wp d 150 135 ls (.int (a + b) :: st) w Q := Wp.alu e150_134 rfl rfl
theorem e150_135 : decode (j_co 150) 135 = .ok (.iaload, 1) := by decide +kernel
set_option maxRecDepth 20000 in
theorem w150_135 {d : Nat} {st : List Value} {Q : Option Value × jW → Prop} {ls : jL} {xs : List Value} {I : fI} {L : fL} {o : Nat} {i : Int32} (ht : f_tg o = 100) (hi : ¬ (i < 0 ∨ f_ln o ≤ i.toNatClampNeg)) : Wp d 150 135 ls (.int i :: .ref o :: st) (f_W xs I L) Q = Wp d 150 136 ls (.int (I o i.toNatClampNeg) :: st) (f_W xs I L) Q := Wp.iald e150_135 ht hi
theorem e150_136 : decode (j_co 150) 136 = .ok (.bipush 20, 2) := by decide +kernel
set_option maxRecDepth 20000 in
theorem w150_136 {d : Nat} {st : List Value} {Q : Option Value × jW → Prop} {ls : jL} {w : jW} : Wp d 150 136 ls (st) w Q = Wp d 150 138 ls (.int (nI 20) :: st) w Q := Wp.alu e150_136 rfl rfl
theorem e150_138 : decode (j_co 150) 138 = .ok (.iadd, 1) := by decide +kernel
set_option maxRecDepth 20000 in
theorem w150_138 {d : Nat} {st : List Value} {Q : Option Value × jW → Prop} {ls : jL} {w : jW} {a b : Int32} : Wp d 150 138 ls (.int b :: .int a :: st) w Q = Wp d 150 139 ls (.int (a + b) :: st) w Q := Wp.alu e150_138 rfl rfl
theorem e150_139 : decode (j_co 150) 139 = .ok (.iconst 1, 1) := by decide +kernel
set_option maxRecDepth 20000 in
theorem w150_139 {d : Nat} {st : List Value} {Q : Option Value × jW → Prop} {ls : jL} {w : jW} : Wp d 150 139 ls (st) w Q = Wp d 150 140 ls (.int (nI 1) :: st) w Q := Wp.alu e150_139 rfl rfl
theorem e150_140 : decode (j_co 150) 140 = .ok (.iadd, 1) := by decide +kernel
set_option maxRecDepth 20000 in
theorem w150_140 {d : Nat} {st : List Value} {Q : Option Value × jW → Prop} {ls : jL} {w : jW} {a b : Int32} : Wp d 150 140 ls (.int b :: .int a :: st) w Q = Wp d 150 141 ls (.int (a + b) :: st) w Q := Wp.alu e150_140 rfl rfl
theorem e150_141 : decode (j_co 150) 141 = .ok (.lshl, 1) := by decide +kernel
set_option maxRecDepth 20000 in
theorem w150_141 {d : Nat} {st : List Value} {Q : Option Value × jW → Prop} {ls : jL} {w : jW} {a : Int64} {b : Int32} : Wp d 150 141 ls (.int b :: .long a :: st) w Q = Wp d 150 142 ls (.long (a <<< (b.toInt64 &&& 63)) :: st) w Q := Wp.alu e150_141 rfl rfl
theorem e150_142 : decode (j_co 150) 142 = .ok (.lconst 1, 1) := by decide +kernel
set_option maxRecDepth 20000 in
theorem w150_142 {d : Nat} {st : List Value} {Q : Option Value × jW → Prop} {ls : jL} {w : jW} : Wp d 150 142 ls (st) w Q = Wp d 150 143 ls (.long (lN 1) :: st) w Q := Wp.alu e150_142 rfl rfl
theorem e150_143 : decode (j_co 150) 143 = .ok (.aload_n 0, 1) := by decide +kernel
set_option maxRecDepth 20000 in
theorem w150_143 {d : Nat} {st : List Value} {Q : Option Value × jW → Prop} {w : jW} {a1 a2 a3 a4 a5 a6 a7 a8 : Option Value} {x : Nat} : Wp d 150 143 [some (.ref x), a1, a2, a3, a4, a5, a6, a7, a8] (st) w Q = Wp d 150 144 [some (.ref x), a1, a2, a3, a4, a5, a6, a7, a8] (.ref x :: st) w Q := Wp.loc e150_143 rfl rfl rfl
theorem e150_144 : decode (j_co 150) 144 = .ok (.getfield 54, 3) := by decide +kernel
set_option maxRecDepth 20000 in
theorem w150_144 {d : Nat} {st : List Value} {Q : Option Value × jW → Prop} {ls : jL} {xs : List Value} {I : fI} {L : fL} {o : Nat} (ht : f_tg o = 11) : Wp d 150 144 ls (.ref o :: st) (f_W xs I L) Q = Wp d 150 147 ls (.ref (f_rf o 18) :: st) (f_W xs I L) Q := Wp.getR (ci := 11) (k := 18) e150_144 rfl (by decide) (by decide) rfl ht
theorem e150_147 : decode (j_co 150) 147 = .ok (.iload 8, 2) := by decide +kernel
set_option maxRecDepth 20000 in
theorem w150_147 {d : Nat} {st : List Value} {Q : Option Value × jW → Prop} {w : jW} {a0 a1 a2 a3 a4 a5 a6 a7 : Option Value} {x : Int32} : Wp d 150 147 [a0, a1, a2, a3, a4, a5, a6, a7, some (.int x)] (st) w Q = Wp d 150 149 [a0, a1, a2, a3, a4, a5, a6, a7, some (.int x)] (.int x :: st) w Q := Wp.loc e150_147 rfl rfl rfl
theorem e150_149 : decode (j_co 150) 149 = .ok (.iconst 4, 1) := by decide +kernel
set_option maxRecDepth 20000 in
theorem w150_149 {d : Nat} {st : List Value} {Q : Option Value × jW → Prop} {ls : jL} {w : jW} : Wp d 150 149 ls (st) w Q = Wp d 150 150 ls (.int (nI 4) :: st) w Q := Wp.alu e150_149 rfl rfl
theorem e150_150 : decode (j_co 150) 150 = .ok (.iadd, 1) := by decide +kernel
set_option maxRecDepth 20000 in
theorem w150_150 {d : Nat} {st : List Value} {Q : Option Value × jW → Prop} {ls : jL} {w : jW} {a b : Int32} : Wp d 150 150 ls (.int b :: .int a :: st) w Q = Wp d 150 151 ls (.int (a + b) :: st) w Q := Wp.alu e150_150 rfl rfl
theorem e150_151 : decode (j_co 150) 151 = .ok (.iaload, 1) := by decide +kernel
set_option maxRecDepth 20000 in
theorem w150_151 {d : Nat} {st : List Value} {Q : Option Value × jW → Prop} {ls : jL} {xs : List Value} {I : fI} {L : fL} {o : Nat} {i : Int32} (ht : f_tg o = 100) (hi : ¬ (i < 0 ∨ f_ln o ≤ i.toNatClampNeg)) : Wp d 150 151 ls (.int i :: .ref o :: st) (f_W xs I L) Q = Wp d 150 152 ls (.int (I o i.toNatClampNeg) :: st) (f_W xs I L) Q := Wp.iald e150_151 ht hi
theorem e150_152 : decode (j_co 150) 152 = .ok (.bipush 20, 2) := by decide +kernel
set_option maxRecDepth 20000 in
theorem w150_152 {d : Nat} {st : List Value} {Q : Option Value × jW → Prop} {ls : jL} {w : jW} : Wp d 150 152 ls (st) w Q = Wp d 150 154 ls (.int (nI 20) :: st) w Q := Wp.alu e150_152 rfl rfl
theorem e150_154 : decode (j_co 150) 154 = .ok (.iadd, 1) := by decide +kernel
set_option maxRecDepth 20000 in
theorem w150_154 {d : Nat} {st : List Value} {Q : Option Value × jW → Prop} {ls : jL} {w : jW} {a b : Int32} : Wp d 150 154 ls (.int b :: .int a :: st) w Q = Wp d 150 155 ls (.int (a + b) :: st) w Q := Wp.alu e150_154 rfl rfl
theorem e150_155 : decode (j_co 150) 155 = .ok (.lshl, 1) := by decide +kernel
set_option maxRecDepth 20000 in
theorem w150_155 {d : Nat} {st : List Value} {Q : Option Value × jW → Prop} {ls : jL} {w : jW} {a : Int64} {b : Int32} : Wp d 150 155 ls (.int b :: .long a :: st) w Q = Wp d 150 156 ls (.long (a <<< (b.toInt64 &&& 63)) :: st) w Q := Wp.alu e150_155 rfl rfl
theorem e150_156 : decode (j_co 150) 156 = .ok (.lsub, 1) := by decide +kernel
set_option maxRecDepth 20000 in
theorem w150_156 {d : Nat} {st : List Value} {Q : Option Value × jW → Prop} {ls : jL} {w : jW} {a b : Int64} : Wp d 150 156 ls (.long b :: .long a :: st) w Q = Wp d 150 157 ls (.long (a - b) :: st) w Q := Wp.alu e150_156 rfl rfl
theorem e150_157 : decode (j_co 150) 157 = .ok (.lor, 1) := by decide +kernel
set_option maxRecDepth 20000 in
theorem w150_157 {d : Nat} {st : List Value} {Q : Option Value × jW → Prop} {ls : jL} {w : jW} {a b : Int64} : Wp d 150 157 ls (.long b :: .long a :: st) w Q = Wp d 150 158 ls (.long (a ||| b) :: st) w Q := Wp.alu e150_157 rfl rfl
theorem e150_158 : decode (j_co 150) 158 = .ok (.lstore 5, 2) := by decide +kernel
set_option maxRecDepth 20000 in
theorem w150_158 {d : Nat} {st : List Value} {Q : Option Value × jW → Prop} {w : jW} {a0 a1 a2 a3 a4 a5 a6 a7 a8 : Option Value} {x : Int64} (h : j_cp a4) : Wp d 150 158 [a0, a1, a2, a3, a4, a5, a6, a7, a8] (.long x :: st) w Q = Wp d 150 160 [a0, a1, a2, a3, a4, some (.long x), none, a7, a8] (st) w Q := Wp.loc e150_158 rfl rfl (v_stL (ls := [a0, a1, a2, a3, a4, a5, a6, a7, a8]) (k := 5) (show 6 < 9 by decide) h)
theorem e150_160 : decode (j_co 150) 160 = .ok (.iinc 7 1, 3) := by decide +kernel
set_option maxRecDepth 20000 in
theorem w150_160 {d : Nat} {st : List Value} {Q : Option Value × jW → Prop} {w : jW} {a0 a1 a2 a3 a4 a5 a6 a8 : Option Value} {x : Int32} (h : j_cp a6) : Wp d 150 160 [a0, a1, a2, a3, a4, a5, a6, some (.int x), a8] (st) w Q = Wp d 150 163 [a0, a1, a2, a3, a4, a5, a6, some (.int (x + nI 1)), a8] (st) w Q := Wp.loc e150_160 rfl rfl (v_inc (ls := [a0, a1, a2, a3, a4, a5, a6, some (.int x), a8]) (k := 7) (n := 1) rfl (show 7 < 9 by decide) h)
theorem e150_163 : decode (j_co 150) 163 = .ok (.goto (-121), 3) := by decide +kernel
set_option maxRecDepth 20000 in
theorem w150_163 {d : Nat} {st : List Value} {Q : Option Value × jW → Prop} {ls : jL} {w : jW} : Wp d 150 163 ls (st) w Q = Wp d 150 42 ls (st) w Q := Wp.br e150_163 (Or.inl rfl) rfl rfl rfl rfl
theorem e150_166 : decode (j_co 150) 166 = .ok (.iconst 0, 1) := by decide +kernel
set_option maxRecDepth 20000 in
theorem w150_166 {d : Nat} {st : List Value} {Q : Option Value × jW → Prop} {ls : jL} {w : jW} : Wp d 150 166 ls (st) w Q = Wp d 150 167 ls (.int (nI 0) :: st) w Q := Wp.alu e150_166 rfl rfl
theorem e150_167 : decode (j_co 150) 167 = .ok (.istore 7, 2) := by decide +kernel
set_option maxRecDepth 20000 in
theorem w150_167 {d : Nat} {st : List Value} {Q : Option Value × jW → Prop} {w : jW} {a0 a1 a2 a3 a4 a5 a6 a7 a8 : Option Value} {x : Int32} (h : j_cp a6) : Wp d 150 167 [a0, a1, a2, a3, a4, a5, a6, a7, a8] (.int x :: st) w Q = Wp d 150 169 [a0, a1, a2, a3, a4, a5, a6, some (.int x), a8] (st) w Q := Wp.loc e150_167 rfl rfl (v_stI (ls := [a0, a1, a2, a3, a4, a5, a6, a7, a8]) (k := 7) (show 7 < 9 by decide) h)
theorem e150_169 : decode (j_co 150) 169 = .ok (.iload 7, 2) := by decide +kernel
set_option maxRecDepth 20000 in
theorem w150_169 {d : Nat} {st : List Value} {Q : Option Value × jW → Prop} {w : jW} {a0 a1 a2 a3 a4 a5 a6 a8 : Option Value} {x : Int32} : Wp d 150 169 [a0, a1, a2, a3, a4, a5, a6, some (.int x), a8] (st) w Q = Wp d 150 171 [a0, a1, a2, a3, a4, a5, a6, some (.int x), a8] (.int x :: st) w Q := Wp.loc e150_169 rfl rfl rfl
theorem e150_171 : decode (j_co 150) 171 = .ok (.bipush 40, 2) := by decide +kernel
set_option maxRecDepth 20000 in
theorem w150_171 {d : Nat} {st : List Value} {Q : Option Value × jW → Prop} {ls : jL} {w : jW} : Wp d 150 171 ls (st) w Q = Wp d 150 173 ls (.int (nI 40) :: st) w Q := Wp.alu e150_171 rfl rfl
theorem e150_173 : decode (j_co 150) 173 = .ok (.if_icmp .gt 20, 3) := by decide +kernel
set_option maxRecDepth 20000 in
theorem w150_173 {d : Nat} {st : List Value} {Q : Option Value × jW → Prop} {ls : jL} {w : jW} {a b : Int32} : Wp d 150 173 ls (.int b :: .int a :: st) w Q = ((b < a → Wp d 150 193 ls st w Q) ∧ (¬ b < a → Wp d 150 176 ls st w Q)) := Wp.if2 (c := b < a) (off := 20) e150_173 rfl rfl rfl rfl rfl
theorem e150_176 : decode (j_co 150) 176 = .ok (.iload_n 2, 1) := by decide +kernel
set_option maxRecDepth 20000 in
theorem w150_176 {d : Nat} {st : List Value} {Q : Option Value × jW → Prop} {w : jW} {a0 a1 a3 a4 a5 a6 a7 a8 : Option Value} {x : Int32} : Wp d 150 176 [a0, a1, some (.int x), a3, a4, a5, a6, a7, a8] (st) w Q = Wp d 150 177 [a0, a1, some (.int x), a3, a4, a5, a6, a7, a8] (.int x :: st) w Q := Wp.loc e150_176 rfl rfl rfl
theorem e150_177 : decode (j_co 150) 177 = .ok (.lload 5, 2) := by decide +kernel
set_option maxRecDepth 20000 in
theorem w150_177 {d : Nat} {st : List Value} {Q : Option Value × jW → Prop} {w : jW} {a0 a1 a2 a3 a4 a6 a7 a8 : Option Value} {x : Int64} : Wp d 150 177 [a0, a1, a2, a3, a4, some (.long x), a6, a7, a8] (st) w Q = Wp d 150 179 [a0, a1, a2, a3, a4, some (.long x), a6, a7, a8] (.long x :: st) w Q := Wp.loc e150_177 rfl rfl rfl
theorem e150_179 : decode (j_co 150) 179 = .ok (.iload 7, 2) := by decide +kernel
set_option maxRecDepth 20000 in
theorem w150_179 {d : Nat} {st : List Value} {Q : Option Value × jW → Prop} {w : jW} {a0 a1 a2 a3 a4 a5 a6 a8 : Option Value} {x : Int32} : Wp d 150 179 [a0, a1, a2, a3, a4, a5, a6, some (.int x), a8] (st) w Q = Wp d 150 181 [a0, a1, a2, a3, a4, a5, a6, some (.int x), a8] (.int x :: st) w Q := Wp.loc e150_179 rfl rfl rfl
theorem e150_181 : decode (j_co 150) 181 = .ok (.lshr, 1) := by decide +kernel
set_option maxRecDepth 20000 in
theorem w150_181 {d : Nat} {st : List Value} {Q : Option Value × jW → Prop} {ls : jL} {w : jW} {a : Int64} {b : Int32} : Wp d 150 181 ls (.int b :: .long a :: st) w Q = Wp d 150 182 ls (.long (a >>> (b.toInt64 &&& 63)) :: st) w Q := Wp.alu e150_181 rfl rfl
theorem e150_182 : decode (j_co 150) 182 = .ok (.l2i, 1) := by decide +kernel
set_option maxRecDepth 20000 in
theorem w150_182 {d : Nat} {st : List Value} {Q : Option Value × jW → Prop} {ls : jL} {w : jW} {a : Int64} : Wp d 150 182 ls (.long a :: st) w Q = Wp d 150 183 ls (.int a.toInt32 :: st) w Q := Wp.alu e150_182 rfl rfl
theorem e150_183 : decode (j_co 150) 183 = .ok (.iconst 1, 1) := by decide +kernel
set_option maxRecDepth 20000 in
theorem w150_183 {d : Nat} {st : List Value} {Q : Option Value × jW → Prop} {ls : jL} {w : jW} : Wp d 150 183 ls (st) w Q = Wp d 150 184 ls (.int (nI 1) :: st) w Q := Wp.alu e150_183 rfl rfl
theorem e150_184 : decode (j_co 150) 184 = .ok (.iand, 1) := by decide +kernel
set_option maxRecDepth 20000 in
theorem w150_184 {d : Nat} {st : List Value} {Q : Option Value × jW → Prop} {ls : jL} {w : jW} {a b : Int32} : Wp d 150 184 ls (.int b :: .int a :: st) w Q = Wp d 150 185 ls (.int (a &&& b) :: st) w Q := Wp.alu e150_184 rfl rfl
theorem e150_185 : decode (j_co 150) 185 = .ok (.iadd, 1) := by decide +kernel
set_option maxRecDepth 20000 in
theorem w150_185 {d : Nat} {st : List Value} {Q : Option Value × jW → Prop} {ls : jL} {w : jW} {a b : Int32} : Wp d 150 185 ls (.int b :: .int a :: st) w Q = Wp d 150 186 ls (.int (a + b) :: st) w Q := Wp.alu e150_185 rfl rfl
theorem e150_186 : decode (j_co 150) 186 = .ok (.istore_n 2, 1) := by decide +kernel
set_option maxRecDepth 20000 in
theorem w150_186 {d : Nat} {st : List Value} {Q : Option Value × jW → Prop} {w : jW} {a0 a1 a2 a3 a4 a5 a6 a7 a8 : Option Value} {x : Int32} (h : j_cp a1) : Wp d 150 186 [a0, a1, a2, a3, a4, a5, a6, a7, a8] (.int x :: st) w Q = Wp d 150 187 [a0, a1, some (.int x), a3, a4, a5, a6, a7, a8] (st) w Q := Wp.loc e150_186 rfl rfl (v_stI (ls := [a0, a1, a2, a3, a4, a5, a6, a7, a8]) (k := 2) (show 2 < 9 by decide) h)
theorem e150_187 : decode (j_co 150) 187 = .ok (.iinc 7 1, 3) := by decide +kernel
set_option maxRecDepth 20000 in
theorem w150_187 {d : Nat} {st : List Value} {Q : Option Value × jW → Prop} {w : jW} {a0 a1 a2 a3 a4 a5 a6 a8 : Option Value} {x : Int32} (h : j_cp a6) : Wp d 150 187 [a0, a1, a2, a3, a4, a5, a6, some (.int x), a8] (st) w Q = Wp d 150 190 [a0, a1, a2, a3, a4, a5, a6, some (.int (x + nI 1)), a8] (st) w Q := Wp.loc e150_187 rfl rfl (v_inc (ls := [a0, a1, a2, a3, a4, a5, a6, some (.int x), a8]) (k := 7) (n := 1) rfl (show 7 < 9 by decide) h)
theorem e150_190 : decode (j_co 150) 190 = .ok (.goto (-21), 3) := by decide +kernel
set_option maxRecDepth 20000 in
theorem w150_190 {d : Nat} {st : List Value} {Q : Option Value × jW → Prop} {ls : jL} {w : jW} : Wp d 150 190 ls (st) w Q = Wp d 150 169 ls (st) w Q := Wp.br e150_190 (Or.inl rfl) rfl rfl rfl rfl
theorem e150_193 : decode (j_co 150) 193 = .ok (.iinc 4 1, 3) := by decide +kernel
set_option maxRecDepth 20000 in
theorem w150_193 {d : Nat} {st : List Value} {Q : Option Value × jW → Prop} {w : jW} {a0 a1 a2 a3 a5 a6 a7 a8 : Option Value} {x : Int32} (h : j_cp a3) : Wp d 150 193 [a0, a1, a2, a3, some (.int x), a5, a6, a7, a8] (st) w Q = Wp d 150 196 [a0, a1, a2, a3, some (.int (x + nI 1)), a5, a6, a7, a8] (st) w Q := Wp.loc e150_193 rfl rfl (v_inc (ls := [a0, a1, a2, a3, some (.int x), a5, a6, a7, a8]) (k := 4) (n := 1) rfl (show 4 < 9 by decide) h)
theorem e150_196 : decode (j_co 150) 196 = .ok (.goto (-167), 3) := by decide +kernel
set_option maxRecDepth 20000 in
theorem w150_196 {d : Nat} {st : List Value} {Q : Option Value × jW → Prop} {ls : jL} {w : jW} : Wp d 150 196 ls (st) w Q = Wp d 150 29 ls (st) w Q := Wp.br e150_196 (Or.inl rfl) rfl rfl rfl rfl
theorem e150_199 : decode (j_co 150) 199 = .ok (.iinc 3 1, 3) := by decide +kernel
set_option maxRecDepth 20000 in
theorem w150_199 {d : Nat} {st : List Value} {Q : Option Value × jW → Prop} {w : jW} {a0 a1 a2 a4 a5 a6 a7 a8 : Option Value} {x : Int32} (h : j_cp a2) : Wp d 150 199 [a0, a1, a2, some (.int x), a4, a5, a6, a7, a8] (st) w Q = Wp d 150 202 [a0, a1, a2, some (.int (x + nI 1)), a4, a5, a6, a7, a8] (st) w Q := Wp.loc e150_199 rfl rfl (v_inc (ls := [a0, a1, a2, some (.int x), a4, a5, a6, a7, a8]) (k := 3) (n := 1) rfl (show 3 < 9 by decide) h)
theorem e150_202 : decode (j_co 150) 202 = .ok (.goto (-183), 3) := by decide +kernel
set_option maxRecDepth 20000 in
theorem w150_202 {d : Nat} {st : List Value} {Q : Option Value × jW → Prop} {ls : jL} {w : jW} : Wp d 150 202 ls (st) w Q = Wp d 150 19 ls (st) w Q := Wp.br e150_202 (Or.inl rfl) rfl rfl rfl rfl
theorem e150_205 : decode (j_co 150) 205 = .ok (.iload_n 2, 1) := by decide +kernel
set_option maxRecDepth 20000 in
theorem w150_205 {d : Nat} {st : List Value} {Q : Option Value × jW → Prop} {w : jW} {a0 a1 a3 a4 a5 a6 a7 a8 : Option Value} {x : Int32} : Wp d 150 205 [a0, a1, some (.int x), a3, a4, a5, a6, a7, a8] (st) w Q = Wp d 150 206 [a0, a1, some (.int x), a3, a4, a5, a6, a7, a8] (.int x :: st) w Q := Wp.loc e150_205 rfl rfl rfl
theorem e150_206 : decode (j_co 150) 206 = .ok (.ireturn, 1) := by decide +kernel
set_option maxRecDepth 20000 in
theorem w150_206 {d : Nat} {Q : Option Value × jW → Prop} {ls : jL} {w : jW} {x : Int32} : Wp d 150 206 ls [.int x] w Q = Q (some (.int x), w) := Wp.ret e150_206 rfl
/-! M.shown -/
theorem e151_0 : decode (j_co 151) 0 = .ok (.aload_n 0, 1) := by decide +kernel
set_option maxRecDepth 20000 in
theorem w151_0 {d : Nat} {st : List Value} {Q : Option Value × jW → Prop} {w : jW} {x : Nat} : Wp d 151 0 [some (.ref x)] (st) w Q = Wp d 151 1 [some (.ref x)] (.ref x :: st) w Q := Wp.loc e151_0 rfl rfl rfl
theorem e151_1 : decode (j_co 151) 1 = .ok (.invokevirtual 214, 3) := by decide +kernel
set_option maxRecDepth 20000 in
theorem w151_1 {d : Nat} {st : List Value} {Q : Option Value × jW → Prop} {ls : jL} {xs : List Value} {I : fI} {L : fL} {r : Nat} (hs : j_sumc st ≤ 8) (ht : f_tg r = 11) : Wp (d + 1) 151 1 ls (.ref r :: st) (f_W xs I L) Q = Wp d 152 0 [some (.ref r), none, none, none] [] (f_W xs I L) (fun r1 => Wp (d + 1) 151 4 ls (r1.1.toList ++ st) r1.2 Q) := Wp.cv (y' := 152) (as := []) e151_1 rfl (by decide) rfl (show 1 ≤ 4 by decide) (by decide) hs ht
theorem e151_4 : decode (j_co 151) 4 = .ok (.ifCond .eq 10, 3) := by decide +kernel
set_option maxRecDepth 20000 in
theorem w151_4 {d : Nat} {st : List Value} {Q : Option Value × jW → Prop} {ls : jL} {w : jW} {a : Int32} : Wp d 151 4 ls (.int a :: st) w Q = ((a = nI 0 → Wp d 151 14 ls st w Q) ∧ (¬ a = nI 0 → Wp d 151 7 ls st w Q)) := Wp.if2 (c := a = nI 0) (off := 10) e151_4 rfl rfl rfl rfl rfl
theorem e151_7 : decode (j_co 151) 7 = .ok (.aload_n 0, 1) := by decide +kernel
set_option maxRecDepth 20000 in
theorem w151_7 {d : Nat} {st : List Value} {Q : Option Value × jW → Prop} {w : jW} {x : Nat} : Wp d 151 7 [some (.ref x)] (st) w Q = Wp d 151 8 [some (.ref x)] (.ref x :: st) w Q := Wp.loc e151_7 rfl rfl rfl
theorem e151_8 : decode (j_co 151) 8 = .ok (.getfield 208, 3) := by decide +kernel
set_option maxRecDepth 20000 in
theorem w151_8 {d : Nat} {st : List Value} {Q : Option Value × jW → Prop} {ls : jL} {xs : List Value} {I : fI} {L : fL} {o : Nat} (ht : f_tg o = 11) : Wp d 151 8 ls (.ref o :: st) (f_W xs I L) Q = Wp d 151 11 ls (.int (I o 27) :: st) (f_W xs I L) Q := Wp.getI (ci := 11) (k := 27) e151_8 rfl (by decide) (by decide) (by decide) ht
theorem e151_11 : decode (j_co 151) 11 = .ok (.goto 5, 3) := by decide +kernel
set_option maxRecDepth 20000 in
theorem w151_11 {d : Nat} {st : List Value} {Q : Option Value × jW → Prop} {ls : jL} {w : jW} : Wp d 151 11 ls (st) w Q = Wp d 151 16 ls (st) w Q := Wp.br e151_11 (Or.inl rfl) rfl rfl rfl rfl
theorem e151_14 : decode (j_co 151) 14 = .ok (.bipush (-2), 2) := by decide +kernel
set_option maxRecDepth 20000 in
theorem w151_14 {d : Nat} {st : List Value} {Q : Option Value × jW → Prop} {ls : jL} {w : jW} : Wp d 151 14 ls (st) w Q = Wp d 151 16 ls (.int (-2) :: st) w Q := Wp.alu e151_14 rfl rfl
theorem e151_16 : decode (j_co 151) 16 = .ok (.ireturn, 1) := by decide +kernel
set_option maxRecDepth 20000 in
theorem w151_16 {d : Nat} {Q : Option Value × jW → Prop} {ls : jL} {w : jW} {x : Int32} : Wp d 151 16 ls [.int x] w Q = Q (some (.int x), w) := Wp.ret e151_16 rfl
/-! M.layShown -/
theorem e152_0 : decode (j_co 152) 0 = .ok (.aload_n 0, 1) := by decide +kernel
set_option maxRecDepth 20000 in
theorem w152_0 {d : Nat} {st : List Value} {Q : Option Value × jW → Prop} {w : jW} {a1 a2 a3 : Option Value} {x : Nat} : Wp d 152 0 [some (.ref x), a1, a2, a3] (st) w Q = Wp d 152 1 [some (.ref x), a1, a2, a3] (.ref x :: st) w Q := Wp.loc e152_0 rfl rfl rfl
theorem e152_1 : decode (j_co 152) 1 = .ok (.invokevirtual 191, 3) := by decide +kernel
set_option maxRecDepth 20000 in
theorem w152_1 {d : Nat} {st : List Value} {Q : Option Value × jW → Prop} {ls : jL} {xs : List Value} {I : fI} {L : fL} {r : Nat} (hs : j_sumc st ≤ 8) (ht : f_tg r = 11) : Wp (d + 1) 152 1 ls (.ref r :: st) (f_W xs I L) Q = Wp d 128 0 [some (.ref r), none] [] (f_W xs I L) (fun r1 => Wp (d + 1) 152 4 ls (r1.1.toList ++ st) r1.2 Q) := Wp.cv (y' := 128) (as := []) e152_1 rfl (by decide) rfl (show 1 ≤ 2 by decide) (by decide) hs ht
theorem e152_4 : decode (j_co 152) 4 = .ok (.aload_n 0, 1) := by decide +kernel
set_option maxRecDepth 20000 in
theorem w152_4 {d : Nat} {st : List Value} {Q : Option Value × jW → Prop} {w : jW} {a1 a2 a3 : Option Value} {x : Nat} : Wp d 152 4 [some (.ref x), a1, a2, a3] (st) w Q = Wp d 152 5 [some (.ref x), a1, a2, a3] (.ref x :: st) w Q := Wp.loc e152_4 rfl rfl rfl
theorem e152_5 : decode (j_co 152) 5 = .ok (.invokevirtual 194, 3) := by decide +kernel
set_option maxRecDepth 20000 in
theorem w152_5 {d : Nat} {st : List Value} {Q : Option Value × jW → Prop} {ls : jL} {xs : List Value} {I : fI} {L : fL} {r : Nat} (hs : j_sumc st ≤ 8) (ht : f_tg r = 11) : Wp (d + 1) 152 5 ls (.ref r :: st) (f_W xs I L) Q = Wp d 141 0 [some (.ref r), none, none] [] (f_W xs I L) (fun r1 => Wp (d + 1) 152 8 ls (r1.1.toList ++ st) r1.2 Q) := Wp.cv (y' := 141) (as := []) e152_5 rfl (by decide) rfl (show 1 ≤ 3 by decide) (by decide) hs ht
theorem e152_8 : decode (j_co 152) 8 = .ok (.ifCond .eq 5, 3) := by decide +kernel
set_option maxRecDepth 20000 in
theorem w152_8 {d : Nat} {st : List Value} {Q : Option Value × jW → Prop} {ls : jL} {w : jW} {a : Int32} : Wp d 152 8 ls (.int a :: st) w Q = ((a = nI 0 → Wp d 152 13 ls st w Q) ∧ (¬ a = nI 0 → Wp d 152 11 ls st w Q)) := Wp.if2 (c := a = nI 0) (off := 5) e152_8 rfl rfl rfl rfl rfl
theorem e152_11 : decode (j_co 152) 11 = .ok (.iconst 0, 1) := by decide +kernel
set_option maxRecDepth 20000 in
theorem w152_11 {d : Nat} {st : List Value} {Q : Option Value × jW → Prop} {ls : jL} {w : jW} : Wp d 152 11 ls (st) w Q = Wp d 152 12 ls (.int (nI 0) :: st) w Q := Wp.alu e152_11 rfl rfl
theorem e152_12 : decode (j_co 152) 12 = .ok (.ireturn, 1) := by decide +kernel
set_option maxRecDepth 20000 in
theorem w152_12 {d : Nat} {Q : Option Value × jW → Prop} {ls : jL} {w : jW} {x : Int32} (hx : x = 0 ∨ x = 1) : Wp d 152 12 ls [.int x] w Q = Q (some (.int x), w) := Wp.ret e152_12 (by rcases hx with rfl | rfl <;> rfl)
theorem e152_13 : decode (j_co 152) 13 = .ok (.aload_n 0, 1) := by decide +kernel
set_option maxRecDepth 20000 in
theorem w152_13 {d : Nat} {st : List Value} {Q : Option Value × jW → Prop} {w : jW} {a1 a2 a3 : Option Value} {x : Nat} : Wp d 152 13 [some (.ref x), a1, a2, a3] (st) w Q = Wp d 152 14 [some (.ref x), a1, a2, a3] (.ref x :: st) w Q := Wp.loc e152_13 rfl rfl rfl
theorem e152_14 : decode (j_co 152) 14 = .ok (.invokevirtual 188, 3) := by decide +kernel
set_option maxRecDepth 20000 in
theorem w152_14 {d : Nat} {st : List Value} {Q : Option Value × jW → Prop} {ls : jL} {xs : List Value} {I : fI} {L : fL} {r : Nat} (hs : j_sumc st ≤ 8) (ht : f_tg r = 11) : Wp (d + 1) 152 14 ls (.ref r :: st) (f_W xs I L) Q = Wp d 143 0 [some (.ref r), none] [] (f_W xs I L) (fun r1 => Wp (d + 1) 152 17 ls (r1.1.toList ++ st) r1.2 Q) := Wp.cv (y' := 143) (as := []) e152_14 rfl (by decide) rfl (show 1 ≤ 2 by decide) (by decide) hs ht
theorem e152_17 : decode (j_co 152) 17 = .ok (.istore_n 1, 1) := by decide +kernel
set_option maxRecDepth 20000 in
theorem w152_17 {d : Nat} {st : List Value} {Q : Option Value × jW → Prop} {w : jW} {a0 a1 a2 a3 : Option Value} {x : Int32} (h : j_cp a0) : Wp d 152 17 [a0, a1, a2, a3] (.int x :: st) w Q = Wp d 152 18 [a0, some (.int x), a2, a3] (st) w Q := Wp.loc e152_17 rfl rfl (v_stI (ls := [a0, a1, a2, a3]) (k := 1) (show 1 < 4 by decide) h)
theorem e152_18 : decode (j_co 152) 18 = .ok (.aload_n 0, 1) := by decide +kernel
set_option maxRecDepth 20000 in
theorem w152_18 {d : Nat} {st : List Value} {Q : Option Value × jW → Prop} {w : jW} {a1 a2 a3 : Option Value} {x : Nat} : Wp d 152 18 [some (.ref x), a1, a2, a3] (st) w Q = Wp d 152 19 [some (.ref x), a1, a2, a3] (.ref x :: st) w Q := Wp.loc e152_18 rfl rfl rfl
theorem e152_19 : decode (j_co 152) 19 = .ok (.iload_n 1, 1) := by decide +kernel
set_option maxRecDepth 20000 in
theorem w152_19 {d : Nat} {st : List Value} {Q : Option Value × jW → Prop} {w : jW} {a0 a2 a3 : Option Value} {x : Int32} : Wp d 152 19 [a0, some (.int x), a2, a3] (st) w Q = Wp d 152 20 [a0, some (.int x), a2, a3] (.int x :: st) w Q := Wp.loc e152_19 rfl rfl rfl
theorem e152_20 : decode (j_co 152) 20 = .ok (.invokevirtual 185, 3) := by decide +kernel
set_option maxRecDepth 20000 in
theorem w152_20 {d : Nat} {st : List Value} {Q : Option Value × jW → Prop} {ls : jL} {xs : List Value} {I : fI} {L : fL} {r : Nat} {x0 : Int32} (hs : j_sumc st ≤ 8) (ht : f_tg r = 11) : Wp (d + 1) 152 20 ls (.int x0 :: .ref r :: st) (f_W xs I L) Q = Wp d 142 0 [some (.ref r), some (.int x0)] [] (f_W xs I L) (fun r1 => Wp (d + 1) 152 23 ls (r1.1.toList ++ st) r1.2 Q) := Wp.cv (y' := 142) (as := [.int x0]) e152_20 rfl (by decide) rfl (show 2 ≤ 2 by decide) (by decide) hs ht
theorem e152_23 : decode (j_co 152) 23 = .ok (.istore_n 2, 1) := by decide +kernel
set_option maxRecDepth 20000 in
theorem w152_23 {d : Nat} {st : List Value} {Q : Option Value × jW → Prop} {w : jW} {a0 a1 a2 a3 : Option Value} {x : Int32} (h : j_cp a1) : Wp d 152 23 [a0, a1, a2, a3] (.int x :: st) w Q = Wp d 152 24 [a0, a1, some (.int x), a3] (st) w Q := Wp.loc e152_23 rfl rfl (v_stI (ls := [a0, a1, a2, a3]) (k := 2) (show 2 < 4 by decide) h)
theorem e152_24 : decode (j_co 152) 24 = .ok (.aload_n 0, 1) := by decide +kernel
set_option maxRecDepth 20000 in
theorem w152_24 {d : Nat} {st : List Value} {Q : Option Value × jW → Prop} {w : jW} {a1 a2 a3 : Option Value} {x : Nat} : Wp d 152 24 [some (.ref x), a1, a2, a3] (st) w Q = Wp d 152 25 [some (.ref x), a1, a2, a3] (.ref x :: st) w Q := Wp.loc e152_24 rfl rfl rfl
theorem e152_25 : decode (j_co 152) 25 = .ok (.iconst 0, 1) := by decide +kernel
set_option maxRecDepth 20000 in
theorem w152_25 {d : Nat} {st : List Value} {Q : Option Value × jW → Prop} {ls : jL} {w : jW} : Wp d 152 25 ls (st) w Q = Wp d 152 26 ls (.int (nI 0) :: st) w Q := Wp.alu e152_25 rfl rfl
theorem e152_26 : decode (j_co 152) 26 = .ok (.putfield 208, 3) := by decide +kernel
set_option maxRecDepth 20000 in
theorem w152_26 {d : Nat} {st : List Value} {Q : Option Value × jW → Prop} {ls : jL} {xs : List Value} {I : fI} {L : fL} {o : Nat} {x : Int32} (ht : f_tg o = 11) : Wp d 152 26 ls (.int x :: .ref o :: st) (f_W xs I L) Q = Wp d 152 29 ls (st) (f_W xs (f_up I o 27 x) L) Q := Wp.putI (ci := 11) (k := 27) e152_26 rfl (by decide) (by decide) rfl (by decide) ht
theorem e152_29 : decode (j_co 152) 29 = .ok (.iload_n 1, 1) := by decide +kernel
set_option maxRecDepth 20000 in
theorem w152_29 {d : Nat} {st : List Value} {Q : Option Value × jW → Prop} {w : jW} {a0 a2 a3 : Option Value} {x : Int32} : Wp d 152 29 [a0, some (.int x), a2, a3] (st) w Q = Wp d 152 30 [a0, some (.int x), a2, a3] (.int x :: st) w Q := Wp.loc e152_29 rfl rfl rfl
theorem e152_30 : decode (j_co 152) 30 = .ok (.bipush (-4), 2) := by decide +kernel
set_option maxRecDepth 20000 in
theorem w152_30 {d : Nat} {st : List Value} {Q : Option Value × jW → Prop} {ls : jL} {w : jW} : Wp d 152 30 ls (st) w Q = Wp d 152 32 ls (.int (-4) :: st) w Q := Wp.alu e152_30 rfl rfl
theorem e152_32 : decode (j_co 152) 32 = .ok (.if_icmp .eq 118, 3) := by decide +kernel
set_option maxRecDepth 20000 in
theorem w152_32 {d : Nat} {st : List Value} {Q : Option Value × jW → Prop} {ls : jL} {w : jW} {a b : Int32} : Wp d 152 32 ls (.int b :: .int a :: st) w Q = ((a = b → Wp d 152 150 ls st w Q) ∧ (¬ a = b → Wp d 152 35 ls st w Q)) := Wp.if2 (c := a = b) (off := 118) e152_32 rfl rfl rfl rfl rfl
theorem e152_35 : decode (j_co 152) 35 = .ok (.aload_n 0, 1) := by decide +kernel
set_option maxRecDepth 20000 in
theorem w152_35 {d : Nat} {st : List Value} {Q : Option Value × jW → Prop} {w : jW} {a1 a2 a3 : Option Value} {x : Nat} : Wp d 152 35 [some (.ref x), a1, a2, a3] (st) w Q = Wp d 152 36 [some (.ref x), a1, a2, a3] (.ref x :: st) w Q := Wp.loc e152_35 rfl rfl rfl
theorem e152_36 : decode (j_co 152) 36 = .ok (.getfield 72, 3) := by decide +kernel
set_option maxRecDepth 20000 in
theorem w152_36 {d : Nat} {st : List Value} {Q : Option Value × jW → Prop} {ls : jL} {xs : List Value} {I : fI} {L : fL} {o : Nat} (ht : f_tg o = 11) : Wp d 152 36 ls (.ref o :: st) (f_W xs I L) Q = Wp d 152 39 ls (.ref (f_rf o 28) :: st) (f_W xs I L) Q := Wp.getR (ci := 11) (k := 28) e152_36 rfl (by decide) (by decide) rfl ht
theorem e152_39 : decode (j_co 152) 39 = .ok (.iconst 4, 1) := by decide +kernel
set_option maxRecDepth 20000 in
theorem w152_39 {d : Nat} {st : List Value} {Q : Option Value × jW → Prop} {ls : jL} {w : jW} : Wp d 152 39 ls (st) w Q = Wp d 152 40 ls (.int (nI 4) :: st) w Q := Wp.alu e152_39 rfl rfl
theorem e152_40 : decode (j_co 152) 40 = .ok (.aload_n 0, 1) := by decide +kernel
set_option maxRecDepth 20000 in
theorem w152_40 {d : Nat} {st : List Value} {Q : Option Value × jW → Prop} {w : jW} {a1 a2 a3 : Option Value} {x : Nat} : Wp d 152 40 [some (.ref x), a1, a2, a3] (st) w Q = Wp d 152 41 [some (.ref x), a1, a2, a3] (.ref x :: st) w Q := Wp.loc e152_40 rfl rfl rfl
theorem e152_41 : decode (j_co 152) 41 = .ok (.getfield 208, 3) := by decide +kernel
set_option maxRecDepth 20000 in
theorem w152_41 {d : Nat} {st : List Value} {Q : Option Value × jW → Prop} {ls : jL} {xs : List Value} {I : fI} {L : fL} {o : Nat} (ht : f_tg o = 11) : Wp d 152 41 ls (.ref o :: st) (f_W xs I L) Q = Wp d 152 44 ls (.int (I o 27) :: st) (f_W xs I L) Q := Wp.getI (ci := 11) (k := 27) e152_41 rfl (by decide) (by decide) (by decide) ht
theorem e152_44 : decode (j_co 152) 44 = .ok (.imul, 1) := by decide +kernel
set_option maxRecDepth 20000 in
theorem w152_44 {d : Nat} {st : List Value} {Q : Option Value × jW → Prop} {ls : jL} {w : jW} {a b : Int32} : Wp d 152 44 ls (.int b :: .int a :: st) w Q = Wp d 152 45 ls (.int (a * b) :: st) w Q := Wp.alu e152_44 rfl rfl
theorem e152_45 : decode (j_co 152) 45 = .ok (.aload_n 0, 1) := by decide +kernel
set_option maxRecDepth 20000 in
theorem w152_45 {d : Nat} {st : List Value} {Q : Option Value × jW → Prop} {w : jW} {a1 a2 a3 : Option Value} {x : Nat} : Wp d 152 45 [some (.ref x), a1, a2, a3] (st) w Q = Wp d 152 46 [some (.ref x), a1, a2, a3] (.ref x :: st) w Q := Wp.loc e152_45 rfl rfl rfl
theorem e152_46 : decode (j_co 152) 46 = .ok (.getfield 51, 3) := by decide +kernel
set_option maxRecDepth 20000 in
theorem w152_46 {d : Nat} {st : List Value} {Q : Option Value × jW → Prop} {ls : jL} {xs : List Value} {I : fI} {L : fL} {o : Nat} (ht : f_tg o = 11) : Wp d 152 46 ls (.ref o :: st) (f_W xs I L) Q = Wp d 152 49 ls (.ref (f_rf o 17) :: st) (f_W xs I L) Q := Wp.getR (ci := 11) (k := 17) e152_46 rfl (by decide) (by decide) rfl ht
theorem e152_49 : decode (j_co 152) 49 = .ok (.iload_n 1, 1) := by decide +kernel
set_option maxRecDepth 20000 in
theorem w152_49 {d : Nat} {st : List Value} {Q : Option Value × jW → Prop} {w : jW} {a0 a2 a3 : Option Value} {x : Int32} : Wp d 152 49 [a0, some (.int x), a2, a3] (st) w Q = Wp d 152 50 [a0, some (.int x), a2, a3] (.int x :: st) w Q := Wp.loc e152_49 rfl rfl rfl
theorem e152_50 : decode (j_co 152) 50 = .ok (.iaload, 1) := by decide +kernel
set_option maxRecDepth 20000 in
theorem w152_50 {d : Nat} {st : List Value} {Q : Option Value × jW → Prop} {ls : jL} {xs : List Value} {I : fI} {L : fL} {o : Nat} {i : Int32} (ht : f_tg o = 100) (hi : ¬ (i < 0 ∨ f_ln o ≤ i.toNatClampNeg)) : Wp d 152 50 ls (.int i :: .ref o :: st) (f_W xs I L) Q = Wp d 152 51 ls (.int (I o i.toNatClampNeg) :: st) (f_W xs I L) Q := Wp.iald e152_50 ht hi
theorem e152_51 : decode (j_co 152) 51 = .ok (.iastore, 1) := by decide +kernel
set_option maxRecDepth 20000 in
theorem w152_51 {d : Nat} {st : List Value} {Q : Option Value × jW → Prop} {ls : jL} {xs : List Value} {I : fI} {L : fL} {o : Nat} {i x : Int32} (ht : f_tg o = 100) (hi : ¬ (i < 0 ∨ f_ln o ≤ i.toNatClampNeg)) : Wp d 152 51 ls (.int x :: .int i :: .ref o :: st) (f_W xs I L) Q = Wp d 152 52 ls (st) (f_W xs (f_up I o i.toNatClampNeg x) L) Q := Wp.iast e152_51 ht hi
theorem e152_52 : decode (j_co 152) 52 = .ok (.iconst 0, 1) := by decide +kernel
set_option maxRecDepth 20000 in
theorem w152_52 {d : Nat} {st : List Value} {Q : Option Value × jW → Prop} {ls : jL} {w : jW} : Wp d 152 52 ls (st) w Q = Wp d 152 53 ls (.int (nI 0) :: st) w Q := Wp.alu e152_52 rfl rfl
theorem e152_53 : decode (j_co 152) 53 = .ok (.istore_n 3, 1) := by decide +kernel
set_option maxRecDepth 20000 in
theorem w152_53 {d : Nat} {st : List Value} {Q : Option Value × jW → Prop} {w : jW} {a0 a1 a2 a3 : Option Value} {x : Int32} (h : j_cp a2) : Wp d 152 53 [a0, a1, a2, a3] (.int x :: st) w Q = Wp d 152 54 [a0, a1, a2, some (.int x)] (st) w Q := Wp.loc e152_53 rfl rfl (v_stI (ls := [a0, a1, a2, a3]) (k := 3) (show 3 < 4 by decide) h)
theorem e152_54 : decode (j_co 152) 54 = .ok (.iload_n 3, 1) := by decide +kernel
set_option maxRecDepth 20000 in
theorem w152_54 {d : Nat} {st : List Value} {Q : Option Value × jW → Prop} {w : jW} {a0 a1 a2 : Option Value} {x : Int32} : Wp d 152 54 [a0, a1, a2, some (.int x)] (st) w Q = Wp d 152 55 [a0, a1, a2, some (.int x)] (.int x :: st) w Q := Wp.loc e152_54 rfl rfl rfl
theorem e152_55 : decode (j_co 152) 55 = .ok (.iconst 3, 1) := by decide +kernel
set_option maxRecDepth 20000 in
theorem w152_55 {d : Nat} {st : List Value} {Q : Option Value × jW → Prop} {ls : jL} {w : jW} : Wp d 152 55 ls (st) w Q = Wp d 152 56 ls (.int (nI 3) :: st) w Q := Wp.alu e152_55 rfl rfl
theorem e152_56 : decode (j_co 152) 56 = .ok (.if_icmp .ge 32, 3) := by decide +kernel
set_option maxRecDepth 20000 in
theorem w152_56 {d : Nat} {st : List Value} {Q : Option Value × jW → Prop} {ls : jL} {w : jW} {a b : Int32} : Wp d 152 56 ls (.int b :: .int a :: st) w Q = ((b ≤ a → Wp d 152 88 ls st w Q) ∧ (¬ b ≤ a → Wp d 152 59 ls st w Q)) := Wp.if2 (c := b ≤ a) (off := 32) e152_56 rfl rfl rfl rfl rfl
theorem e152_59 : decode (j_co 152) 59 = .ok (.aload_n 0, 1) := by decide +kernel
set_option maxRecDepth 20000 in
theorem w152_59 {d : Nat} {st : List Value} {Q : Option Value × jW → Prop} {w : jW} {a1 a2 a3 : Option Value} {x : Nat} : Wp d 152 59 [some (.ref x), a1, a2, a3] (st) w Q = Wp d 152 60 [some (.ref x), a1, a2, a3] (.ref x :: st) w Q := Wp.loc e152_59 rfl rfl rfl
theorem e152_60 : decode (j_co 152) 60 = .ok (.getfield 72, 3) := by decide +kernel
set_option maxRecDepth 20000 in
theorem w152_60 {d : Nat} {st : List Value} {Q : Option Value × jW → Prop} {ls : jL} {xs : List Value} {I : fI} {L : fL} {o : Nat} (ht : f_tg o = 11) : Wp d 152 60 ls (.ref o :: st) (f_W xs I L) Q = Wp d 152 63 ls (.ref (f_rf o 28) :: st) (f_W xs I L) Q := Wp.getR (ci := 11) (k := 28) e152_60 rfl (by decide) (by decide) rfl ht
theorem e152_63 : decode (j_co 152) 63 = .ok (.iconst 4, 1) := by decide +kernel
set_option maxRecDepth 20000 in
theorem w152_63 {d : Nat} {st : List Value} {Q : Option Value × jW → Prop} {ls : jL} {w : jW} : Wp d 152 63 ls (st) w Q = Wp d 152 64 ls (.int (nI 4) :: st) w Q := Wp.alu e152_63 rfl rfl
theorem e152_64 : decode (j_co 152) 64 = .ok (.aload_n 0, 1) := by decide +kernel
set_option maxRecDepth 20000 in
theorem w152_64 {d : Nat} {st : List Value} {Q : Option Value × jW → Prop} {w : jW} {a1 a2 a3 : Option Value} {x : Nat} : Wp d 152 64 [some (.ref x), a1, a2, a3] (st) w Q = Wp d 152 65 [some (.ref x), a1, a2, a3] (.ref x :: st) w Q := Wp.loc e152_64 rfl rfl rfl
theorem e152_65 : decode (j_co 152) 65 = .ok (.getfield 208, 3) := by decide +kernel
set_option maxRecDepth 20000 in
theorem w152_65 {d : Nat} {st : List Value} {Q : Option Value × jW → Prop} {ls : jL} {xs : List Value} {I : fI} {L : fL} {o : Nat} (ht : f_tg o = 11) : Wp d 152 65 ls (.ref o :: st) (f_W xs I L) Q = Wp d 152 68 ls (.int (I o 27) :: st) (f_W xs I L) Q := Wp.getI (ci := 11) (k := 27) e152_65 rfl (by decide) (by decide) (by decide) ht
theorem e152_68 : decode (j_co 152) 68 = .ok (.imul, 1) := by decide +kernel
set_option maxRecDepth 20000 in
theorem w152_68 {d : Nat} {st : List Value} {Q : Option Value × jW → Prop} {ls : jL} {w : jW} {a b : Int32} : Wp d 152 68 ls (.int b :: .int a :: st) w Q = Wp d 152 69 ls (.int (a * b) :: st) w Q := Wp.alu e152_68 rfl rfl
theorem e152_69 : decode (j_co 152) 69 = .ok (.iconst 1, 1) := by decide +kernel
set_option maxRecDepth 20000 in
theorem w152_69 {d : Nat} {st : List Value} {Q : Option Value × jW → Prop} {ls : jL} {w : jW} : Wp d 152 69 ls (st) w Q = Wp d 152 70 ls (.int (nI 1) :: st) w Q := Wp.alu e152_69 rfl rfl
theorem e152_70 : decode (j_co 152) 70 = .ok (.iadd, 1) := by decide +kernel
set_option maxRecDepth 20000 in
theorem w152_70 {d : Nat} {st : List Value} {Q : Option Value × jW → Prop} {ls : jL} {w : jW} {a b : Int32} : Wp d 152 70 ls (.int b :: .int a :: st) w Q = Wp d 152 71 ls (.int (a + b) :: st) w Q := Wp.alu e152_70 rfl rfl
theorem e152_71 : decode (j_co 152) 71 = .ok (.iload_n 3, 1) := by decide +kernel
set_option maxRecDepth 20000 in
theorem w152_71 {d : Nat} {st : List Value} {Q : Option Value × jW → Prop} {w : jW} {a0 a1 a2 : Option Value} {x : Int32} : Wp d 152 71 [a0, a1, a2, some (.int x)] (st) w Q = Wp d 152 72 [a0, a1, a2, some (.int x)] (.int x :: st) w Q := Wp.loc e152_71 rfl rfl rfl
theorem e152_72 : decode (j_co 152) 72 = .ok (.iadd, 1) := by decide +kernel
set_option maxRecDepth 20000 in
theorem w152_72 {d : Nat} {st : List Value} {Q : Option Value × jW → Prop} {ls : jL} {w : jW} {a b : Int32} : Wp d 152 72 ls (.int b :: .int a :: st) w Q = Wp d 152 73 ls (.int (a + b) :: st) w Q := Wp.alu e152_72 rfl rfl
theorem e152_73 : decode (j_co 152) 73 = .ok (.aload_n 0, 1) := by decide +kernel
set_option maxRecDepth 20000 in
theorem w152_73 {d : Nat} {st : List Value} {Q : Option Value × jW → Prop} {w : jW} {a1 a2 a3 : Option Value} {x : Nat} : Wp d 152 73 [some (.ref x), a1, a2, a3] (st) w Q = Wp d 152 74 [some (.ref x), a1, a2, a3] (.ref x :: st) w Q := Wp.loc e152_73 rfl rfl rfl
theorem e152_74 : decode (j_co 152) 74 = .ok (.getfield 48, 3) := by decide +kernel
set_option maxRecDepth 20000 in
theorem w152_74 {d : Nat} {st : List Value} {Q : Option Value × jW → Prop} {ls : jL} {xs : List Value} {I : fI} {L : fL} {o : Nat} (ht : f_tg o = 11) : Wp d 152 74 ls (.ref o :: st) (f_W xs I L) Q = Wp d 152 77 ls (.ref (f_rf o 15) :: st) (f_W xs I L) Q := Wp.getR (ci := 11) (k := 15) e152_74 rfl (by decide) (by decide) rfl ht
theorem e152_77 : decode (j_co 152) 77 = .ok (.iconst 2, 1) := by decide +kernel
set_option maxRecDepth 20000 in
theorem w152_77 {d : Nat} {st : List Value} {Q : Option Value × jW → Prop} {ls : jL} {w : jW} : Wp d 152 77 ls (st) w Q = Wp d 152 78 ls (.int (nI 2) :: st) w Q := Wp.alu e152_77 rfl rfl
theorem e152_78 : decode (j_co 152) 78 = .ok (.iload_n 3, 1) := by decide +kernel
set_option maxRecDepth 20000 in
theorem w152_78 {d : Nat} {st : List Value} {Q : Option Value × jW → Prop} {w : jW} {a0 a1 a2 : Option Value} {x : Int32} : Wp d 152 78 [a0, a1, a2, some (.int x)] (st) w Q = Wp d 152 79 [a0, a1, a2, some (.int x)] (.int x :: st) w Q := Wp.loc e152_78 rfl rfl rfl
theorem e152_79 : decode (j_co 152) 79 = .ok (.imul, 1) := by decide +kernel
set_option maxRecDepth 20000 in
theorem w152_79 {d : Nat} {st : List Value} {Q : Option Value × jW → Prop} {ls : jL} {w : jW} {a b : Int32} : Wp d 152 79 ls (.int b :: .int a :: st) w Q = Wp d 152 80 ls (.int (a * b) :: st) w Q := Wp.alu e152_79 rfl rfl
theorem e152_80 : decode (j_co 152) 80 = .ok (.iaload, 1) := by decide +kernel
set_option maxRecDepth 20000 in
theorem w152_80 {d : Nat} {st : List Value} {Q : Option Value × jW → Prop} {ls : jL} {xs : List Value} {I : fI} {L : fL} {o : Nat} {i : Int32} (ht : f_tg o = 100) (hi : ¬ (i < 0 ∨ f_ln o ≤ i.toNatClampNeg)) : Wp d 152 80 ls (.int i :: .ref o :: st) (f_W xs I L) Q = Wp d 152 81 ls (.int (I o i.toNatClampNeg) :: st) (f_W xs I L) Q := Wp.iald e152_80 ht hi
theorem e152_81 : decode (j_co 152) 81 = .ok (.iastore, 1) := by decide +kernel
set_option maxRecDepth 20000 in
theorem w152_81 {d : Nat} {st : List Value} {Q : Option Value × jW → Prop} {ls : jL} {xs : List Value} {I : fI} {L : fL} {o : Nat} {i x : Int32} (ht : f_tg o = 100) (hi : ¬ (i < 0 ∨ f_ln o ≤ i.toNatClampNeg)) : Wp d 152 81 ls (.int x :: .int i :: .ref o :: st) (f_W xs I L) Q = Wp d 152 82 ls (st) (f_W xs (f_up I o i.toNatClampNeg x) L) Q := Wp.iast e152_81 ht hi
theorem e152_82 : decode (j_co 152) 82 = .ok (.iinc 3 1, 3) := by decide +kernel
set_option maxRecDepth 20000 in
theorem w152_82 {d : Nat} {st : List Value} {Q : Option Value × jW → Prop} {w : jW} {a0 a1 a2 : Option Value} {x : Int32} (h : j_cp a2) : Wp d 152 82 [a0, a1, a2, some (.int x)] (st) w Q = Wp d 152 85 [a0, a1, a2, some (.int (x + nI 1))] (st) w Q := Wp.loc e152_82 rfl rfl (v_inc (ls := [a0, a1, a2, some (.int x)]) (k := 3) (n := 1) rfl (show 3 < 4 by decide) h)
theorem e152_85 : decode (j_co 152) 85 = .ok (.goto (-31), 3) := by decide +kernel
set_option maxRecDepth 20000 in
theorem w152_85 {d : Nat} {st : List Value} {Q : Option Value × jW → Prop} {ls : jL} {w : jW} : Wp d 152 85 ls (st) w Q = Wp d 152 54 ls (st) w Q := Wp.br e152_85 (Or.inl rfl) rfl rfl rfl rfl
theorem e152_88 : decode (j_co 152) 88 = .ok (.aload_n 0, 1) := by decide +kernel
set_option maxRecDepth 20000 in
theorem w152_88 {d : Nat} {st : List Value} {Q : Option Value × jW → Prop} {w : jW} {a1 a2 a3 : Option Value} {x : Nat} : Wp d 152 88 [some (.ref x), a1, a2, a3] (st) w Q = Wp d 152 89 [some (.ref x), a1, a2, a3] (.ref x :: st) w Q := Wp.loc e152_88 rfl rfl rfl
theorem e152_89 : decode (j_co 152) 89 = .ok (.getfield 75, 3) := by decide +kernel
set_option maxRecDepth 20000 in
theorem w152_89 {d : Nat} {st : List Value} {Q : Option Value × jW → Prop} {ls : jL} {xs : List Value} {I : fI} {L : fL} {o : Nat} (ht : f_tg o = 11) : Wp d 152 89 ls (.ref o :: st) (f_W xs I L) Q = Wp d 152 92 ls (.ref (f_rf o 29) :: st) (f_W xs I L) Q := Wp.getR (ci := 11) (k := 29) e152_89 rfl (by decide) (by decide) rfl ht
theorem e152_92 : decode (j_co 152) 92 = .ok (.aload_n 0, 1) := by decide +kernel
set_option maxRecDepth 20000 in
theorem w152_92 {d : Nat} {st : List Value} {Q : Option Value × jW → Prop} {w : jW} {a1 a2 a3 : Option Value} {x : Nat} : Wp d 152 92 [some (.ref x), a1, a2, a3] (st) w Q = Wp d 152 93 [some (.ref x), a1, a2, a3] (.ref x :: st) w Q := Wp.loc e152_92 rfl rfl rfl
theorem e152_93 : decode (j_co 152) 93 = .ok (.getfield 208, 3) := by decide +kernel
set_option maxRecDepth 20000 in
theorem w152_93 {d : Nat} {st : List Value} {Q : Option Value × jW → Prop} {ls : jL} {xs : List Value} {I : fI} {L : fL} {o : Nat} (ht : f_tg o = 11) : Wp d 152 93 ls (.ref o :: st) (f_W xs I L) Q = Wp d 152 96 ls (.int (I o 27) :: st) (f_W xs I L) Q := Wp.getI (ci := 11) (k := 27) e152_93 rfl (by decide) (by decide) (by decide) ht
theorem e152_96 : decode (j_co 152) 96 = .ok (.aload_n 0, 1) := by decide +kernel
set_option maxRecDepth 20000 in
theorem w152_96 {d : Nat} {st : List Value} {Q : Option Value × jW → Prop} {w : jW} {a1 a2 a3 : Option Value} {x : Nat} : Wp d 152 96 [some (.ref x), a1, a2, a3] (st) w Q = Wp d 152 97 [some (.ref x), a1, a2, a3] (.ref x :: st) w Q := Wp.loc e152_96 rfl rfl rfl
theorem e152_97 : decode (j_co 152) 97 = .ok (.getfield 60, 3) := by decide +kernel
set_option maxRecDepth 20000 in
theorem w152_97 {d : Nat} {st : List Value} {Q : Option Value × jW → Prop} {ls : jL} {xs : List Value} {I : fI} {L : fL} {o : Nat} (ht : f_tg o = 11) : Wp d 152 97 ls (.ref o :: st) (f_W xs I L) Q = Wp d 152 100 ls (.ref (f_rf o 20) :: st) (f_W xs I L) Q := Wp.getR (ci := 11) (k := 20) e152_97 rfl (by decide) (by decide) rfl ht
theorem e152_100 : decode (j_co 152) 100 = .ok (.iload_n 1, 1) := by decide +kernel
set_option maxRecDepth 20000 in
theorem w152_100 {d : Nat} {st : List Value} {Q : Option Value × jW → Prop} {w : jW} {a0 a2 a3 : Option Value} {x : Int32} : Wp d 152 100 [a0, some (.int x), a2, a3] (st) w Q = Wp d 152 101 [a0, some (.int x), a2, a3] (.int x :: st) w Q := Wp.loc e152_100 rfl rfl rfl
theorem e152_101 : decode (j_co 152) 101 = .ok (.iaload, 1) := by decide +kernel
set_option maxRecDepth 20000 in
theorem w152_101 {d : Nat} {st : List Value} {Q : Option Value × jW → Prop} {ls : jL} {xs : List Value} {I : fI} {L : fL} {o : Nat} {i : Int32} (ht : f_tg o = 100) (hi : ¬ (i < 0 ∨ f_ln o ≤ i.toNatClampNeg)) : Wp d 152 101 ls (.int i :: .ref o :: st) (f_W xs I L) Q = Wp d 152 102 ls (.int (I o i.toNatClampNeg) :: st) (f_W xs I L) Q := Wp.iald e152_101 ht hi
theorem e152_102 : decode (j_co 152) 102 = .ok (.iastore, 1) := by decide +kernel
set_option maxRecDepth 20000 in
theorem w152_102 {d : Nat} {st : List Value} {Q : Option Value × jW → Prop} {ls : jL} {xs : List Value} {I : fI} {L : fL} {o : Nat} {i x : Int32} (ht : f_tg o = 100) (hi : ¬ (i < 0 ∨ f_ln o ≤ i.toNatClampNeg)) : Wp d 152 102 ls (.int x :: .int i :: .ref o :: st) (f_W xs I L) Q = Wp d 152 103 ls (st) (f_W xs (f_up I o i.toNatClampNeg x) L) Q := Wp.iast e152_102 ht hi
theorem e152_103 : decode (j_co 152) 103 = .ok (.aload_n 0, 1) := by decide +kernel
set_option maxRecDepth 20000 in
theorem w152_103 {d : Nat} {st : List Value} {Q : Option Value × jW → Prop} {w : jW} {a1 a2 a3 : Option Value} {x : Nat} : Wp d 152 103 [some (.ref x), a1, a2, a3] (st) w Q = Wp d 152 104 [some (.ref x), a1, a2, a3] (.ref x :: st) w Q := Wp.loc e152_103 rfl rfl rfl
theorem e152_104 : decode (j_co 152) 104 = .ok (.getfield 57, 3) := by decide +kernel
set_option maxRecDepth 20000 in
theorem w152_104 {d : Nat} {st : List Value} {Q : Option Value × jW → Prop} {ls : jL} {xs : List Value} {I : fI} {L : fL} {o : Nat} (ht : f_tg o = 11) : Wp d 152 104 ls (.ref o :: st) (f_W xs I L) Q = Wp d 152 107 ls (.ref (f_rf o 19) :: st) (f_W xs I L) Q := Wp.getR (ci := 11) (k := 19) e152_104 rfl (by decide) (by decide) rfl ht
theorem e152_107 : decode (j_co 152) 107 = .ok (.iload_n 1, 1) := by decide +kernel
set_option maxRecDepth 20000 in
theorem w152_107 {d : Nat} {st : List Value} {Q : Option Value × jW → Prop} {w : jW} {a0 a2 a3 : Option Value} {x : Int32} : Wp d 152 107 [a0, some (.int x), a2, a3] (st) w Q = Wp d 152 108 [a0, some (.int x), a2, a3] (.int x :: st) w Q := Wp.loc e152_107 rfl rfl rfl
theorem e152_108 : decode (j_co 152) 108 = .ok (.iaload, 1) := by decide +kernel
set_option maxRecDepth 20000 in
theorem w152_108 {d : Nat} {st : List Value} {Q : Option Value × jW → Prop} {ls : jL} {xs : List Value} {I : fI} {L : fL} {o : Nat} {i : Int32} (ht : f_tg o = 100) (hi : ¬ (i < 0 ∨ f_ln o ≤ i.toNatClampNeg)) : Wp d 152 108 ls (.int i :: .ref o :: st) (f_W xs I L) Q = Wp d 152 109 ls (.int (I o i.toNatClampNeg) :: st) (f_W xs I L) Q := Wp.iald e152_108 ht hi
theorem e152_109 : decode (j_co 152) 109 = .ok (.istore_n 3, 1) := by decide +kernel
set_option maxRecDepth 20000 in
theorem w152_109 {d : Nat} {st : List Value} {Q : Option Value × jW → Prop} {w : jW} {a0 a1 a2 a3 : Option Value} {x : Int32} (h : j_cp a2) : Wp d 152 109 [a0, a1, a2, a3] (.int x :: st) w Q = Wp d 152 110 [a0, a1, a2, some (.int x)] (st) w Q := Wp.loc e152_109 rfl rfl (v_stI (ls := [a0, a1, a2, a3]) (k := 3) (show 3 < 4 by decide) h)
theorem e152_110 : decode (j_co 152) 110 = .ok (.iload_n 3, 1) := by decide +kernel
set_option maxRecDepth 20000 in
theorem w152_110 {d : Nat} {st : List Value} {Q : Option Value × jW → Prop} {w : jW} {a0 a1 a2 : Option Value} {x : Int32} : Wp d 152 110 [a0, a1, a2, some (.int x)] (st) w Q = Wp d 152 111 [a0, a1, a2, some (.int x)] (.int x :: st) w Q := Wp.loc e152_110 rfl rfl rfl
theorem e152_111 : decode (j_co 152) 111 = .ok (.bipush (-4), 2) := by decide +kernel
set_option maxRecDepth 20000 in
theorem w152_111 {d : Nat} {st : List Value} {Q : Option Value × jW → Prop} {ls : jL} {w : jW} : Wp d 152 111 ls (st) w Q = Wp d 152 113 ls (.int (-4) :: st) w Q := Wp.alu e152_111 rfl rfl
theorem e152_113 : decode (j_co 152) 113 = .ok (.if_icmp .eq 22, 3) := by decide +kernel
set_option maxRecDepth 20000 in
theorem w152_113 {d : Nat} {st : List Value} {Q : Option Value × jW → Prop} {ls : jL} {w : jW} {a b : Int32} : Wp d 152 113 ls (.int b :: .int a :: st) w Q = ((a = b → Wp d 152 135 ls st w Q) ∧ (¬ a = b → Wp d 152 116 ls st w Q)) := Wp.if2 (c := a = b) (off := 22) e152_113 rfl rfl rfl rfl rfl
theorem e152_116 : decode (j_co 152) 116 = .ok (.aload_n 0, 1) := by decide +kernel
set_option maxRecDepth 20000 in
theorem w152_116 {d : Nat} {st : List Value} {Q : Option Value × jW → Prop} {w : jW} {a1 a2 a3 : Option Value} {x : Nat} : Wp d 152 116 [some (.ref x), a1, a2, a3] (st) w Q = Wp d 152 117 [some (.ref x), a1, a2, a3] (.ref x :: st) w Q := Wp.loc e152_116 rfl rfl rfl
theorem e152_117 : decode (j_co 152) 117 = .ok (.iload_n 3, 1) := by decide +kernel
set_option maxRecDepth 20000 in
theorem w152_117 {d : Nat} {st : List Value} {Q : Option Value × jW → Prop} {w : jW} {a0 a1 a2 : Option Value} {x : Int32} : Wp d 152 117 [a0, a1, a2, some (.int x)] (st) w Q = Wp d 152 118 [a0, a1, a2, some (.int x)] (.int x :: st) w Q := Wp.loc e152_117 rfl rfl rfl
theorem e152_118 : decode (j_co 152) 118 = .ok (.aload_n 0, 1) := by decide +kernel
set_option maxRecDepth 20000 in
theorem w152_118 {d : Nat} {st : List Value} {Q : Option Value × jW → Prop} {w : jW} {a1 a2 a3 : Option Value} {x : Nat} : Wp d 152 118 [some (.ref x), a1, a2, a3] (st) w Q = Wp d 152 119 [some (.ref x), a1, a2, a3] (.ref x :: st) w Q := Wp.loc e152_118 rfl rfl rfl
theorem e152_119 : decode (j_co 152) 119 = .ok (.getfield 60, 3) := by decide +kernel
set_option maxRecDepth 20000 in
theorem w152_119 {d : Nat} {st : List Value} {Q : Option Value × jW → Prop} {ls : jL} {xs : List Value} {I : fI} {L : fL} {o : Nat} (ht : f_tg o = 11) : Wp d 152 119 ls (.ref o :: st) (f_W xs I L) Q = Wp d 152 122 ls (.ref (f_rf o 20) :: st) (f_W xs I L) Q := Wp.getR (ci := 11) (k := 20) e152_119 rfl (by decide) (by decide) rfl ht
theorem e152_122 : decode (j_co 152) 122 = .ok (.iload_n 1, 1) := by decide +kernel
set_option maxRecDepth 20000 in
theorem w152_122 {d : Nat} {st : List Value} {Q : Option Value × jW → Prop} {w : jW} {a0 a2 a3 : Option Value} {x : Int32} : Wp d 152 122 [a0, some (.int x), a2, a3] (st) w Q = Wp d 152 123 [a0, some (.int x), a2, a3] (.int x :: st) w Q := Wp.loc e152_122 rfl rfl rfl
theorem e152_123 : decode (j_co 152) 123 = .ok (.iaload, 1) := by decide +kernel
set_option maxRecDepth 20000 in
theorem w152_123 {d : Nat} {st : List Value} {Q : Option Value × jW → Prop} {ls : jL} {xs : List Value} {I : fI} {L : fL} {o : Nat} {i : Int32} (ht : f_tg o = 100) (hi : ¬ (i < 0 ∨ f_ln o ≤ i.toNatClampNeg)) : Wp d 152 123 ls (.int i :: .ref o :: st) (f_W xs I L) Q = Wp d 152 124 ls (.int (I o i.toNatClampNeg) :: st) (f_W xs I L) Q := Wp.iald e152_123 ht hi
theorem e152_124 : decode (j_co 152) 124 = .ok (.iconst 4, 1) := by decide +kernel
set_option maxRecDepth 20000 in
theorem w152_124 {d : Nat} {st : List Value} {Q : Option Value × jW → Prop} {ls : jL} {w : jW} : Wp d 152 124 ls (st) w Q = Wp d 152 125 ls (.int (nI 4) :: st) w Q := Wp.alu e152_124 rfl rfl
theorem e152_125 : decode (j_co 152) 125 = .ok (.aload_n 0, 1) := by decide +kernel
set_option maxRecDepth 20000 in
theorem w152_125 {d : Nat} {st : List Value} {Q : Option Value × jW → Prop} {w : jW} {a1 a2 a3 : Option Value} {x : Nat} : Wp d 152 125 [some (.ref x), a1, a2, a3] (st) w Q = Wp d 152 126 [some (.ref x), a1, a2, a3] (.ref x :: st) w Q := Wp.loc e152_125 rfl rfl rfl
theorem e152_126 : decode (j_co 152) 126 = .ok (.getfield 208, 3) := by decide +kernel
set_option maxRecDepth 20000 in
theorem w152_126 {d : Nat} {st : List Value} {Q : Option Value × jW → Prop} {ls : jL} {xs : List Value} {I : fI} {L : fL} {o : Nat} (ht : f_tg o = 11) : Wp d 152 126 ls (.ref o :: st) (f_W xs I L) Q = Wp d 152 129 ls (.int (I o 27) :: st) (f_W xs I L) Q := Wp.getI (ci := 11) (k := 27) e152_126 rfl (by decide) (by decide) (by decide) ht
theorem e152_129 : decode (j_co 152) 129 = .ok (.imul, 1) := by decide +kernel
set_option maxRecDepth 20000 in
theorem w152_129 {d : Nat} {st : List Value} {Q : Option Value × jW → Prop} {ls : jL} {w : jW} {a b : Int32} : Wp d 152 129 ls (.int b :: .int a :: st) w Q = Wp d 152 130 ls (.int (a * b) :: st) w Q := Wp.alu e152_129 rfl rfl
theorem e152_130 : decode (j_co 152) 130 = .ok (.iconst 1, 1) := by decide +kernel
set_option maxRecDepth 20000 in
theorem w152_130 {d : Nat} {st : List Value} {Q : Option Value × jW → Prop} {ls : jL} {w : jW} : Wp d 152 130 ls (st) w Q = Wp d 152 131 ls (.int (nI 1) :: st) w Q := Wp.alu e152_130 rfl rfl
theorem e152_131 : decode (j_co 152) 131 = .ok (.iadd, 1) := by decide +kernel
set_option maxRecDepth 20000 in
theorem w152_131 {d : Nat} {st : List Value} {Q : Option Value × jW → Prop} {ls : jL} {w : jW} {a b : Int32} : Wp d 152 131 ls (.int b :: .int a :: st) w Q = Wp d 152 132 ls (.int (a + b) :: st) w Q := Wp.alu e152_131 rfl rfl
theorem e152_132 : decode (j_co 152) 132 = .ok (.invokevirtual 211, 3) := by decide +kernel
set_option maxRecDepth 20000 in
theorem w152_132 {d : Nat} {st : List Value} {Q : Option Value × jW → Prop} {ls : jL} {xs : List Value} {I : fI} {L : fL} {r : Nat} {x0 : Int32} {x1 : Int32} {x2 : Int32} (hs : j_sumc st ≤ 8) (ht : f_tg r = 11) : Wp (d + 1) 152 132 ls (.int x2 :: .int x1 :: .int x0 :: .ref r :: st) (f_W xs I L) Q = Wp d 153 0 [some (.ref r), some (.int x0), some (.int x1), some (.int x2), none, none, none, none, none, none] [] (f_W xs I L) (fun r1 => Wp (d + 1) 152 135 ls (r1.1.toList ++ st) r1.2 Q) := Wp.cv (y' := 153) (as := [.int x0, .int x1, .int x2]) e152_132 rfl (by decide) rfl (show 4 ≤ 10 by decide) (by decide) hs ht
theorem e152_135 : decode (j_co 152) 135 = .ok (.aload_n 0, 1) := by decide +kernel
set_option maxRecDepth 20000 in
theorem w152_135 {d : Nat} {st : List Value} {Q : Option Value × jW → Prop} {w : jW} {a1 a2 a3 : Option Value} {x : Nat} : Wp d 152 135 [some (.ref x), a1, a2, a3] (st) w Q = Wp d 152 136 [some (.ref x), a1, a2, a3] (.ref x :: st) w Q := Wp.loc e152_135 rfl rfl rfl
theorem e152_136 : decode (j_co 152) 136 = .ok (.dup, 1) := by decide +kernel
set_option maxRecDepth 20000 in
theorem w152_136 {d : Nat} {st : List Value} {Q : Option Value × jW → Prop} {ls : jL} {w : jW} {a : Int32} : Wp d 152 136 ls (.int a :: st) w Q = Wp d 152 137 ls (.int a :: .int a :: st) w Q := Wp.alu e152_136 rfl rfl
set_option maxRecDepth 20000 in
theorem w152_136r {d : Nat} {st : List Value} {Q : Option Value × jW → Prop} {ls : jL} {w : jW} {a : Nat} : Wp d 152 136 ls (.ref a :: st) w Q = Wp d 152 137 ls (.ref a :: .ref a :: st) w Q := Wp.alu e152_136 rfl rfl
theorem e152_137 : decode (j_co 152) 137 = .ok (.getfield 208, 3) := by decide +kernel
set_option maxRecDepth 20000 in
theorem w152_137 {d : Nat} {st : List Value} {Q : Option Value × jW → Prop} {ls : jL} {xs : List Value} {I : fI} {L : fL} {o : Nat} (ht : f_tg o = 11) : Wp d 152 137 ls (.ref o :: st) (f_W xs I L) Q = Wp d 152 140 ls (.int (I o 27) :: st) (f_W xs I L) Q := Wp.getI (ci := 11) (k := 27) e152_137 rfl (by decide) (by decide) (by decide) ht
theorem e152_140 : decode (j_co 152) 140 = .ok (.iconst 1, 1) := by decide +kernel
set_option maxRecDepth 20000 in
theorem w152_140 {d : Nat} {st : List Value} {Q : Option Value × jW → Prop} {ls : jL} {w : jW} : Wp d 152 140 ls (st) w Q = Wp d 152 141 ls (.int (nI 1) :: st) w Q := Wp.alu e152_140 rfl rfl
theorem e152_141 : decode (j_co 152) 141 = .ok (.iadd, 1) := by decide +kernel
set_option maxRecDepth 20000 in
theorem w152_141 {d : Nat} {st : List Value} {Q : Option Value × jW → Prop} {ls : jL} {w : jW} {a b : Int32} : Wp d 152 141 ls (.int b :: .int a :: st) w Q = Wp d 152 142 ls (.int (a + b) :: st) w Q := Wp.alu e152_141 rfl rfl
theorem e152_142 : decode (j_co 152) 142 = .ok (.putfield 208, 3) := by decide +kernel
set_option maxRecDepth 20000 in
theorem w152_142 {d : Nat} {st : List Value} {Q : Option Value × jW → Prop} {ls : jL} {xs : List Value} {I : fI} {L : fL} {o : Nat} {x : Int32} (ht : f_tg o = 11) : Wp d 152 142 ls (.int x :: .ref o :: st) (f_W xs I L) Q = Wp d 152 145 ls (st) (f_W xs (f_up I o 27 x) L) Q := Wp.putI (ci := 11) (k := 27) e152_142 rfl (by decide) (by decide) rfl (by decide) ht
theorem e152_145 : decode (j_co 152) 145 = .ok (.iload_n 3, 1) := by decide +kernel
set_option maxRecDepth 20000 in
theorem w152_145 {d : Nat} {st : List Value} {Q : Option Value × jW → Prop} {w : jW} {a0 a1 a2 : Option Value} {x : Int32} : Wp d 152 145 [a0, a1, a2, some (.int x)] (st) w Q = Wp d 152 146 [a0, a1, a2, some (.int x)] (.int x :: st) w Q := Wp.loc e152_145 rfl rfl rfl
theorem e152_146 : decode (j_co 152) 146 = .ok (.istore_n 1, 1) := by decide +kernel
set_option maxRecDepth 20000 in
theorem w152_146 {d : Nat} {st : List Value} {Q : Option Value × jW → Prop} {w : jW} {a0 a1 a2 a3 : Option Value} {x : Int32} (h : j_cp a0) : Wp d 152 146 [a0, a1, a2, a3] (.int x :: st) w Q = Wp d 152 147 [a0, some (.int x), a2, a3] (st) w Q := Wp.loc e152_146 rfl rfl (v_stI (ls := [a0, a1, a2, a3]) (k := 1) (show 1 < 4 by decide) h)
theorem e152_147 : decode (j_co 152) 147 = .ok (.goto (-118), 3) := by decide +kernel
set_option maxRecDepth 20000 in
theorem w152_147 {d : Nat} {st : List Value} {Q : Option Value × jW → Prop} {ls : jL} {w : jW} : Wp d 152 147 ls (st) w Q = Wp d 152 29 ls (st) w Q := Wp.br e152_147 (Or.inl rfl) rfl rfl rfl rfl
theorem e152_150 : decode (j_co 152) 150 = .ok (.iload_n 2, 1) := by decide +kernel
set_option maxRecDepth 20000 in
theorem w152_150 {d : Nat} {st : List Value} {Q : Option Value × jW → Prop} {w : jW} {a0 a1 a3 : Option Value} {x : Int32} : Wp d 152 150 [a0, a1, some (.int x), a3] (st) w Q = Wp d 152 151 [a0, a1, some (.int x), a3] (.int x :: st) w Q := Wp.loc e152_150 rfl rfl rfl
theorem e152_151 : decode (j_co 152) 151 = .ok (.ireturn, 1) := by decide +kernel
set_option maxRecDepth 20000 in
theorem w152_151 {d : Nat} {Q : Option Value × jW → Prop} {ls : jL} {w : jW} {x : Int32} (hx : x = 0 ∨ x = 1) : Wp d 152 151 ls [.int x] w Q = Q (some (.int x), w) := Wp.ret e152_151 (by rcases hx with rfl | rfl <;> rfl)
/-! M.back -/
theorem e153_0 : decode (j_co 153) 0 = .ok (.aload_n 0, 1) := by decide +kernel
set_option maxRecDepth 20000 in
theorem w153_0 {d : Nat} {st : List Value} {Q : Option Value × jW → Prop} {w : jW} {a1 a2 a3 a4 a5 a6 a7 a8 a9 : Option Value} {x : Nat} : Wp d 153 0 [some (.ref x), a1, a2, a3, a4, a5, a6, a7, a8, a9] (st) w Q = Wp d 153 1 [some (.ref x), a1, a2, a3, a4, a5, a6, a7, a8, a9] (.ref x :: st) w Q := Wp.loc e153_0 rfl rfl rfl
theorem e153_1 : decode (j_co 153) 1 = .ok (.aload_n 0, 1) := by decide +kernel
set_option maxRecDepth 20000 in
theorem w153_1 {d : Nat} {st : List Value} {Q : Option Value × jW → Prop} {w : jW} {a1 a2 a3 a4 a5 a6 a7 a8 a9 : Option Value} {x : Nat} : Wp d 153 1 [some (.ref x), a1, a2, a3, a4, a5, a6, a7, a8, a9] (st) w Q = Wp d 153 2 [some (.ref x), a1, a2, a3, a4, a5, a6, a7, a8, a9] (.ref x :: st) w Q := Wp.loc e153_1 rfl rfl rfl
theorem e153_2 : decode (j_co 153) 2 = .ok (.getfield 54, 3) := by decide +kernel
set_option maxRecDepth 20000 in
theorem w153_2 {d : Nat} {st : List Value} {Q : Option Value × jW → Prop} {ls : jL} {xs : List Value} {I : fI} {L : fL} {o : Nat} (ht : f_tg o = 11) : Wp d 153 2 ls (.ref o :: st) (f_W xs I L) Q = Wp d 153 5 ls (.ref (f_rf o 18) :: st) (f_W xs I L) Q := Wp.getR (ci := 11) (k := 18) e153_2 rfl (by decide) (by decide) rfl ht
theorem e153_5 : decode (j_co 153) 5 = .ok (.bipush 6, 2) := by decide +kernel
set_option maxRecDepth 20000 in
theorem w153_5 {d : Nat} {st : List Value} {Q : Option Value × jW → Prop} {ls : jL} {w : jW} : Wp d 153 5 ls (st) w Q = Wp d 153 7 ls (.int (nI 6) :: st) w Q := Wp.alu e153_5 rfl rfl
theorem e153_7 : decode (j_co 153) 7 = .ok (.iload_n 1, 1) := by decide +kernel
set_option maxRecDepth 20000 in
theorem w153_7 {d : Nat} {st : List Value} {Q : Option Value × jW → Prop} {w : jW} {a0 a2 a3 a4 a5 a6 a7 a8 a9 : Option Value} {x : Int32} : Wp d 153 7 [a0, some (.int x), a2, a3, a4, a5, a6, a7, a8, a9] (st) w Q = Wp d 153 8 [a0, some (.int x), a2, a3, a4, a5, a6, a7, a8, a9] (.int x :: st) w Q := Wp.loc e153_7 rfl rfl rfl
theorem e153_8 : decode (j_co 153) 8 = .ok (.imul, 1) := by decide +kernel
set_option maxRecDepth 20000 in
theorem w153_8 {d : Nat} {st : List Value} {Q : Option Value × jW → Prop} {ls : jL} {w : jW} {a b : Int32} : Wp d 153 8 ls (.int b :: .int a :: st) w Q = Wp d 153 9 ls (.int (a * b) :: st) w Q := Wp.alu e153_8 rfl rfl
theorem e153_9 : decode (j_co 153) 9 = .ok (.invokevirtual 159, 3) := by decide +kernel
set_option maxRecDepth 20000 in
theorem w153_9 {d : Nat} {st : List Value} {Q : Option Value × jW → Prop} {ls : jL} {xs : List Value} {I : fI} {L : fL} {r : Nat} {x0 : Nat} {x1 : Int32} (hs : j_sumc st ≤ 8) (ht : f_tg r = 11) : Wp (d + 1) 153 9 ls (.int x1 :: .ref x0 :: .ref r :: st) (f_W xs I L) Q = Wp d 130 0 [some (.ref r), some (.ref x0), some (.int x1), none] [] (f_W xs I L) (fun r1 => Wp (d + 1) 153 12 ls (r1.1.toList ++ st) r1.2 Q) := Wp.cv (y' := 130) (as := [.ref x0, .int x1]) e153_9 rfl (by decide) rfl (show 3 ≤ 4 by decide) (by decide) hs ht
theorem e153_12 : decode (j_co 153) 12 = .ok (.iload_n 2, 1) := by decide +kernel
set_option maxRecDepth 20000 in
theorem w153_12 {d : Nat} {st : List Value} {Q : Option Value × jW → Prop} {w : jW} {a0 a1 a3 a4 a5 a6 a7 a8 a9 : Option Value} {x : Int32} : Wp d 153 12 [a0, a1, some (.int x), a3, a4, a5, a6, a7, a8, a9] (st) w Q = Wp d 153 13 [a0, a1, some (.int x), a3, a4, a5, a6, a7, a8, a9] (.int x :: st) w Q := Wp.loc e153_12 rfl rfl rfl
theorem e153_13 : decode (j_co 153) 13 = .ok (.iconst 1, 1) := by decide +kernel
set_option maxRecDepth 20000 in
theorem w153_13 {d : Nat} {st : List Value} {Q : Option Value × jW → Prop} {ls : jL} {w : jW} : Wp d 153 13 ls (st) w Q = Wp d 153 14 ls (.int (nI 1) :: st) w Q := Wp.alu e153_13 rfl rfl
theorem e153_14 : decode (j_co 153) 14 = .ok (.isub, 1) := by decide +kernel
set_option maxRecDepth 20000 in
theorem w153_14 {d : Nat} {st : List Value} {Q : Option Value × jW → Prop} {ls : jL} {w : jW} {a b : Int32} : Wp d 153 14 ls (.int b :: .int a :: st) w Q = Wp d 153 15 ls (.int (a - b) :: st) w Q := Wp.alu e153_14 rfl rfl
theorem e153_15 : decode (j_co 153) 15 = .ok (.istore 4, 2) := by decide +kernel
set_option maxRecDepth 20000 in
theorem w153_15 {d : Nat} {st : List Value} {Q : Option Value × jW → Prop} {w : jW} {a0 a1 a2 a3 a4 a5 a6 a7 a8 a9 : Option Value} {x : Int32} (h : j_cp a3) : Wp d 153 15 [a0, a1, a2, a3, a4, a5, a6, a7, a8, a9] (.int x :: st) w Q = Wp d 153 17 [a0, a1, a2, a3, some (.int x), a5, a6, a7, a8, a9] (st) w Q := Wp.loc e153_15 rfl rfl (v_stI (ls := [a0, a1, a2, a3, a4, a5, a6, a7, a8, a9]) (k := 4) (show 4 < 10 by decide) h)
theorem e153_17 : decode (j_co 153) 17 = .ok (.iload_n 2, 1) := by decide +kernel
set_option maxRecDepth 20000 in
theorem w153_17 {d : Nat} {st : List Value} {Q : Option Value × jW → Prop} {w : jW} {a0 a1 a3 a4 a5 a6 a7 a8 a9 : Option Value} {x : Int32} : Wp d 153 17 [a0, a1, some (.int x), a3, a4, a5, a6, a7, a8, a9] (st) w Q = Wp d 153 18 [a0, a1, some (.int x), a3, a4, a5, a6, a7, a8, a9] (.int x :: st) w Q := Wp.loc e153_17 rfl rfl rfl
theorem e153_18 : decode (j_co 153) 18 = .ok (.ifCond .le 16, 3) := by decide +kernel
set_option maxRecDepth 20000 in
theorem w153_18 {d : Nat} {st : List Value} {Q : Option Value × jW → Prop} {ls : jL} {w : jW} {a : Int32} : Wp d 153 18 ls (.int a :: st) w Q = ((a ≤ nI 0 → Wp d 153 34 ls st w Q) ∧ (¬ a ≤ nI 0 → Wp d 153 21 ls st w Q)) := Wp.if2 (c := a ≤ nI 0) (off := 16) e153_18 rfl rfl rfl rfl rfl
theorem e153_21 : decode (j_co 153) 21 = .ok (.aload_n 0, 1) := by decide +kernel
set_option maxRecDepth 20000 in
theorem w153_21 {d : Nat} {st : List Value} {Q : Option Value × jW → Prop} {w : jW} {a1 a2 a3 a4 a5 a6 a7 a8 a9 : Option Value} {x : Nat} : Wp d 153 21 [some (.ref x), a1, a2, a3, a4, a5, a6, a7, a8, a9] (st) w Q = Wp d 153 22 [some (.ref x), a1, a2, a3, a4, a5, a6, a7, a8, a9] (.ref x :: st) w Q := Wp.loc e153_21 rfl rfl rfl
theorem e153_22 : decode (j_co 153) 22 = .ok (.aload_n 0, 1) := by decide +kernel
set_option maxRecDepth 20000 in
theorem w153_22 {d : Nat} {st : List Value} {Q : Option Value × jW → Prop} {w : jW} {a1 a2 a3 a4 a5 a6 a7 a8 a9 : Option Value} {x : Nat} : Wp d 153 22 [some (.ref x), a1, a2, a3, a4, a5, a6, a7, a8, a9] (st) w Q = Wp d 153 23 [some (.ref x), a1, a2, a3, a4, a5, a6, a7, a8, a9] (.ref x :: st) w Q := Wp.loc e153_22 rfl rfl rfl
theorem e153_23 : decode (j_co 153) 23 = .ok (.getfield 22, 3) := by decide +kernel
set_option maxRecDepth 20000 in
theorem w153_23 {d : Nat} {st : List Value} {Q : Option Value × jW → Prop} {ls : jL} {xs : List Value} {I : fI} {L : fL} {o : Nat} (ht : f_tg o = 11) : Wp d 153 23 ls (.ref o :: st) (f_W xs I L) Q = Wp d 153 26 ls (.ref (f_rf o 6) :: st) (f_W xs I L) Q := Wp.getR (ci := 11) (k := 6) e153_23 rfl (by decide) (by decide) rfl ht
theorem e153_26 : decode (j_co 153) 26 = .ok (.bipush 6, 2) := by decide +kernel
set_option maxRecDepth 20000 in
theorem w153_26 {d : Nat} {st : List Value} {Q : Option Value × jW → Prop} {ls : jL} {w : jW} : Wp d 153 26 ls (st) w Q = Wp d 153 28 ls (.int (nI 6) :: st) w Q := Wp.alu e153_26 rfl rfl
theorem e153_28 : decode (j_co 153) 28 = .ok (.iload 4, 2) := by decide +kernel
set_option maxRecDepth 20000 in
theorem w153_28 {d : Nat} {st : List Value} {Q : Option Value × jW → Prop} {w : jW} {a0 a1 a2 a3 a5 a6 a7 a8 a9 : Option Value} {x : Int32} : Wp d 153 28 [a0, a1, a2, a3, some (.int x), a5, a6, a7, a8, a9] (st) w Q = Wp d 153 30 [a0, a1, a2, a3, some (.int x), a5, a6, a7, a8, a9] (.int x :: st) w Q := Wp.loc e153_28 rfl rfl rfl
theorem e153_30 : decode (j_co 153) 30 = .ok (.imul, 1) := by decide +kernel
set_option maxRecDepth 20000 in
theorem w153_30 {d : Nat} {st : List Value} {Q : Option Value × jW → Prop} {ls : jL} {w : jW} {a b : Int32} : Wp d 153 30 ls (.int b :: .int a :: st) w Q = Wp d 153 31 ls (.int (a * b) :: st) w Q := Wp.alu e153_30 rfl rfl
theorem e153_31 : decode (j_co 153) 31 = .ok (.invokevirtual 128, 3) := by decide +kernel
set_option maxRecDepth 20000 in
theorem w153_31 {d : Nat} {st : List Value} {Q : Option Value × jW → Prop} {ls : jL} {xs : List Value} {I : fI} {L : fL} {r : Nat} {x0 : Nat} {x1 : Int32} (hs : j_sumc st ≤ 8) (ht : f_tg r = 11) : Wp (d + 1) 153 31 ls (.int x1 :: .ref x0 :: .ref r :: st) (f_W xs I L) Q = Wp d 131 0 [some (.ref r), some (.ref x0), some (.int x1), none, none, none] [] (f_W xs I L) (fun r1 => Wp (d + 1) 153 34 ls (r1.1.toList ++ st) r1.2 Q) := Wp.cv (y' := 131) (as := [.ref x0, .int x1]) e153_31 rfl (by decide) rfl (show 3 ≤ 6 by decide) (by decide) hs ht
theorem e153_34 : decode (j_co 153) 34 = .ok (.iconst 0, 1) := by decide +kernel
set_option maxRecDepth 20000 in
theorem w153_34 {d : Nat} {st : List Value} {Q : Option Value × jW → Prop} {ls : jL} {w : jW} : Wp d 153 34 ls (st) w Q = Wp d 153 35 ls (.int (nI 0) :: st) w Q := Wp.alu e153_34 rfl rfl
theorem e153_35 : decode (j_co 153) 35 = .ok (.istore 5, 2) := by decide +kernel
set_option maxRecDepth 20000 in
theorem w153_35 {d : Nat} {st : List Value} {Q : Option Value × jW → Prop} {w : jW} {a0 a1 a2 a3 a4 a5 a6 a7 a8 a9 : Option Value} {x : Int32} (h : j_cp a4) : Wp d 153 35 [a0, a1, a2, a3, a4, a5, a6, a7, a8, a9] (.int x :: st) w Q = Wp d 153 37 [a0, a1, a2, a3, a4, some (.int x), a6, a7, a8, a9] (st) w Q := Wp.loc e153_35 rfl rfl (v_stI (ls := [a0, a1, a2, a3, a4, a5, a6, a7, a8, a9]) (k := 5) (show 5 < 10 by decide) h)
theorem e153_37 : decode (j_co 153) 37 = .ok (.iload 5, 2) := by decide +kernel
set_option maxRecDepth 20000 in
theorem w153_37 {d : Nat} {st : List Value} {Q : Option Value × jW → Prop} {w : jW} {a0 a1 a2 a3 a4 a6 a7 a8 a9 : Option Value} {x : Int32} : Wp d 153 37 [a0, a1, a2, a3, a4, some (.int x), a6, a7, a8, a9] (st) w Q = Wp d 153 39 [a0, a1, a2, a3, a4, some (.int x), a6, a7, a8, a9] (.int x :: st) w Q := Wp.loc e153_37 rfl rfl rfl
theorem e153_39 : decode (j_co 153) 39 = .ok (.iconst 3, 1) := by decide +kernel
set_option maxRecDepth 20000 in
theorem w153_39 {d : Nat} {st : List Value} {Q : Option Value × jW → Prop} {ls : jL} {w : jW} : Wp d 153 39 ls (st) w Q = Wp d 153 40 ls (.int (nI 3) :: st) w Q := Wp.alu e153_39 rfl rfl
theorem e153_40 : decode (j_co 153) 40 = .ok (.if_icmp .ge 179, 3) := by decide +kernel
set_option maxRecDepth 20000 in
theorem w153_40 {d : Nat} {st : List Value} {Q : Option Value × jW → Prop} {ls : jL} {w : jW} {a b : Int32} : Wp d 153 40 ls (.int b :: .int a :: st) w Q = ((b ≤ a → Wp d 153 219 ls st w Q) ∧ (¬ b ≤ a → Wp d 153 43 ls st w Q)) := Wp.if2 (c := b ≤ a) (off := 179) e153_40 rfl rfl rfl rfl rfl
theorem e153_43 : decode (j_co 153) 43 = .ok (.aload_n 0, 1) := by decide +kernel
set_option maxRecDepth 20000 in
theorem w153_43 {d : Nat} {st : List Value} {Q : Option Value × jW → Prop} {w : jW} {a1 a2 a3 a4 a5 a6 a7 a8 a9 : Option Value} {x : Nat} : Wp d 153 43 [some (.ref x), a1, a2, a3, a4, a5, a6, a7, a8, a9] (st) w Q = Wp d 153 44 [some (.ref x), a1, a2, a3, a4, a5, a6, a7, a8, a9] (.ref x :: st) w Q := Wp.loc e153_43 rfl rfl rfl
theorem e153_44 : decode (j_co 153) 44 = .ok (.getfield 72, 3) := by decide +kernel
set_option maxRecDepth 20000 in
theorem w153_44 {d : Nat} {st : List Value} {Q : Option Value × jW → Prop} {ls : jL} {xs : List Value} {I : fI} {L : fL} {o : Nat} (ht : f_tg o = 11) : Wp d 153 44 ls (.ref o :: st) (f_W xs I L) Q = Wp d 153 47 ls (.ref (f_rf o 28) :: st) (f_W xs I L) Q := Wp.getR (ci := 11) (k := 28) e153_44 rfl (by decide) (by decide) rfl ht
theorem e153_47 : decode (j_co 153) 47 = .ok (.iload_n 3, 1) := by decide +kernel
set_option maxRecDepth 20000 in
theorem w153_47 {d : Nat} {st : List Value} {Q : Option Value × jW → Prop} {w : jW} {a0 a1 a2 a4 a5 a6 a7 a8 a9 : Option Value} {x : Int32} : Wp d 153 47 [a0, a1, a2, some (.int x), a4, a5, a6, a7, a8, a9] (st) w Q = Wp d 153 48 [a0, a1, a2, some (.int x), a4, a5, a6, a7, a8, a9] (.int x :: st) w Q := Wp.loc e153_47 rfl rfl rfl
theorem e153_48 : decode (j_co 153) 48 = .ok (.iload 5, 2) := by decide +kernel
set_option maxRecDepth 20000 in
theorem w153_48 {d : Nat} {st : List Value} {Q : Option Value × jW → Prop} {w : jW} {a0 a1 a2 a3 a4 a6 a7 a8 a9 : Option Value} {x : Int32} : Wp d 153 48 [a0, a1, a2, a3, a4, some (.int x), a6, a7, a8, a9] (st) w Q = Wp d 153 50 [a0, a1, a2, a3, a4, some (.int x), a6, a7, a8, a9] (.int x :: st) w Q := Wp.loc e153_48 rfl rfl rfl
theorem e153_50 : decode (j_co 153) 50 = .ok (.iadd, 1) := by decide +kernel
set_option maxRecDepth 20000 in
theorem w153_50 {d : Nat} {st : List Value} {Q : Option Value × jW → Prop} {ls : jL} {w : jW} {a b : Int32} : Wp d 153 50 ls (.int b :: .int a :: st) w Q = Wp d 153 51 ls (.int (a + b) :: st) w Q := Wp.alu e153_50 rfl rfl
theorem e153_51 : decode (j_co 153) 51 = .ok (.iaload, 1) := by decide +kernel
set_option maxRecDepth 20000 in
theorem w153_51 {d : Nat} {st : List Value} {Q : Option Value × jW → Prop} {ls : jL} {xs : List Value} {I : fI} {L : fL} {o : Nat} {i : Int32} (ht : f_tg o = 100) (hi : ¬ (i < 0 ∨ f_ln o ≤ i.toNatClampNeg)) : Wp d 153 51 ls (.int i :: .ref o :: st) (f_W xs I L) Q = Wp d 153 52 ls (.int (I o i.toNatClampNeg) :: st) (f_W xs I L) Q := Wp.iald e153_51 ht hi
theorem e153_52 : decode (j_co 153) 52 = .ok (.istore 6, 2) := by decide +kernel
set_option maxRecDepth 20000 in
theorem w153_52 {d : Nat} {st : List Value} {Q : Option Value × jW → Prop} {w : jW} {a0 a1 a2 a3 a4 a5 a6 a7 a8 a9 : Option Value} {x : Int32} (h : j_cp a5) : Wp d 153 52 [a0, a1, a2, a3, a4, a5, a6, a7, a8, a9] (.int x :: st) w Q = Wp d 153 54 [a0, a1, a2, a3, a4, a5, some (.int x), a7, a8, a9] (st) w Q := Wp.loc e153_52 rfl rfl (v_stI (ls := [a0, a1, a2, a3, a4, a5, a6, a7, a8, a9]) (k := 6) (show 6 < 10 by decide) h)
theorem e153_54 : decode (j_co 153) 54 = .ok (.bipush 6, 2) := by decide +kernel
set_option maxRecDepth 20000 in
theorem w153_54 {d : Nat} {st : List Value} {Q : Option Value × jW → Prop} {ls : jL} {w : jW} : Wp d 153 54 ls (st) w Q = Wp d 153 56 ls (.int (nI 6) :: st) w Q := Wp.alu e153_54 rfl rfl
theorem e153_56 : decode (j_co 153) 56 = .ok (.aload_n 0, 1) := by decide +kernel
set_option maxRecDepth 20000 in
theorem w153_56 {d : Nat} {st : List Value} {Q : Option Value × jW → Prop} {w : jW} {a1 a2 a3 a4 a5 a6 a7 a8 a9 : Option Value} {x : Nat} : Wp d 153 56 [some (.ref x), a1, a2, a3, a4, a5, a6, a7, a8, a9] (st) w Q = Wp d 153 57 [some (.ref x), a1, a2, a3, a4, a5, a6, a7, a8, a9] (.ref x :: st) w Q := Wp.loc e153_56 rfl rfl rfl
theorem e153_57 : decode (j_co 153) 57 = .ok (.getfield 51, 3) := by decide +kernel
set_option maxRecDepth 20000 in
theorem w153_57 {d : Nat} {st : List Value} {Q : Option Value × jW → Prop} {ls : jL} {xs : List Value} {I : fI} {L : fL} {o : Nat} (ht : f_tg o = 11) : Wp d 153 57 ls (.ref o :: st) (f_W xs I L) Q = Wp d 153 60 ls (.ref (f_rf o 17) :: st) (f_W xs I L) Q := Wp.getR (ci := 11) (k := 17) e153_57 rfl (by decide) (by decide) rfl ht
theorem e153_60 : decode (j_co 153) 60 = .ok (.iload_n 1, 1) := by decide +kernel
set_option maxRecDepth 20000 in
theorem w153_60 {d : Nat} {st : List Value} {Q : Option Value × jW → Prop} {w : jW} {a0 a2 a3 a4 a5 a6 a7 a8 a9 : Option Value} {x : Int32} : Wp d 153 60 [a0, some (.int x), a2, a3, a4, a5, a6, a7, a8, a9] (st) w Q = Wp d 153 61 [a0, some (.int x), a2, a3, a4, a5, a6, a7, a8, a9] (.int x :: st) w Q := Wp.loc e153_60 rfl rfl rfl
theorem e153_61 : decode (j_co 153) 61 = .ok (.iaload, 1) := by decide +kernel
set_option maxRecDepth 20000 in
theorem w153_61 {d : Nat} {st : List Value} {Q : Option Value × jW → Prop} {ls : jL} {xs : List Value} {I : fI} {L : fL} {o : Nat} {i : Int32} (ht : f_tg o = 100) (hi : ¬ (i < 0 ∨ f_ln o ≤ i.toNatClampNeg)) : Wp d 153 61 ls (.int i :: .ref o :: st) (f_W xs I L) Q = Wp d 153 62 ls (.int (I o i.toNatClampNeg) :: st) (f_W xs I L) Q := Wp.iald e153_61 ht hi
theorem e153_62 : decode (j_co 153) 62 = .ok (.imul, 1) := by decide +kernel
set_option maxRecDepth 20000 in
theorem w153_62 {d : Nat} {st : List Value} {Q : Option Value × jW → Prop} {ls : jL} {w : jW} {a b : Int32} : Wp d 153 62 ls (.int b :: .int a :: st) w Q = Wp d 153 63 ls (.int (a * b) :: st) w Q := Wp.alu e153_62 rfl rfl
theorem e153_63 : decode (j_co 153) 63 = .ok (.iconst 2, 1) := by decide +kernel
set_option maxRecDepth 20000 in
theorem w153_63 {d : Nat} {st : List Value} {Q : Option Value × jW → Prop} {ls : jL} {w : jW} : Wp d 153 63 ls (st) w Q = Wp d 153 64 ls (.int (nI 2) :: st) w Q := Wp.alu e153_63 rfl rfl
theorem e153_64 : decode (j_co 153) 64 = .ok (.iload 5, 2) := by decide +kernel
set_option maxRecDepth 20000 in
theorem w153_64 {d : Nat} {st : List Value} {Q : Option Value × jW → Prop} {w : jW} {a0 a1 a2 a3 a4 a6 a7 a8 a9 : Option Value} {x : Int32} : Wp d 153 64 [a0, a1, a2, a3, a4, some (.int x), a6, a7, a8, a9] (st) w Q = Wp d 153 66 [a0, a1, a2, a3, a4, some (.int x), a6, a7, a8, a9] (.int x :: st) w Q := Wp.loc e153_64 rfl rfl rfl
theorem e153_66 : decode (j_co 153) 66 = .ok (.imul, 1) := by decide +kernel
set_option maxRecDepth 20000 in
theorem w153_66 {d : Nat} {st : List Value} {Q : Option Value × jW → Prop} {ls : jL} {w : jW} {a b : Int32} : Wp d 153 66 ls (.int b :: .int a :: st) w Q = Wp d 153 67 ls (.int (a * b) :: st) w Q := Wp.alu e153_66 rfl rfl
theorem e153_67 : decode (j_co 153) 67 = .ok (.iadd, 1) := by decide +kernel
set_option maxRecDepth 20000 in
theorem w153_67 {d : Nat} {st : List Value} {Q : Option Value × jW → Prop} {ls : jL} {w : jW} {a b : Int32} : Wp d 153 67 ls (.int b :: .int a :: st) w Q = Wp d 153 68 ls (.int (a + b) :: st) w Q := Wp.alu e153_67 rfl rfl
theorem e153_68 : decode (j_co 153) 68 = .ok (.istore 7, 2) := by decide +kernel
set_option maxRecDepth 20000 in
theorem w153_68 {d : Nat} {st : List Value} {Q : Option Value × jW → Prop} {w : jW} {a0 a1 a2 a3 a4 a5 a6 a7 a8 a9 : Option Value} {x : Int32} (h : j_cp a6) : Wp d 153 68 [a0, a1, a2, a3, a4, a5, a6, a7, a8, a9] (.int x :: st) w Q = Wp d 153 70 [a0, a1, a2, a3, a4, a5, a6, some (.int x), a8, a9] (st) w Q := Wp.loc e153_68 rfl rfl (v_stI (ls := [a0, a1, a2, a3, a4, a5, a6, a7, a8, a9]) (k := 7) (show 7 < 10 by decide) h)
theorem e153_70 : decode (j_co 153) 70 = .ok (.iload_n 2, 1) := by decide +kernel
set_option maxRecDepth 20000 in
theorem w153_70 {d : Nat} {st : List Value} {Q : Option Value × jW → Prop} {w : jW} {a0 a1 a3 a4 a5 a6 a7 a8 a9 : Option Value} {x : Int32} : Wp d 153 70 [a0, a1, some (.int x), a3, a4, a5, a6, a7, a8, a9] (st) w Q = Wp d 153 71 [a0, a1, some (.int x), a3, a4, a5, a6, a7, a8, a9] (.int x :: st) w Q := Wp.loc e153_70 rfl rfl rfl
theorem e153_71 : decode (j_co 153) 71 = .ok (.ifCond .eq 18, 3) := by decide +kernel
set_option maxRecDepth 20000 in
theorem w153_71 {d : Nat} {st : List Value} {Q : Option Value × jW → Prop} {ls : jL} {w : jW} {a : Int32} : Wp d 153 71 ls (.int a :: st) w Q = ((a = nI 0 → Wp d 153 89 ls st w Q) ∧ (¬ a = nI 0 → Wp d 153 74 ls st w Q)) := Wp.if2 (c := a = nI 0) (off := 18) e153_71 rfl rfl rfl rfl rfl
theorem e153_74 : decode (j_co 153) 74 = .ok (.aload_n 0, 1) := by decide +kernel
set_option maxRecDepth 20000 in
theorem w153_74 {d : Nat} {st : List Value} {Q : Option Value × jW → Prop} {w : jW} {a1 a2 a3 a4 a5 a6 a7 a8 a9 : Option Value} {x : Nat} : Wp d 153 74 [some (.ref x), a1, a2, a3, a4, a5, a6, a7, a8, a9] (st) w Q = Wp d 153 75 [some (.ref x), a1, a2, a3, a4, a5, a6, a7, a8, a9] (.ref x :: st) w Q := Wp.loc e153_74 rfl rfl rfl
theorem e153_75 : decode (j_co 153) 75 = .ok (.getfield 28, 3) := by decide +kernel
set_option maxRecDepth 20000 in
theorem w153_75 {d : Nat} {st : List Value} {Q : Option Value × jW → Prop} {ls : jL} {xs : List Value} {I : fI} {L : fL} {o : Nat} (ht : f_tg o = 11) : Wp d 153 75 ls (.ref o :: st) (f_W xs I L) Q = Wp d 153 78 ls (.ref (f_rf o 8) :: st) (f_W xs I L) Q := Wp.getR (ci := 11) (k := 8) e153_75 rfl (by decide) (by decide) rfl ht
theorem e153_78 : decode (j_co 153) 78 = .ok (.iconst 3, 1) := by decide +kernel
set_option maxRecDepth 20000 in
theorem w153_78 {d : Nat} {st : List Value} {Q : Option Value × jW → Prop} {ls : jL} {w : jW} : Wp d 153 78 ls (st) w Q = Wp d 153 79 ls (.int (nI 3) :: st) w Q := Wp.alu e153_78 rfl rfl
theorem e153_79 : decode (j_co 153) 79 = .ok (.iload 4, 2) := by decide +kernel
set_option maxRecDepth 20000 in
theorem w153_79 {d : Nat} {st : List Value} {Q : Option Value × jW → Prop} {w : jW} {a0 a1 a2 a3 a5 a6 a7 a8 a9 : Option Value} {x : Int32} : Wp d 153 79 [a0, a1, a2, a3, some (.int x), a5, a6, a7, a8, a9] (st) w Q = Wp d 153 81 [a0, a1, a2, a3, some (.int x), a5, a6, a7, a8, a9] (.int x :: st) w Q := Wp.loc e153_79 rfl rfl rfl
theorem e153_81 : decode (j_co 153) 81 = .ok (.imul, 1) := by decide +kernel
set_option maxRecDepth 20000 in
theorem w153_81 {d : Nat} {st : List Value} {Q : Option Value × jW → Prop} {ls : jL} {w : jW} {a b : Int32} : Wp d 153 81 ls (.int b :: .int a :: st) w Q = Wp d 153 82 ls (.int (a * b) :: st) w Q := Wp.alu e153_81 rfl rfl
theorem e153_82 : decode (j_co 153) 82 = .ok (.iload 5, 2) := by decide +kernel
set_option maxRecDepth 20000 in
theorem w153_82 {d : Nat} {st : List Value} {Q : Option Value × jW → Prop} {w : jW} {a0 a1 a2 a3 a4 a6 a7 a8 a9 : Option Value} {x : Int32} : Wp d 153 82 [a0, a1, a2, a3, a4, some (.int x), a6, a7, a8, a9] (st) w Q = Wp d 153 84 [a0, a1, a2, a3, a4, some (.int x), a6, a7, a8, a9] (.int x :: st) w Q := Wp.loc e153_82 rfl rfl rfl
theorem e153_84 : decode (j_co 153) 84 = .ok (.iadd, 1) := by decide +kernel
set_option maxRecDepth 20000 in
theorem w153_84 {d : Nat} {st : List Value} {Q : Option Value × jW → Prop} {ls : jL} {w : jW} {a b : Int32} : Wp d 153 84 ls (.int b :: .int a :: st) w Q = Wp d 153 85 ls (.int (a + b) :: st) w Q := Wp.alu e153_84 rfl rfl
theorem e153_85 : decode (j_co 153) 85 = .ok (.baload, 1) := by decide +kernel
set_option maxRecDepth 20000 in
theorem w153_85 {d : Nat} {st : List Value} {Q : Option Value × jW → Prop} {ls : jL} {xs : List Value} {I : fI} {L : fL} {o : Nat} {i : Int32} (ht : f_tg o = 101) (hi : ¬ (i < 0 ∨ f_ln o ≤ i.toNatClampNeg)) : Wp d 153 85 ls (.int i :: .ref o :: st) (f_W xs I L) Q = Wp d 153 86 ls (.int (I o i.toNatClampNeg) :: st) (f_W xs I L) Q := Wp.zald e153_85 ht hi
theorem e153_86 : decode (j_co 153) 86 = .ok (.ifCond .ne 127, 3) := by decide +kernel
set_option maxRecDepth 20000 in
theorem w153_86 {d : Nat} {st : List Value} {Q : Option Value × jW → Prop} {ls : jL} {w : jW} {a : Int32} : Wp d 153 86 ls (.int a :: st) w Q = ((a = nI 0 → Wp d 153 89 ls st w Q) ∧ (¬ a = nI 0 → Wp d 153 213 ls st w Q)) := Wp.if2n (c := a = nI 0) (off := 127) e153_86 rfl rfl rfl rfl rfl
theorem e153_89 : decode (j_co 153) 89 = .ok (.iload_n 2, 1) := by decide +kernel
set_option maxRecDepth 20000 in
theorem w153_89 {d : Nat} {st : List Value} {Q : Option Value × jW → Prop} {w : jW} {a0 a1 a3 a4 a5 a6 a7 a8 a9 : Option Value} {x : Int32} : Wp d 153 89 [a0, a1, some (.int x), a3, a4, a5, a6, a7, a8, a9] (st) w Q = Wp d 153 90 [a0, a1, some (.int x), a3, a4, a5, a6, a7, a8, a9] (.int x :: st) w Q := Wp.loc e153_89 rfl rfl rfl
theorem e153_90 : decode (j_co 153) 90 = .ok (.ifCond .ne 18, 3) := by decide +kernel
set_option maxRecDepth 20000 in
theorem w153_90 {d : Nat} {st : List Value} {Q : Option Value × jW → Prop} {ls : jL} {w : jW} {a : Int32} : Wp d 153 90 ls (.int a :: st) w Q = ((a = nI 0 → Wp d 153 93 ls st w Q) ∧ (¬ a = nI 0 → Wp d 153 108 ls st w Q)) := Wp.if2n (c := a = nI 0) (off := 18) e153_90 rfl rfl rfl rfl rfl
theorem e153_93 : decode (j_co 153) 93 = .ok (.iload 6, 2) := by decide +kernel
set_option maxRecDepth 20000 in
theorem w153_93 {d : Nat} {st : List Value} {Q : Option Value × jW → Prop} {w : jW} {a0 a1 a2 a3 a4 a5 a7 a8 a9 : Option Value} {x : Int32} : Wp d 153 93 [a0, a1, a2, a3, a4, a5, some (.int x), a7, a8, a9] (st) w Q = Wp d 153 95 [a0, a1, a2, a3, a4, a5, some (.int x), a7, a8, a9] (.int x :: st) w Q := Wp.loc e153_93 rfl rfl rfl
theorem e153_95 : decode (j_co 153) 95 = .ok (.aload_n 0, 1) := by decide +kernel
set_option maxRecDepth 20000 in
theorem w153_95 {d : Nat} {st : List Value} {Q : Option Value × jW → Prop} {w : jW} {a1 a2 a3 a4 a5 a6 a7 a8 a9 : Option Value} {x : Nat} : Wp d 153 95 [some (.ref x), a1, a2, a3, a4, a5, a6, a7, a8, a9] (st) w Q = Wp d 153 96 [some (.ref x), a1, a2, a3, a4, a5, a6, a7, a8, a9] (.ref x :: st) w Q := Wp.loc e153_95 rfl rfl rfl
theorem e153_96 : decode (j_co 153) 96 = .ok (.getfield 13, 3) := by decide +kernel
set_option maxRecDepth 20000 in
theorem w153_96 {d : Nat} {st : List Value} {Q : Option Value × jW → Prop} {ls : jL} {xs : List Value} {I : fI} {L : fL} {o : Nat} (ht : f_tg o = 11) : Wp d 153 96 ls (.ref o :: st) (f_W xs I L) Q = Wp d 153 99 ls (.ref (f_rf o 2) :: st) (f_W xs I L) Q := Wp.getR (ci := 11) (k := 2) e153_96 rfl (by decide) (by decide) rfl ht
theorem e153_99 : decode (j_co 153) 99 = .ok (.iload 7, 2) := by decide +kernel
set_option maxRecDepth 20000 in
theorem w153_99 {d : Nat} {st : List Value} {Q : Option Value × jW → Prop} {w : jW} {a0 a1 a2 a3 a4 a5 a6 a8 a9 : Option Value} {x : Int32} : Wp d 153 99 [a0, a1, a2, a3, a4, a5, a6, some (.int x), a8, a9] (st) w Q = Wp d 153 101 [a0, a1, a2, a3, a4, a5, a6, some (.int x), a8, a9] (.int x :: st) w Q := Wp.loc e153_99 rfl rfl rfl
theorem e153_101 : decode (j_co 153) 101 = .ok (.iconst 1, 1) := by decide +kernel
set_option maxRecDepth 20000 in
theorem w153_101 {d : Nat} {st : List Value} {Q : Option Value × jW → Prop} {ls : jL} {w : jW} : Wp d 153 101 ls (st) w Q = Wp d 153 102 ls (.int (nI 1) :: st) w Q := Wp.alu e153_101 rfl rfl
theorem e153_102 : decode (j_co 153) 102 = .ok (.iadd, 1) := by decide +kernel
set_option maxRecDepth 20000 in
theorem w153_102 {d : Nat} {st : List Value} {Q : Option Value × jW → Prop} {ls : jL} {w : jW} {a b : Int32} : Wp d 153 102 ls (.int b :: .int a :: st) w Q = Wp d 153 103 ls (.int (a + b) :: st) w Q := Wp.alu e153_102 rfl rfl
theorem e153_103 : decode (j_co 153) 103 = .ok (.iaload, 1) := by decide +kernel
set_option maxRecDepth 20000 in
theorem w153_103 {d : Nat} {st : List Value} {Q : Option Value × jW → Prop} {ls : jL} {xs : List Value} {I : fI} {L : fL} {o : Nat} {i : Int32} (ht : f_tg o = 100) (hi : ¬ (i < 0 ∨ f_ln o ≤ i.toNatClampNeg)) : Wp d 153 103 ls (.int i :: .ref o :: st) (f_W xs I L) Q = Wp d 153 104 ls (.int (I o i.toNatClampNeg) :: st) (f_W xs I L) Q := Wp.iald e153_103 ht hi
theorem e153_104 : decode (j_co 153) 104 = .ok (.isub, 1) := by decide +kernel
set_option maxRecDepth 20000 in
theorem w153_104 {d : Nat} {st : List Value} {Q : Option Value × jW → Prop} {ls : jL} {w : jW} {a b : Int32} : Wp d 153 104 ls (.int b :: .int a :: st) w Q = Wp d 153 105 ls (.int (a - b) :: st) w Q := Wp.alu e153_104 rfl rfl
theorem e153_105 : decode (j_co 153) 105 = .ok (.goto 5, 3) := by decide +kernel
set_option maxRecDepth 20000 in
theorem w153_105 {d : Nat} {st : List Value} {Q : Option Value × jW → Prop} {ls : jL} {w : jW} : Wp d 153 105 ls (st) w Q = Wp d 153 110 ls (st) w Q := Wp.br e153_105 (Or.inl rfl) rfl rfl rfl rfl
theorem e153_108 : decode (j_co 153) 108 = .ok (.iload 6, 2) := by decide +kernel
set_option maxRecDepth 20000 in
theorem w153_108 {d : Nat} {st : List Value} {Q : Option Value × jW → Prop} {w : jW} {a0 a1 a2 a3 a4 a5 a7 a8 a9 : Option Value} {x : Int32} : Wp d 153 108 [a0, a1, a2, a3, a4, a5, some (.int x), a7, a8, a9] (st) w Q = Wp d 153 110 [a0, a1, a2, a3, a4, a5, some (.int x), a7, a8, a9] (.int x :: st) w Q := Wp.loc e153_108 rfl rfl rfl
theorem e153_110 : decode (j_co 153) 110 = .ok (.istore 8, 2) := by decide +kernel
set_option maxRecDepth 20000 in
theorem w153_110 {d : Nat} {st : List Value} {Q : Option Value × jW → Prop} {w : jW} {a0 a1 a2 a3 a4 a5 a6 a7 a8 a9 : Option Value} {x : Int32} (h : j_cp a7) : Wp d 153 110 [a0, a1, a2, a3, a4, a5, a6, a7, a8, a9] (.int x :: st) w Q = Wp d 153 112 [a0, a1, a2, a3, a4, a5, a6, a7, some (.int x), a9] (st) w Q := Wp.loc e153_110 rfl rfl (v_stI (ls := [a0, a1, a2, a3, a4, a5, a6, a7, a8, a9]) (k := 8) (show 8 < 10 by decide) h)
theorem e153_112 : decode (j_co 153) 112 = .ok (.iload_n 2, 1) := by decide +kernel
set_option maxRecDepth 20000 in
theorem w153_112 {d : Nat} {st : List Value} {Q : Option Value × jW → Prop} {w : jW} {a0 a1 a3 a4 a5 a6 a7 a8 a9 : Option Value} {x : Int32} : Wp d 153 112 [a0, a1, some (.int x), a3, a4, a5, a6, a7, a8, a9] (st) w Q = Wp d 153 113 [a0, a1, some (.int x), a3, a4, a5, a6, a7, a8, a9] (.int x :: st) w Q := Wp.loc e153_112 rfl rfl rfl
theorem e153_113 : decode (j_co 153) 113 = .ok (.ifCond .ne 16, 3) := by decide +kernel
set_option maxRecDepth 20000 in
theorem w153_113 {d : Nat} {st : List Value} {Q : Option Value × jW → Prop} {ls : jL} {w : jW} {a : Int32} : Wp d 153 113 ls (.int a :: st) w Q = ((a = nI 0 → Wp d 153 116 ls st w Q) ∧ (¬ a = nI 0 → Wp d 153 129 ls st w Q)) := Wp.if2n (c := a = nI 0) (off := 16) e153_113 rfl rfl rfl rfl rfl
theorem e153_116 : decode (j_co 153) 116 = .ok (.iload 6, 2) := by decide +kernel
set_option maxRecDepth 20000 in
theorem w153_116 {d : Nat} {st : List Value} {Q : Option Value × jW → Prop} {w : jW} {a0 a1 a2 a3 a4 a5 a7 a8 a9 : Option Value} {x : Int32} : Wp d 153 116 [a0, a1, a2, a3, a4, a5, some (.int x), a7, a8, a9] (st) w Q = Wp d 153 118 [a0, a1, a2, a3, a4, a5, some (.int x), a7, a8, a9] (.int x :: st) w Q := Wp.loc e153_116 rfl rfl rfl
theorem e153_118 : decode (j_co 153) 118 = .ok (.aload_n 0, 1) := by decide +kernel
set_option maxRecDepth 20000 in
theorem w153_118 {d : Nat} {st : List Value} {Q : Option Value × jW → Prop} {w : jW} {a1 a2 a3 a4 a5 a6 a7 a8 a9 : Option Value} {x : Nat} : Wp d 153 118 [some (.ref x), a1, a2, a3, a4, a5, a6, a7, a8, a9] (st) w Q = Wp d 153 119 [some (.ref x), a1, a2, a3, a4, a5, a6, a7, a8, a9] (.ref x :: st) w Q := Wp.loc e153_118 rfl rfl rfl
theorem e153_119 : decode (j_co 153) 119 = .ok (.getfield 13, 3) := by decide +kernel
set_option maxRecDepth 20000 in
theorem w153_119 {d : Nat} {st : List Value} {Q : Option Value × jW → Prop} {ls : jL} {xs : List Value} {I : fI} {L : fL} {o : Nat} (ht : f_tg o = 11) : Wp d 153 119 ls (.ref o :: st) (f_W xs I L) Q = Wp d 153 122 ls (.ref (f_rf o 2) :: st) (f_W xs I L) Q := Wp.getR (ci := 11) (k := 2) e153_119 rfl (by decide) (by decide) rfl ht
theorem e153_122 : decode (j_co 153) 122 = .ok (.iload 7, 2) := by decide +kernel
set_option maxRecDepth 20000 in
theorem w153_122 {d : Nat} {st : List Value} {Q : Option Value × jW → Prop} {w : jW} {a0 a1 a2 a3 a4 a5 a6 a8 a9 : Option Value} {x : Int32} : Wp d 153 122 [a0, a1, a2, a3, a4, a5, a6, some (.int x), a8, a9] (st) w Q = Wp d 153 124 [a0, a1, a2, a3, a4, a5, a6, some (.int x), a8, a9] (.int x :: st) w Q := Wp.loc e153_122 rfl rfl rfl
theorem e153_124 : decode (j_co 153) 124 = .ok (.iaload, 1) := by decide +kernel
set_option maxRecDepth 20000 in
theorem w153_124 {d : Nat} {st : List Value} {Q : Option Value × jW → Prop} {ls : jL} {xs : List Value} {I : fI} {L : fL} {o : Nat} {i : Int32} (ht : f_tg o = 100) (hi : ¬ (i < 0 ∨ f_ln o ≤ i.toNatClampNeg)) : Wp d 153 124 ls (.int i :: .ref o :: st) (f_W xs I L) Q = Wp d 153 125 ls (.int (I o i.toNatClampNeg) :: st) (f_W xs I L) Q := Wp.iald e153_124 ht hi
theorem e153_125 : decode (j_co 153) 125 = .ok (.isub, 1) := by decide +kernel
set_option maxRecDepth 20000 in
theorem w153_125 {d : Nat} {st : List Value} {Q : Option Value × jW → Prop} {ls : jL} {w : jW} {a b : Int32} : Wp d 153 125 ls (.int b :: .int a :: st) w Q = Wp d 153 126 ls (.int (a - b) :: st) w Q := Wp.alu e153_125 rfl rfl
theorem e153_126 : decode (j_co 153) 126 = .ok (.goto 5, 3) := by decide +kernel
set_option maxRecDepth 20000 in
theorem w153_126 {d : Nat} {st : List Value} {Q : Option Value × jW → Prop} {ls : jL} {w : jW} : Wp d 153 126 ls (st) w Q = Wp d 153 131 ls (st) w Q := Wp.br e153_126 (Or.inl rfl) rfl rfl rfl rfl
theorem e153_129 : decode (j_co 153) 129 = .ok (.iload 6, 2) := by decide +kernel
set_option maxRecDepth 20000 in
theorem w153_129 {d : Nat} {st : List Value} {Q : Option Value × jW → Prop} {w : jW} {a0 a1 a2 a3 a4 a5 a7 a8 a9 : Option Value} {x : Int32} : Wp d 153 129 [a0, a1, a2, a3, a4, a5, some (.int x), a7, a8, a9] (st) w Q = Wp d 153 131 [a0, a1, a2, a3, a4, a5, some (.int x), a7, a8, a9] (.int x :: st) w Q := Wp.loc e153_129 rfl rfl rfl
theorem e153_131 : decode (j_co 153) 131 = .ok (.istore 9, 2) := by decide +kernel
set_option maxRecDepth 20000 in
theorem w153_131 {d : Nat} {st : List Value} {Q : Option Value × jW → Prop} {w : jW} {a0 a1 a2 a3 a4 a5 a6 a7 a8 a9 : Option Value} {x : Int32} (h : j_cp a8) : Wp d 153 131 [a0, a1, a2, a3, a4, a5, a6, a7, a8, a9] (.int x :: st) w Q = Wp d 153 133 [a0, a1, a2, a3, a4, a5, a6, a7, a8, some (.int x)] (st) w Q := Wp.loc e153_131 rfl rfl (v_stI (ls := [a0, a1, a2, a3, a4, a5, a6, a7, a8, a9]) (k := 9) (show 9 < 10 by decide) h)
theorem e153_133 : decode (j_co 153) 133 = .ok (.aload_n 0, 1) := by decide +kernel
set_option maxRecDepth 20000 in
theorem w153_133 {d : Nat} {st : List Value} {Q : Option Value × jW → Prop} {w : jW} {a1 a2 a3 a4 a5 a6 a7 a8 a9 : Option Value} {x : Nat} : Wp d 153 133 [some (.ref x), a1, a2, a3, a4, a5, a6, a7, a8, a9] (st) w Q = Wp d 153 134 [some (.ref x), a1, a2, a3, a4, a5, a6, a7, a8, a9] (.ref x :: st) w Q := Wp.loc e153_133 rfl rfl rfl
theorem e153_134 : decode (j_co 153) 134 = .ok (.getfield 48, 3) := by decide +kernel
set_option maxRecDepth 20000 in
theorem w153_134 {d : Nat} {st : List Value} {Q : Option Value × jW → Prop} {ls : jL} {xs : List Value} {I : fI} {L : fL} {o : Nat} (ht : f_tg o = 11) : Wp d 153 134 ls (.ref o :: st) (f_W xs I L) Q = Wp d 153 137 ls (.ref (f_rf o 15) :: st) (f_W xs I L) Q := Wp.getR (ci := 11) (k := 15) e153_134 rfl (by decide) (by decide) rfl ht
theorem e153_137 : decode (j_co 153) 137 = .ok (.iconst 2, 1) := by decide +kernel
set_option maxRecDepth 20000 in
theorem w153_137 {d : Nat} {st : List Value} {Q : Option Value × jW → Prop} {ls : jL} {w : jW} : Wp d 153 137 ls (st) w Q = Wp d 153 138 ls (.int (nI 2) :: st) w Q := Wp.alu e153_137 rfl rfl
theorem e153_138 : decode (j_co 153) 138 = .ok (.iload 5, 2) := by decide +kernel
set_option maxRecDepth 20000 in
theorem w153_138 {d : Nat} {st : List Value} {Q : Option Value × jW → Prop} {w : jW} {a0 a1 a2 a3 a4 a6 a7 a8 a9 : Option Value} {x : Int32} : Wp d 153 138 [a0, a1, a2, a3, a4, some (.int x), a6, a7, a8, a9] (st) w Q = Wp d 153 140 [a0, a1, a2, a3, a4, some (.int x), a6, a7, a8, a9] (.int x :: st) w Q := Wp.loc e153_138 rfl rfl rfl
theorem e153_140 : decode (j_co 153) 140 = .ok (.imul, 1) := by decide +kernel
set_option maxRecDepth 20000 in
theorem w153_140 {d : Nat} {st : List Value} {Q : Option Value × jW → Prop} {ls : jL} {w : jW} {a b : Int32} : Wp d 153 140 ls (.int b :: .int a :: st) w Q = Wp d 153 141 ls (.int (a * b) :: st) w Q := Wp.alu e153_140 rfl rfl
theorem e153_141 : decode (j_co 153) 141 = .ok (.iload 8, 2) := by decide +kernel
set_option maxRecDepth 20000 in
theorem w153_141 {d : Nat} {st : List Value} {Q : Option Value × jW → Prop} {w : jW} {a0 a1 a2 a3 a4 a5 a6 a7 a9 : Option Value} {x : Int32} : Wp d 153 141 [a0, a1, a2, a3, a4, a5, a6, a7, some (.int x), a9] (st) w Q = Wp d 153 143 [a0, a1, a2, a3, a4, a5, a6, a7, some (.int x), a9] (.int x :: st) w Q := Wp.loc e153_141 rfl rfl rfl
theorem e153_143 : decode (j_co 153) 143 = .ok (.aload_n 0, 1) := by decide +kernel
set_option maxRecDepth 20000 in
theorem w153_143 {d : Nat} {st : List Value} {Q : Option Value × jW → Prop} {w : jW} {a1 a2 a3 a4 a5 a6 a7 a8 a9 : Option Value} {x : Nat} : Wp d 153 143 [some (.ref x), a1, a2, a3, a4, a5, a6, a7, a8, a9] (st) w Q = Wp d 153 144 [some (.ref x), a1, a2, a3, a4, a5, a6, a7, a8, a9] (.ref x :: st) w Q := Wp.loc e153_143 rfl rfl rfl
theorem e153_144 : decode (j_co 153) 144 = .ok (.getfield 48, 3) := by decide +kernel
set_option maxRecDepth 20000 in
theorem w153_144 {d : Nat} {st : List Value} {Q : Option Value × jW → Prop} {ls : jL} {xs : List Value} {I : fI} {L : fL} {o : Nat} (ht : f_tg o = 11) : Wp d 153 144 ls (.ref o :: st) (f_W xs I L) Q = Wp d 153 147 ls (.ref (f_rf o 15) :: st) (f_W xs I L) Q := Wp.getR (ci := 11) (k := 15) e153_144 rfl (by decide) (by decide) rfl ht
theorem e153_147 : decode (j_co 153) 147 = .ok (.iconst 2, 1) := by decide +kernel
set_option maxRecDepth 20000 in
theorem w153_147 {d : Nat} {st : List Value} {Q : Option Value × jW → Prop} {ls : jL} {w : jW} : Wp d 153 147 ls (st) w Q = Wp d 153 148 ls (.int (nI 2) :: st) w Q := Wp.alu e153_147 rfl rfl
theorem e153_148 : decode (j_co 153) 148 = .ok (.iload 5, 2) := by decide +kernel
set_option maxRecDepth 20000 in
theorem w153_148 {d : Nat} {st : List Value} {Q : Option Value × jW → Prop} {w : jW} {a0 a1 a2 a3 a4 a6 a7 a8 a9 : Option Value} {x : Int32} : Wp d 153 148 [a0, a1, a2, a3, a4, some (.int x), a6, a7, a8, a9] (st) w Q = Wp d 153 150 [a0, a1, a2, a3, a4, some (.int x), a6, a7, a8, a9] (.int x :: st) w Q := Wp.loc e153_148 rfl rfl rfl
theorem e153_150 : decode (j_co 153) 150 = .ok (.imul, 1) := by decide +kernel
set_option maxRecDepth 20000 in
theorem w153_150 {d : Nat} {st : List Value} {Q : Option Value × jW → Prop} {ls : jL} {w : jW} {a b : Int32} : Wp d 153 150 ls (.int b :: .int a :: st) w Q = Wp d 153 151 ls (.int (a * b) :: st) w Q := Wp.alu e153_150 rfl rfl
theorem e153_151 : decode (j_co 153) 151 = .ok (.iaload, 1) := by decide +kernel
set_option maxRecDepth 20000 in
theorem w153_151 {d : Nat} {st : List Value} {Q : Option Value × jW → Prop} {ls : jL} {xs : List Value} {I : fI} {L : fL} {o : Nat} {i : Int32} (ht : f_tg o = 100) (hi : ¬ (i < 0 ∨ f_ln o ≤ i.toNatClampNeg)) : Wp d 153 151 ls (.int i :: .ref o :: st) (f_W xs I L) Q = Wp d 153 152 ls (.int (I o i.toNatClampNeg) :: st) (f_W xs I L) Q := Wp.iald e153_151 ht hi
theorem e153_152 : decode (j_co 153) 152 = .ok (.if_icmp .le 8, 3) := by decide +kernel
set_option maxRecDepth 20000 in
theorem w153_152 {d : Nat} {st : List Value} {Q : Option Value × jW → Prop} {ls : jL} {w : jW} {a b : Int32} : Wp d 153 152 ls (.int b :: .int a :: st) w Q = ((a ≤ b → Wp d 153 160 ls st w Q) ∧ (¬ a ≤ b → Wp d 153 155 ls st w Q)) := Wp.if2 (c := a ≤ b) (off := 8) e153_152 rfl rfl rfl rfl rfl
theorem e153_155 : decode (j_co 153) 155 = .ok (.iload 8, 2) := by decide +kernel
set_option maxRecDepth 20000 in
theorem w153_155 {d : Nat} {st : List Value} {Q : Option Value × jW → Prop} {w : jW} {a0 a1 a2 a3 a4 a5 a6 a7 a9 : Option Value} {x : Int32} : Wp d 153 155 [a0, a1, a2, a3, a4, a5, a6, a7, some (.int x), a9] (st) w Q = Wp d 153 157 [a0, a1, a2, a3, a4, a5, a6, a7, some (.int x), a9] (.int x :: st) w Q := Wp.loc e153_155 rfl rfl rfl
theorem e153_157 : decode (j_co 153) 157 = .ok (.goto 12, 3) := by decide +kernel
set_option maxRecDepth 20000 in
theorem w153_157 {d : Nat} {st : List Value} {Q : Option Value × jW → Prop} {ls : jL} {w : jW} : Wp d 153 157 ls (st) w Q = Wp d 153 169 ls (st) w Q := Wp.br e153_157 (Or.inl rfl) rfl rfl rfl rfl
theorem e153_160 : decode (j_co 153) 160 = .ok (.aload_n 0, 1) := by decide +kernel
set_option maxRecDepth 20000 in
theorem w153_160 {d : Nat} {st : List Value} {Q : Option Value × jW → Prop} {w : jW} {a1 a2 a3 a4 a5 a6 a7 a8 a9 : Option Value} {x : Nat} : Wp d 153 160 [some (.ref x), a1, a2, a3, a4, a5, a6, a7, a8, a9] (st) w Q = Wp d 153 161 [some (.ref x), a1, a2, a3, a4, a5, a6, a7, a8, a9] (.ref x :: st) w Q := Wp.loc e153_160 rfl rfl rfl
theorem e153_161 : decode (j_co 153) 161 = .ok (.getfield 48, 3) := by decide +kernel
set_option maxRecDepth 20000 in
theorem w153_161 {d : Nat} {st : List Value} {Q : Option Value × jW → Prop} {ls : jL} {xs : List Value} {I : fI} {L : fL} {o : Nat} (ht : f_tg o = 11) : Wp d 153 161 ls (.ref o :: st) (f_W xs I L) Q = Wp d 153 164 ls (.ref (f_rf o 15) :: st) (f_W xs I L) Q := Wp.getR (ci := 11) (k := 15) e153_161 rfl (by decide) (by decide) rfl ht
theorem e153_164 : decode (j_co 153) 164 = .ok (.iconst 2, 1) := by decide +kernel
set_option maxRecDepth 20000 in
theorem w153_164 {d : Nat} {st : List Value} {Q : Option Value × jW → Prop} {ls : jL} {w : jW} : Wp d 153 164 ls (st) w Q = Wp d 153 165 ls (.int (nI 2) :: st) w Q := Wp.alu e153_164 rfl rfl
theorem e153_165 : decode (j_co 153) 165 = .ok (.iload 5, 2) := by decide +kernel
set_option maxRecDepth 20000 in
theorem w153_165 {d : Nat} {st : List Value} {Q : Option Value × jW → Prop} {w : jW} {a0 a1 a2 a3 a4 a6 a7 a8 a9 : Option Value} {x : Int32} : Wp d 153 165 [a0, a1, a2, a3, a4, some (.int x), a6, a7, a8, a9] (st) w Q = Wp d 153 167 [a0, a1, a2, a3, a4, some (.int x), a6, a7, a8, a9] (.int x :: st) w Q := Wp.loc e153_165 rfl rfl rfl
theorem e153_167 : decode (j_co 153) 167 = .ok (.imul, 1) := by decide +kernel
set_option maxRecDepth 20000 in
theorem w153_167 {d : Nat} {st : List Value} {Q : Option Value × jW → Prop} {ls : jL} {w : jW} {a b : Int32} : Wp d 153 167 ls (.int b :: .int a :: st) w Q = Wp d 153 168 ls (.int (a * b) :: st) w Q := Wp.alu e153_167 rfl rfl
theorem e153_168 : decode (j_co 153) 168 = .ok (.iaload, 1) := by decide +kernel
set_option maxRecDepth 20000 in
theorem w153_168 {d : Nat} {st : List Value} {Q : Option Value × jW → Prop} {ls : jL} {xs : List Value} {I : fI} {L : fL} {o : Nat} {i : Int32} (ht : f_tg o = 100) (hi : ¬ (i < 0 ∨ f_ln o ≤ i.toNatClampNeg)) : Wp d 153 168 ls (.int i :: .ref o :: st) (f_W xs I L) Q = Wp d 153 169 ls (.int (I o i.toNatClampNeg) :: st) (f_W xs I L) Q := Wp.iald e153_168 ht hi
theorem e153_169 : decode (j_co 153) 169 = .ok (.iastore, 1) := by decide +kernel
set_option maxRecDepth 20000 in
theorem w153_169 {d : Nat} {st : List Value} {Q : Option Value × jW → Prop} {ls : jL} {xs : List Value} {I : fI} {L : fL} {o : Nat} {i x : Int32} (ht : f_tg o = 100) (hi : ¬ (i < 0 ∨ f_ln o ≤ i.toNatClampNeg)) : Wp d 153 169 ls (.int x :: .int i :: .ref o :: st) (f_W xs I L) Q = Wp d 153 170 ls (st) (f_W xs (f_up I o i.toNatClampNeg x) L) Q := Wp.iast e153_169 ht hi
theorem e153_170 : decode (j_co 153) 170 = .ok (.aload_n 0, 1) := by decide +kernel
set_option maxRecDepth 20000 in
theorem w153_170 {d : Nat} {st : List Value} {Q : Option Value × jW → Prop} {w : jW} {a1 a2 a3 a4 a5 a6 a7 a8 a9 : Option Value} {x : Nat} : Wp d 153 170 [some (.ref x), a1, a2, a3, a4, a5, a6, a7, a8, a9] (st) w Q = Wp d 153 171 [some (.ref x), a1, a2, a3, a4, a5, a6, a7, a8, a9] (.ref x :: st) w Q := Wp.loc e153_170 rfl rfl rfl
theorem e153_171 : decode (j_co 153) 171 = .ok (.getfield 48, 3) := by decide +kernel
set_option maxRecDepth 20000 in
theorem w153_171 {d : Nat} {st : List Value} {Q : Option Value × jW → Prop} {ls : jL} {xs : List Value} {I : fI} {L : fL} {o : Nat} (ht : f_tg o = 11) : Wp d 153 171 ls (.ref o :: st) (f_W xs I L) Q = Wp d 153 174 ls (.ref (f_rf o 15) :: st) (f_W xs I L) Q := Wp.getR (ci := 11) (k := 15) e153_171 rfl (by decide) (by decide) rfl ht
theorem e153_174 : decode (j_co 153) 174 = .ok (.iconst 2, 1) := by decide +kernel
set_option maxRecDepth 20000 in
theorem w153_174 {d : Nat} {st : List Value} {Q : Option Value × jW → Prop} {ls : jL} {w : jW} : Wp d 153 174 ls (st) w Q = Wp d 153 175 ls (.int (nI 2) :: st) w Q := Wp.alu e153_174 rfl rfl
theorem e153_175 : decode (j_co 153) 175 = .ok (.iload 5, 2) := by decide +kernel
set_option maxRecDepth 20000 in
theorem w153_175 {d : Nat} {st : List Value} {Q : Option Value × jW → Prop} {w : jW} {a0 a1 a2 a3 a4 a6 a7 a8 a9 : Option Value} {x : Int32} : Wp d 153 175 [a0, a1, a2, a3, a4, some (.int x), a6, a7, a8, a9] (st) w Q = Wp d 153 177 [a0, a1, a2, a3, a4, some (.int x), a6, a7, a8, a9] (.int x :: st) w Q := Wp.loc e153_175 rfl rfl rfl
theorem e153_177 : decode (j_co 153) 177 = .ok (.imul, 1) := by decide +kernel
set_option maxRecDepth 20000 in
theorem w153_177 {d : Nat} {st : List Value} {Q : Option Value × jW → Prop} {ls : jL} {w : jW} {a b : Int32} : Wp d 153 177 ls (.int b :: .int a :: st) w Q = Wp d 153 178 ls (.int (a * b) :: st) w Q := Wp.alu e153_177 rfl rfl
theorem e153_178 : decode (j_co 153) 178 = .ok (.iconst 1, 1) := by decide +kernel
set_option maxRecDepth 20000 in
theorem w153_178 {d : Nat} {st : List Value} {Q : Option Value × jW → Prop} {ls : jL} {w : jW} : Wp d 153 178 ls (st) w Q = Wp d 153 179 ls (.int (nI 1) :: st) w Q := Wp.alu e153_178 rfl rfl
theorem e153_179 : decode (j_co 153) 179 = .ok (.iadd, 1) := by decide +kernel
set_option maxRecDepth 20000 in
theorem w153_179 {d : Nat} {st : List Value} {Q : Option Value × jW → Prop} {ls : jL} {w : jW} {a b : Int32} : Wp d 153 179 ls (.int b :: .int a :: st) w Q = Wp d 153 180 ls (.int (a + b) :: st) w Q := Wp.alu e153_179 rfl rfl
theorem e153_180 : decode (j_co 153) 180 = .ok (.iload 9, 2) := by decide +kernel
set_option maxRecDepth 20000 in
theorem w153_180 {d : Nat} {st : List Value} {Q : Option Value × jW → Prop} {w : jW} {a0 a1 a2 a3 a4 a5 a6 a7 a8 : Option Value} {x : Int32} : Wp d 153 180 [a0, a1, a2, a3, a4, a5, a6, a7, a8, some (.int x)] (st) w Q = Wp d 153 182 [a0, a1, a2, a3, a4, a5, a6, a7, a8, some (.int x)] (.int x :: st) w Q := Wp.loc e153_180 rfl rfl rfl
theorem e153_182 : decode (j_co 153) 182 = .ok (.aload_n 0, 1) := by decide +kernel
set_option maxRecDepth 20000 in
theorem w153_182 {d : Nat} {st : List Value} {Q : Option Value × jW → Prop} {w : jW} {a1 a2 a3 a4 a5 a6 a7 a8 a9 : Option Value} {x : Nat} : Wp d 153 182 [some (.ref x), a1, a2, a3, a4, a5, a6, a7, a8, a9] (st) w Q = Wp d 153 183 [some (.ref x), a1, a2, a3, a4, a5, a6, a7, a8, a9] (.ref x :: st) w Q := Wp.loc e153_182 rfl rfl rfl
theorem e153_183 : decode (j_co 153) 183 = .ok (.getfield 48, 3) := by decide +kernel
set_option maxRecDepth 20000 in
theorem w153_183 {d : Nat} {st : List Value} {Q : Option Value × jW → Prop} {ls : jL} {xs : List Value} {I : fI} {L : fL} {o : Nat} (ht : f_tg o = 11) : Wp d 153 183 ls (.ref o :: st) (f_W xs I L) Q = Wp d 153 186 ls (.ref (f_rf o 15) :: st) (f_W xs I L) Q := Wp.getR (ci := 11) (k := 15) e153_183 rfl (by decide) (by decide) rfl ht
theorem e153_186 : decode (j_co 153) 186 = .ok (.iconst 2, 1) := by decide +kernel
set_option maxRecDepth 20000 in
theorem w153_186 {d : Nat} {st : List Value} {Q : Option Value × jW → Prop} {ls : jL} {w : jW} : Wp d 153 186 ls (st) w Q = Wp d 153 187 ls (.int (nI 2) :: st) w Q := Wp.alu e153_186 rfl rfl
theorem e153_187 : decode (j_co 153) 187 = .ok (.iload 5, 2) := by decide +kernel
set_option maxRecDepth 20000 in
theorem w153_187 {d : Nat} {st : List Value} {Q : Option Value × jW → Prop} {w : jW} {a0 a1 a2 a3 a4 a6 a7 a8 a9 : Option Value} {x : Int32} : Wp d 153 187 [a0, a1, a2, a3, a4, some (.int x), a6, a7, a8, a9] (st) w Q = Wp d 153 189 [a0, a1, a2, a3, a4, some (.int x), a6, a7, a8, a9] (.int x :: st) w Q := Wp.loc e153_187 rfl rfl rfl
theorem e153_189 : decode (j_co 153) 189 = .ok (.imul, 1) := by decide +kernel
set_option maxRecDepth 20000 in
theorem w153_189 {d : Nat} {st : List Value} {Q : Option Value × jW → Prop} {ls : jL} {w : jW} {a b : Int32} : Wp d 153 189 ls (.int b :: .int a :: st) w Q = Wp d 153 190 ls (.int (a * b) :: st) w Q := Wp.alu e153_189 rfl rfl
theorem e153_190 : decode (j_co 153) 190 = .ok (.iconst 1, 1) := by decide +kernel
set_option maxRecDepth 20000 in
theorem w153_190 {d : Nat} {st : List Value} {Q : Option Value × jW → Prop} {ls : jL} {w : jW} : Wp d 153 190 ls (st) w Q = Wp d 153 191 ls (.int (nI 1) :: st) w Q := Wp.alu e153_190 rfl rfl
theorem e153_191 : decode (j_co 153) 191 = .ok (.iadd, 1) := by decide +kernel
set_option maxRecDepth 20000 in
theorem w153_191 {d : Nat} {st : List Value} {Q : Option Value × jW → Prop} {ls : jL} {w : jW} {a b : Int32} : Wp d 153 191 ls (.int b :: .int a :: st) w Q = Wp d 153 192 ls (.int (a + b) :: st) w Q := Wp.alu e153_191 rfl rfl
theorem e153_192 : decode (j_co 153) 192 = .ok (.iaload, 1) := by decide +kernel
set_option maxRecDepth 20000 in
theorem w153_192 {d : Nat} {st : List Value} {Q : Option Value × jW → Prop} {ls : jL} {xs : List Value} {I : fI} {L : fL} {o : Nat} {i : Int32} (ht : f_tg o = 100) (hi : ¬ (i < 0 ∨ f_ln o ≤ i.toNatClampNeg)) : Wp d 153 192 ls (.int i :: .ref o :: st) (f_W xs I L) Q = Wp d 153 193 ls (.int (I o i.toNatClampNeg) :: st) (f_W xs I L) Q := Wp.iald e153_192 ht hi
theorem e153_193 : decode (j_co 153) 193 = .ok (.if_icmp .ge 8, 3) := by decide +kernel
set_option maxRecDepth 20000 in
theorem w153_193 {d : Nat} {st : List Value} {Q : Option Value × jW → Prop} {ls : jL} {w : jW} {a b : Int32} : Wp d 153 193 ls (.int b :: .int a :: st) w Q = ((b ≤ a → Wp d 153 201 ls st w Q) ∧ (¬ b ≤ a → Wp d 153 196 ls st w Q)) := Wp.if2 (c := b ≤ a) (off := 8) e153_193 rfl rfl rfl rfl rfl
theorem e153_196 : decode (j_co 153) 196 = .ok (.iload 9, 2) := by decide +kernel
set_option maxRecDepth 20000 in
theorem w153_196 {d : Nat} {st : List Value} {Q : Option Value × jW → Prop} {w : jW} {a0 a1 a2 a3 a4 a5 a6 a7 a8 : Option Value} {x : Int32} : Wp d 153 196 [a0, a1, a2, a3, a4, a5, a6, a7, a8, some (.int x)] (st) w Q = Wp d 153 198 [a0, a1, a2, a3, a4, a5, a6, a7, a8, some (.int x)] (.int x :: st) w Q := Wp.loc e153_196 rfl rfl rfl
theorem e153_198 : decode (j_co 153) 198 = .ok (.goto 14, 3) := by decide +kernel
set_option maxRecDepth 20000 in
theorem w153_198 {d : Nat} {st : List Value} {Q : Option Value × jW → Prop} {ls : jL} {w : jW} : Wp d 153 198 ls (st) w Q = Wp d 153 212 ls (st) w Q := Wp.br e153_198 (Or.inl rfl) rfl rfl rfl rfl
theorem e153_201 : decode (j_co 153) 201 = .ok (.aload_n 0, 1) := by decide +kernel
set_option maxRecDepth 20000 in
theorem w153_201 {d : Nat} {st : List Value} {Q : Option Value × jW → Prop} {w : jW} {a1 a2 a3 a4 a5 a6 a7 a8 a9 : Option Value} {x : Nat} : Wp d 153 201 [some (.ref x), a1, a2, a3, a4, a5, a6, a7, a8, a9] (st) w Q = Wp d 153 202 [some (.ref x), a1, a2, a3, a4, a5, a6, a7, a8, a9] (.ref x :: st) w Q := Wp.loc e153_201 rfl rfl rfl
theorem e153_202 : decode (j_co 153) 202 = .ok (.getfield 48, 3) := by decide +kernel
set_option maxRecDepth 20000 in
theorem w153_202 {d : Nat} {st : List Value} {Q : Option Value × jW → Prop} {ls : jL} {xs : List Value} {I : fI} {L : fL} {o : Nat} (ht : f_tg o = 11) : Wp d 153 202 ls (.ref o :: st) (f_W xs I L) Q = Wp d 153 205 ls (.ref (f_rf o 15) :: st) (f_W xs I L) Q := Wp.getR (ci := 11) (k := 15) e153_202 rfl (by decide) (by decide) rfl ht
theorem e153_205 : decode (j_co 153) 205 = .ok (.iconst 2, 1) := by decide +kernel
set_option maxRecDepth 20000 in
theorem w153_205 {d : Nat} {st : List Value} {Q : Option Value × jW → Prop} {ls : jL} {w : jW} : Wp d 153 205 ls (st) w Q = Wp d 153 206 ls (.int (nI 2) :: st) w Q := Wp.alu e153_205 rfl rfl
theorem e153_206 : decode (j_co 153) 206 = .ok (.iload 5, 2) := by decide +kernel
set_option maxRecDepth 20000 in
theorem w153_206 {d : Nat} {st : List Value} {Q : Option Value × jW → Prop} {w : jW} {a0 a1 a2 a3 a4 a6 a7 a8 a9 : Option Value} {x : Int32} : Wp d 153 206 [a0, a1, a2, a3, a4, some (.int x), a6, a7, a8, a9] (st) w Q = Wp d 153 208 [a0, a1, a2, a3, a4, some (.int x), a6, a7, a8, a9] (.int x :: st) w Q := Wp.loc e153_206 rfl rfl rfl
theorem e153_208 : decode (j_co 153) 208 = .ok (.imul, 1) := by decide +kernel
set_option maxRecDepth 20000 in
theorem w153_208 {d : Nat} {st : List Value} {Q : Option Value × jW → Prop} {ls : jL} {w : jW} {a b : Int32} : Wp d 153 208 ls (.int b :: .int a :: st) w Q = Wp d 153 209 ls (.int (a * b) :: st) w Q := Wp.alu e153_208 rfl rfl
theorem e153_209 : decode (j_co 153) 209 = .ok (.iconst 1, 1) := by decide +kernel
set_option maxRecDepth 20000 in
theorem w153_209 {d : Nat} {st : List Value} {Q : Option Value × jW → Prop} {ls : jL} {w : jW} : Wp d 153 209 ls (st) w Q = Wp d 153 210 ls (.int (nI 1) :: st) w Q := Wp.alu e153_209 rfl rfl
theorem e153_210 : decode (j_co 153) 210 = .ok (.iadd, 1) := by decide +kernel
set_option maxRecDepth 20000 in
theorem w153_210 {d : Nat} {st : List Value} {Q : Option Value × jW → Prop} {ls : jL} {w : jW} {a b : Int32} : Wp d 153 210 ls (.int b :: .int a :: st) w Q = Wp d 153 211 ls (.int (a + b) :: st) w Q := Wp.alu e153_210 rfl rfl
theorem e153_211 : decode (j_co 153) 211 = .ok (.iaload, 1) := by decide +kernel
set_option maxRecDepth 20000 in
theorem w153_211 {d : Nat} {st : List Value} {Q : Option Value × jW → Prop} {ls : jL} {xs : List Value} {I : fI} {L : fL} {o : Nat} {i : Int32} (ht : f_tg o = 100) (hi : ¬ (i < 0 ∨ f_ln o ≤ i.toNatClampNeg)) : Wp d 153 211 ls (.int i :: .ref o :: st) (f_W xs I L) Q = Wp d 153 212 ls (.int (I o i.toNatClampNeg) :: st) (f_W xs I L) Q := Wp.iald e153_211 ht hi
theorem e153_212 : decode (j_co 153) 212 = .ok (.iastore, 1) := by decide +kernel
set_option maxRecDepth 20000 in
theorem w153_212 {d : Nat} {st : List Value} {Q : Option Value × jW → Prop} {ls : jL} {xs : List Value} {I : fI} {L : fL} {o : Nat} {i x : Int32} (ht : f_tg o = 100) (hi : ¬ (i < 0 ∨ f_ln o ≤ i.toNatClampNeg)) : Wp d 153 212 ls (.int x :: .int i :: .ref o :: st) (f_W xs I L) Q = Wp d 153 213 ls (st) (f_W xs (f_up I o i.toNatClampNeg x) L) Q := Wp.iast e153_212 ht hi
theorem e153_213 : decode (j_co 153) 213 = .ok (.iinc 5 1, 3) := by decide +kernel
set_option maxRecDepth 20000 in
theorem w153_213 {d : Nat} {st : List Value} {Q : Option Value × jW → Prop} {w : jW} {a0 a1 a2 a3 a4 a6 a7 a8 a9 : Option Value} {x : Int32} (h : j_cp a4) : Wp d 153 213 [a0, a1, a2, a3, a4, some (.int x), a6, a7, a8, a9] (st) w Q = Wp d 153 216 [a0, a1, a2, a3, a4, some (.int (x + nI 1)), a6, a7, a8, a9] (st) w Q := Wp.loc e153_213 rfl rfl (v_inc (ls := [a0, a1, a2, a3, a4, some (.int x), a6, a7, a8, a9]) (k := 5) (n := 1) rfl (show 5 < 10 by decide) h)
theorem e153_216 : decode (j_co 153) 216 = .ok (.goto (-179), 3) := by decide +kernel
set_option maxRecDepth 20000 in
theorem w153_216 {d : Nat} {st : List Value} {Q : Option Value × jW → Prop} {ls : jL} {w : jW} : Wp d 153 216 ls (st) w Q = Wp d 153 37 ls (st) w Q := Wp.br e153_216 (Or.inl rfl) rfl rfl rfl rfl
theorem e153_219 : decode (j_co 153) 219 = .ok (.return_, 1) := by decide +kernel
set_option maxRecDepth 20000 in
theorem w153_219 {d : Nat} {Q : Option Value × jW → Prop} {ls : jL} {w : jW} : Wp d 153 219 ls [] w Q = Q (none, w) := Wp.ret e153_219 rfl
/-! M.shownAt -/
theorem e154_0 : decode (j_co 154) 0 = .ok (.iload_n 2, 1) := by decide +kernel
set_option maxRecDepth 20000 in
theorem w154_0 {d : Nat} {st : List Value} {Q : Option Value × jW → Prop} {w : jW} {a0 a1 a3 : Option Value} {x : Int32} : Wp d 154 0 [a0, a1, some (.int x), a3] (st) w Q = Wp d 154 1 [a0, a1, some (.int x), a3] (.int x :: st) w Q := Wp.loc e154_0 rfl rfl rfl
theorem e154_1 : decode (j_co 154) 1 = .ok (.i2l, 1) := by decide +kernel
set_option maxRecDepth 20000 in
theorem w154_1 {d : Nat} {st : List Value} {Q : Option Value × jW → Prop} {ls : jL} {w : jW} {a : Int32} : Wp d 154 1 ls (.int a :: st) w Q = Wp d 154 2 ls (.long a.toInt64 :: st) w Q := Wp.alu e154_1 rfl rfl
theorem e154_2 : decode (j_co 154) 2 = .ok (.lconst 0, 1) := by decide +kernel
set_option maxRecDepth 20000 in
theorem w154_2 {d : Nat} {st : List Value} {Q : Option Value × jW → Prop} {ls : jL} {w : jW} : Wp d 154 2 ls (st) w Q = Wp d 154 3 ls (.long (lN 0) :: st) w Q := Wp.alu e154_2 rfl rfl
theorem e154_3 : decode (j_co 154) 3 = .ok (.ldc2_w 217, 3) := by decide +kernel
set_option maxRecDepth 20000 in
theorem w154_3 {d : Nat} {st : List Value} {Q : Option Value × jW → Prop} {ls : jL} {w : jW} : Wp d 154 3 ls (st) w Q = Wp d 154 6 ls (.long (lN 4) :: st) w Q := Wp.ldc2 e154_3 rfl
theorem e154_6 : decode (j_co 154) 6 = .ok (.invokestatic 93, 3) := by decide +kernel
set_option maxRecDepth 20000 in
theorem w154_6 {d : Nat} {st : List Value} {Q : Option Value × jW → Prop} {ls : jL} {w : jW} {x0 : Int64} {x1 : Int64} {x2 : Int64} (hs : j_sumc st ≤ 8) : Wp (d + 1) 154 6 ls (.long x2 :: .long x1 :: .long x0 :: st) w Q = Wp d 115 0 [some (.long x0), none, some (.long x1), none, some (.long x2), none] [] w (fun r1 => Wp (d + 1) 154 9 ls (r1.1.toList ++ st) r1.2 Q) := Wp.cs (kd := 1) (y' := 115) (as := [.long x0, .long x1, .long x2]) e154_6 rfl (by decide) (by decide) rfl (show 6 ≤ 6 by decide) hs
theorem e154_9 : decode (j_co 154) 9 = .ok (.ifCond .ne 6, 3) := by decide +kernel
set_option maxRecDepth 20000 in
theorem w154_9 {d : Nat} {st : List Value} {Q : Option Value × jW → Prop} {ls : jL} {w : jW} {a : Int32} : Wp d 154 9 ls (.int a :: st) w Q = ((a = nI 0 → Wp d 154 12 ls st w Q) ∧ (¬ a = nI 0 → Wp d 154 15 ls st w Q)) := Wp.if2n (c := a = nI 0) (off := 6) e154_9 rfl rfl rfl rfl rfl
theorem e154_12 : decode (j_co 154) 12 = .ok (.bipush (-100), 2) := by decide +kernel
set_option maxRecDepth 20000 in
theorem w154_12 {d : Nat} {st : List Value} {Q : Option Value × jW → Prop} {ls : jL} {w : jW} : Wp d 154 12 ls (st) w Q = Wp d 154 14 ls (.int (-100) :: st) w Q := Wp.alu e154_12 rfl rfl
theorem e154_14 : decode (j_co 154) 14 = .ok (.ireturn, 1) := by decide +kernel
set_option maxRecDepth 20000 in
theorem w154_14 {d : Nat} {Q : Option Value × jW → Prop} {ls : jL} {w : jW} {x : Int32} : Wp d 154 14 ls [.int x] w Q = Q (some (.int x), w) := Wp.ret e154_14 rfl
theorem e154_15 : decode (j_co 154) 15 = .ok (.aload_n 0, 1) := by decide +kernel
set_option maxRecDepth 20000 in
theorem w154_15 {d : Nat} {st : List Value} {Q : Option Value × jW → Prop} {w : jW} {a1 a2 a3 : Option Value} {x : Nat} : Wp d 154 15 [some (.ref x), a1, a2, a3] (st) w Q = Wp d 154 16 [some (.ref x), a1, a2, a3] (.ref x :: st) w Q := Wp.loc e154_15 rfl rfl rfl
theorem e154_16 : decode (j_co 154) 16 = .ok (.invokevirtual 214, 3) := by decide +kernel
set_option maxRecDepth 20000 in
theorem w154_16 {d : Nat} {st : List Value} {Q : Option Value × jW → Prop} {ls : jL} {xs : List Value} {I : fI} {L : fL} {r : Nat} (hs : j_sumc st ≤ 8) (ht : f_tg r = 11) : Wp (d + 1) 154 16 ls (.ref r :: st) (f_W xs I L) Q = Wp d 152 0 [some (.ref r), none, none, none] [] (f_W xs I L) (fun r1 => Wp (d + 1) 154 19 ls (r1.1.toList ++ st) r1.2 Q) := Wp.cv (y' := 152) (as := []) e154_16 rfl (by decide) rfl (show 1 ≤ 4 by decide) (by decide) hs ht
theorem e154_19 : decode (j_co 154) 19 = .ok (.ifCond .ne 6, 3) := by decide +kernel
set_option maxRecDepth 20000 in
theorem w154_19 {d : Nat} {st : List Value} {Q : Option Value × jW → Prop} {ls : jL} {w : jW} {a : Int32} : Wp d 154 19 ls (.int a :: st) w Q = ((a = nI 0 → Wp d 154 22 ls st w Q) ∧ (¬ a = nI 0 → Wp d 154 25 ls st w Q)) := Wp.if2n (c := a = nI 0) (off := 6) e154_19 rfl rfl rfl rfl rfl
theorem e154_22 : decode (j_co 154) 22 = .ok (.bipush (-102), 2) := by decide +kernel
set_option maxRecDepth 20000 in
theorem w154_22 {d : Nat} {st : List Value} {Q : Option Value × jW → Prop} {ls : jL} {w : jW} : Wp d 154 22 ls (st) w Q = Wp d 154 24 ls (.int (-102) :: st) w Q := Wp.alu e154_22 rfl rfl
theorem e154_24 : decode (j_co 154) 24 = .ok (.ireturn, 1) := by decide +kernel
set_option maxRecDepth 20000 in
theorem w154_24 {d : Nat} {Q : Option Value × jW → Prop} {ls : jL} {w : jW} {x : Int32} : Wp d 154 24 ls [.int x] w Q = Q (some (.int x), w) := Wp.ret e154_24 rfl
theorem e154_25 : decode (j_co 154) 25 = .ok (.iload_n 1, 1) := by decide +kernel
set_option maxRecDepth 20000 in
theorem w154_25 {d : Nat} {st : List Value} {Q : Option Value × jW → Prop} {w : jW} {a0 a2 a3 : Option Value} {x : Int32} : Wp d 154 25 [a0, some (.int x), a2, a3] (st) w Q = Wp d 154 26 [a0, some (.int x), a2, a3] (.int x :: st) w Q := Wp.loc e154_25 rfl rfl rfl
theorem e154_26 : decode (j_co 154) 26 = .ok (.i2l, 1) := by decide +kernel
set_option maxRecDepth 20000 in
theorem w154_26 {d : Nat} {st : List Value} {Q : Option Value × jW → Prop} {ls : jL} {w : jW} {a : Int32} : Wp d 154 26 ls (.int a :: st) w Q = Wp d 154 27 ls (.long a.toInt64 :: st) w Q := Wp.alu e154_26 rfl rfl
theorem e154_27 : decode (j_co 154) 27 = .ok (.lconst 0, 1) := by decide +kernel
set_option maxRecDepth 20000 in
theorem w154_27 {d : Nat} {st : List Value} {Q : Option Value × jW → Prop} {ls : jL} {w : jW} : Wp d 154 27 ls (st) w Q = Wp d 154 28 ls (.long (lN 0) :: st) w Q := Wp.alu e154_27 rfl rfl
theorem e154_28 : decode (j_co 154) 28 = .ok (.aload_n 0, 1) := by decide +kernel
set_option maxRecDepth 20000 in
theorem w154_28 {d : Nat} {st : List Value} {Q : Option Value × jW → Prop} {w : jW} {a1 a2 a3 : Option Value} {x : Nat} : Wp d 154 28 [some (.ref x), a1, a2, a3] (st) w Q = Wp d 154 29 [some (.ref x), a1, a2, a3] (.ref x :: st) w Q := Wp.loc e154_28 rfl rfl rfl
theorem e154_29 : decode (j_co 154) 29 = .ok (.getfield 208, 3) := by decide +kernel
set_option maxRecDepth 20000 in
theorem w154_29 {d : Nat} {st : List Value} {Q : Option Value × jW → Prop} {ls : jL} {xs : List Value} {I : fI} {L : fL} {o : Nat} (ht : f_tg o = 11) : Wp d 154 29 ls (.ref o :: st) (f_W xs I L) Q = Wp d 154 32 ls (.int (I o 27) :: st) (f_W xs I L) Q := Wp.getI (ci := 11) (k := 27) e154_29 rfl (by decide) (by decide) (by decide) ht
theorem e154_32 : decode (j_co 154) 32 = .ok (.iconst 1, 1) := by decide +kernel
set_option maxRecDepth 20000 in
theorem w154_32 {d : Nat} {st : List Value} {Q : Option Value × jW → Prop} {ls : jL} {w : jW} : Wp d 154 32 ls (st) w Q = Wp d 154 33 ls (.int (nI 1) :: st) w Q := Wp.alu e154_32 rfl rfl
theorem e154_33 : decode (j_co 154) 33 = .ok (.isub, 1) := by decide +kernel
set_option maxRecDepth 20000 in
theorem w154_33 {d : Nat} {st : List Value} {Q : Option Value × jW → Prop} {ls : jL} {w : jW} {a b : Int32} : Wp d 154 33 ls (.int b :: .int a :: st) w Q = Wp d 154 34 ls (.int (a - b) :: st) w Q := Wp.alu e154_33 rfl rfl
theorem e154_34 : decode (j_co 154) 34 = .ok (.i2l, 1) := by decide +kernel
set_option maxRecDepth 20000 in
theorem w154_34 {d : Nat} {st : List Value} {Q : Option Value × jW → Prop} {ls : jL} {w : jW} {a : Int32} : Wp d 154 34 ls (.int a :: st) w Q = Wp d 154 35 ls (.long a.toInt64 :: st) w Q := Wp.alu e154_34 rfl rfl
theorem e154_35 : decode (j_co 154) 35 = .ok (.invokestatic 93, 3) := by decide +kernel
set_option maxRecDepth 20000 in
theorem w154_35 {d : Nat} {st : List Value} {Q : Option Value × jW → Prop} {ls : jL} {w : jW} {x0 : Int64} {x1 : Int64} {x2 : Int64} (hs : j_sumc st ≤ 8) : Wp (d + 1) 154 35 ls (.long x2 :: .long x1 :: .long x0 :: st) w Q = Wp d 115 0 [some (.long x0), none, some (.long x1), none, some (.long x2), none] [] w (fun r1 => Wp (d + 1) 154 38 ls (r1.1.toList ++ st) r1.2 Q) := Wp.cs (kd := 1) (y' := 115) (as := [.long x0, .long x1, .long x2]) e154_35 rfl (by decide) (by decide) rfl (show 6 ≤ 6 by decide) hs
theorem e154_38 : decode (j_co 154) 38 = .ok (.ifCond .ne 6, 3) := by decide +kernel
set_option maxRecDepth 20000 in
theorem w154_38 {d : Nat} {st : List Value} {Q : Option Value × jW → Prop} {ls : jL} {w : jW} {a : Int32} : Wp d 154 38 ls (.int a :: st) w Q = ((a = nI 0 → Wp d 154 41 ls st w Q) ∧ (¬ a = nI 0 → Wp d 154 44 ls st w Q)) := Wp.if2n (c := a = nI 0) (off := 6) e154_38 rfl rfl rfl rfl rfl
theorem e154_41 : decode (j_co 154) 41 = .ok (.bipush (-100), 2) := by decide +kernel
set_option maxRecDepth 20000 in
theorem w154_41 {d : Nat} {st : List Value} {Q : Option Value × jW → Prop} {ls : jL} {w : jW} : Wp d 154 41 ls (st) w Q = Wp d 154 43 ls (.int (-100) :: st) w Q := Wp.alu e154_41 rfl rfl
theorem e154_43 : decode (j_co 154) 43 = .ok (.ireturn, 1) := by decide +kernel
set_option maxRecDepth 20000 in
theorem w154_43 {d : Nat} {Q : Option Value × jW → Prop} {ls : jL} {w : jW} {x : Int32} : Wp d 154 43 ls [.int x] w Q = Q (some (.int x), w) := Wp.ret e154_43 rfl
theorem e154_44 : decode (j_co 154) 44 = .ok (.aload_n 0, 1) := by decide +kernel
set_option maxRecDepth 20000 in
theorem w154_44 {d : Nat} {st : List Value} {Q : Option Value × jW → Prop} {w : jW} {a1 a2 a3 : Option Value} {x : Nat} : Wp d 154 44 [some (.ref x), a1, a2, a3] (st) w Q = Wp d 154 45 [some (.ref x), a1, a2, a3] (.ref x :: st) w Q := Wp.loc e154_44 rfl rfl rfl
theorem e154_45 : decode (j_co 154) 45 = .ok (.getfield 208, 3) := by decide +kernel
set_option maxRecDepth 20000 in
theorem w154_45 {d : Nat} {st : List Value} {Q : Option Value × jW → Prop} {ls : jL} {xs : List Value} {I : fI} {L : fL} {o : Nat} (ht : f_tg o = 11) : Wp d 154 45 ls (.ref o :: st) (f_W xs I L) Q = Wp d 154 48 ls (.int (I o 27) :: st) (f_W xs I L) Q := Wp.getI (ci := 11) (k := 27) e154_45 rfl (by decide) (by decide) (by decide) ht
theorem e154_48 : decode (j_co 154) 48 = .ok (.iconst 1, 1) := by decide +kernel
set_option maxRecDepth 20000 in
theorem w154_48 {d : Nat} {st : List Value} {Q : Option Value × jW → Prop} {ls : jL} {w : jW} : Wp d 154 48 ls (st) w Q = Wp d 154 49 ls (.int (nI 1) :: st) w Q := Wp.alu e154_48 rfl rfl
theorem e154_49 : decode (j_co 154) 49 = .ok (.isub, 1) := by decide +kernel
set_option maxRecDepth 20000 in
theorem w154_49 {d : Nat} {st : List Value} {Q : Option Value × jW → Prop} {ls : jL} {w : jW} {a b : Int32} : Wp d 154 49 ls (.int b :: .int a :: st) w Q = Wp d 154 50 ls (.int (a - b) :: st) w Q := Wp.alu e154_49 rfl rfl
theorem e154_50 : decode (j_co 154) 50 = .ok (.iload_n 1, 1) := by decide +kernel
set_option maxRecDepth 20000 in
theorem w154_50 {d : Nat} {st : List Value} {Q : Option Value × jW → Prop} {w : jW} {a0 a2 a3 : Option Value} {x : Int32} : Wp d 154 50 [a0, some (.int x), a2, a3] (st) w Q = Wp d 154 51 [a0, some (.int x), a2, a3] (.int x :: st) w Q := Wp.loc e154_50 rfl rfl rfl
theorem e154_51 : decode (j_co 154) 51 = .ok (.isub, 1) := by decide +kernel
set_option maxRecDepth 20000 in
theorem w154_51 {d : Nat} {st : List Value} {Q : Option Value × jW → Prop} {ls : jL} {w : jW} {a b : Int32} : Wp d 154 51 ls (.int b :: .int a :: st) w Q = Wp d 154 52 ls (.int (a - b) :: st) w Q := Wp.alu e154_51 rfl rfl
theorem e154_52 : decode (j_co 154) 52 = .ok (.istore_n 3, 1) := by decide +kernel
set_option maxRecDepth 20000 in
theorem w154_52 {d : Nat} {st : List Value} {Q : Option Value × jW → Prop} {w : jW} {a0 a1 a2 a3 : Option Value} {x : Int32} (h : j_cp a2) : Wp d 154 52 [a0, a1, a2, a3] (.int x :: st) w Q = Wp d 154 53 [a0, a1, a2, some (.int x)] (st) w Q := Wp.loc e154_52 rfl rfl (v_stI (ls := [a0, a1, a2, a3]) (k := 3) (show 3 < 4 by decide) h)
theorem e154_53 : decode (j_co 154) 53 = .ok (.iload_n 2, 1) := by decide +kernel
set_option maxRecDepth 20000 in
theorem w154_53 {d : Nat} {st : List Value} {Q : Option Value × jW → Prop} {w : jW} {a0 a1 a3 : Option Value} {x : Int32} : Wp d 154 53 [a0, a1, some (.int x), a3] (st) w Q = Wp d 154 54 [a0, a1, some (.int x), a3] (.int x :: st) w Q := Wp.loc e154_53 rfl rfl rfl
theorem e154_54 : decode (j_co 154) 54 = .ok (.iconst 4, 1) := by decide +kernel
set_option maxRecDepth 20000 in
theorem w154_54 {d : Nat} {st : List Value} {Q : Option Value × jW → Prop} {ls : jL} {w : jW} : Wp d 154 54 ls (st) w Q = Wp d 154 55 ls (.int (nI 4) :: st) w Q := Wp.alu e154_54 rfl rfl
theorem e154_55 : decode (j_co 154) 55 = .ok (.if_icmp .ne 12, 3) := by decide +kernel
set_option maxRecDepth 20000 in
theorem w154_55 {d : Nat} {st : List Value} {Q : Option Value × jW → Prop} {ls : jL} {w : jW} {a b : Int32} : Wp d 154 55 ls (.int b :: .int a :: st) w Q = ((a = b → Wp d 154 58 ls st w Q) ∧ (¬ a = b → Wp d 154 67 ls st w Q)) := Wp.if2n (c := a = b) (off := 12) e154_55 rfl rfl rfl rfl rfl
theorem e154_58 : decode (j_co 154) 58 = .ok (.aload_n 0, 1) := by decide +kernel
set_option maxRecDepth 20000 in
theorem w154_58 {d : Nat} {st : List Value} {Q : Option Value × jW → Prop} {w : jW} {a1 a2 a3 : Option Value} {x : Nat} : Wp d 154 58 [some (.ref x), a1, a2, a3] (st) w Q = Wp d 154 59 [some (.ref x), a1, a2, a3] (.ref x :: st) w Q := Wp.loc e154_58 rfl rfl rfl
theorem e154_59 : decode (j_co 154) 59 = .ok (.getfield 75, 3) := by decide +kernel
set_option maxRecDepth 20000 in
theorem w154_59 {d : Nat} {st : List Value} {Q : Option Value × jW → Prop} {ls : jL} {xs : List Value} {I : fI} {L : fL} {o : Nat} (ht : f_tg o = 11) : Wp d 154 59 ls (.ref o :: st) (f_W xs I L) Q = Wp d 154 62 ls (.ref (f_rf o 29) :: st) (f_W xs I L) Q := Wp.getR (ci := 11) (k := 29) e154_59 rfl (by decide) (by decide) rfl ht
theorem e154_62 : decode (j_co 154) 62 = .ok (.iload_n 3, 1) := by decide +kernel
set_option maxRecDepth 20000 in
theorem w154_62 {d : Nat} {st : List Value} {Q : Option Value × jW → Prop} {w : jW} {a0 a1 a2 : Option Value} {x : Int32} : Wp d 154 62 [a0, a1, a2, some (.int x)] (st) w Q = Wp d 154 63 [a0, a1, a2, some (.int x)] (.int x :: st) w Q := Wp.loc e154_62 rfl rfl rfl
theorem e154_63 : decode (j_co 154) 63 = .ok (.iaload, 1) := by decide +kernel
set_option maxRecDepth 20000 in
theorem w154_63 {d : Nat} {st : List Value} {Q : Option Value × jW → Prop} {ls : jL} {xs : List Value} {I : fI} {L : fL} {o : Nat} {i : Int32} (ht : f_tg o = 100) (hi : ¬ (i < 0 ∨ f_ln o ≤ i.toNatClampNeg)) : Wp d 154 63 ls (.int i :: .ref o :: st) (f_W xs I L) Q = Wp d 154 64 ls (.int (I o i.toNatClampNeg) :: st) (f_W xs I L) Q := Wp.iald e154_63 ht hi
theorem e154_64 : decode (j_co 154) 64 = .ok (.goto 13, 3) := by decide +kernel
set_option maxRecDepth 20000 in
theorem w154_64 {d : Nat} {st : List Value} {Q : Option Value × jW → Prop} {ls : jL} {w : jW} : Wp d 154 64 ls (st) w Q = Wp d 154 77 ls (st) w Q := Wp.br e154_64 (Or.inl rfl) rfl rfl rfl rfl
theorem e154_67 : decode (j_co 154) 67 = .ok (.aload_n 0, 1) := by decide +kernel
set_option maxRecDepth 20000 in
theorem w154_67 {d : Nat} {st : List Value} {Q : Option Value × jW → Prop} {w : jW} {a1 a2 a3 : Option Value} {x : Nat} : Wp d 154 67 [some (.ref x), a1, a2, a3] (st) w Q = Wp d 154 68 [some (.ref x), a1, a2, a3] (.ref x :: st) w Q := Wp.loc e154_67 rfl rfl rfl
theorem e154_68 : decode (j_co 154) 68 = .ok (.getfield 72, 3) := by decide +kernel
set_option maxRecDepth 20000 in
theorem w154_68 {d : Nat} {st : List Value} {Q : Option Value × jW → Prop} {ls : jL} {xs : List Value} {I : fI} {L : fL} {o : Nat} (ht : f_tg o = 11) : Wp d 154 68 ls (.ref o :: st) (f_W xs I L) Q = Wp d 154 71 ls (.ref (f_rf o 28) :: st) (f_W xs I L) Q := Wp.getR (ci := 11) (k := 28) e154_68 rfl (by decide) (by decide) rfl ht
theorem e154_71 : decode (j_co 154) 71 = .ok (.iconst 4, 1) := by decide +kernel
set_option maxRecDepth 20000 in
theorem w154_71 {d : Nat} {st : List Value} {Q : Option Value × jW → Prop} {ls : jL} {w : jW} : Wp d 154 71 ls (st) w Q = Wp d 154 72 ls (.int (nI 4) :: st) w Q := Wp.alu e154_71 rfl rfl
theorem e154_72 : decode (j_co 154) 72 = .ok (.iload_n 3, 1) := by decide +kernel
set_option maxRecDepth 20000 in
theorem w154_72 {d : Nat} {st : List Value} {Q : Option Value × jW → Prop} {w : jW} {a0 a1 a2 : Option Value} {x : Int32} : Wp d 154 72 [a0, a1, a2, some (.int x)] (st) w Q = Wp d 154 73 [a0, a1, a2, some (.int x)] (.int x :: st) w Q := Wp.loc e154_72 rfl rfl rfl
theorem e154_73 : decode (j_co 154) 73 = .ok (.imul, 1) := by decide +kernel
set_option maxRecDepth 20000 in
theorem w154_73 {d : Nat} {st : List Value} {Q : Option Value × jW → Prop} {ls : jL} {w : jW} {a b : Int32} : Wp d 154 73 ls (.int b :: .int a :: st) w Q = Wp d 154 74 ls (.int (a * b) :: st) w Q := Wp.alu e154_73 rfl rfl
theorem e154_74 : decode (j_co 154) 74 = .ok (.iload_n 2, 1) := by decide +kernel
set_option maxRecDepth 20000 in
theorem w154_74 {d : Nat} {st : List Value} {Q : Option Value × jW → Prop} {w : jW} {a0 a1 a3 : Option Value} {x : Int32} : Wp d 154 74 [a0, a1, some (.int x), a3] (st) w Q = Wp d 154 75 [a0, a1, some (.int x), a3] (.int x :: st) w Q := Wp.loc e154_74 rfl rfl rfl
theorem e154_75 : decode (j_co 154) 75 = .ok (.iadd, 1) := by decide +kernel
set_option maxRecDepth 20000 in
theorem w154_75 {d : Nat} {st : List Value} {Q : Option Value × jW → Prop} {ls : jL} {w : jW} {a b : Int32} : Wp d 154 75 ls (.int b :: .int a :: st) w Q = Wp d 154 76 ls (.int (a + b) :: st) w Q := Wp.alu e154_75 rfl rfl
theorem e154_76 : decode (j_co 154) 76 = .ok (.iaload, 1) := by decide +kernel
set_option maxRecDepth 20000 in
theorem w154_76 {d : Nat} {st : List Value} {Q : Option Value × jW → Prop} {ls : jL} {xs : List Value} {I : fI} {L : fL} {o : Nat} {i : Int32} (ht : f_tg o = 100) (hi : ¬ (i < 0 ∨ f_ln o ≤ i.toNatClampNeg)) : Wp d 154 76 ls (.int i :: .ref o :: st) (f_W xs I L) Q = Wp d 154 77 ls (.int (I o i.toNatClampNeg) :: st) (f_W xs I L) Q := Wp.iald e154_76 ht hi
theorem e154_77 : decode (j_co 154) 77 = .ok (.ireturn, 1) := by decide +kernel
set_option maxRecDepth 20000 in
theorem w154_77 {d : Nat} {Q : Option Value × jW → Prop} {ls : jL} {w : jW} {x : Int32} : Wp d 154 77 ls [.int x] w Q = Q (some (.int x), w) := Wp.ret e154_77 rfl
/-! M.fence -/
theorem e155_0 : decode (j_co 155) 0 = .ok (.aload_n 0, 1) := by decide +kernel
set_option maxRecDepth 20000 in
theorem w155_0 {d : Nat} {st : List Value} {Q : Option Value × jW → Prop} {w : jW} {a1 a2 a3 a4 : Option Value} {x : Nat} : Wp d 155 0 [some (.ref x), a1, a2, a3, a4] (st) w Q = Wp d 155 1 [some (.ref x), a1, a2, a3, a4] (.ref x :: st) w Q := Wp.loc e155_0 rfl rfl rfl
theorem e155_1 : decode (j_co 155) 1 = .ok (.iload_n 1, 1) := by decide +kernel
set_option maxRecDepth 20000 in
theorem w155_1 {d : Nat} {st : List Value} {Q : Option Value × jW → Prop} {w : jW} {a0 a2 a3 a4 : Option Value} {x : Int32} : Wp d 155 1 [a0, some (.int x), a2, a3, a4] (st) w Q = Wp d 155 2 [a0, some (.int x), a2, a3, a4] (.int x :: st) w Q := Wp.loc e155_1 rfl rfl rfl
theorem e155_2 : decode (j_co 155) 2 = .ok (.invokevirtual 106, 3) := by decide +kernel
set_option maxRecDepth 20000 in
theorem w155_2 {d : Nat} {st : List Value} {Q : Option Value × jW → Prop} {ls : jL} {xs : List Value} {I : fI} {L : fL} {r : Nat} {x0 : Int32} (hs : j_sumc st ≤ 8) (ht : f_tg r = 11) : Wp (d + 1) 155 2 ls (.int x0 :: .ref r :: st) (f_W xs I L) Q = Wp d 114 0 [some (.ref r), some (.int x0)] [] (f_W xs I L) (fun r1 => Wp (d + 1) 155 5 ls (r1.1.toList ++ st) r1.2 Q) := Wp.cv (y' := 114) (as := [.int x0]) e155_2 rfl (by decide) rfl (show 2 ≤ 2 by decide) (by decide) hs ht
theorem e155_5 : decode (j_co 155) 5 = .ok (.ifCond .eq 15, 3) := by decide +kernel
set_option maxRecDepth 20000 in
theorem w155_5 {d : Nat} {st : List Value} {Q : Option Value × jW → Prop} {ls : jL} {w : jW} {a : Int32} : Wp d 155 5 ls (.int a :: st) w Q = ((a = nI 0 → Wp d 155 20 ls st w Q) ∧ (¬ a = nI 0 → Wp d 155 8 ls st w Q)) := Wp.if2 (c := a = nI 0) (off := 15) e155_5 rfl rfl rfl rfl rfl
theorem e155_8 : decode (j_co 155) 8 = .ok (.iload_n 2, 1) := by decide +kernel
set_option maxRecDepth 20000 in
theorem w155_8 {d : Nat} {st : List Value} {Q : Option Value × jW → Prop} {w : jW} {a0 a1 a3 a4 : Option Value} {x : Int32} : Wp d 155 8 [a0, a1, some (.int x), a3, a4] (st) w Q = Wp d 155 9 [a0, a1, some (.int x), a3, a4] (.int x :: st) w Q := Wp.loc e155_8 rfl rfl rfl
theorem e155_9 : decode (j_co 155) 9 = .ok (.iload_n 3, 1) := by decide +kernel
set_option maxRecDepth 20000 in
theorem w155_9 {d : Nat} {st : List Value} {Q : Option Value × jW → Prop} {w : jW} {a0 a1 a2 a4 : Option Value} {x : Int32} : Wp d 155 9 [a0, a1, a2, some (.int x), a4] (st) w Q = Wp d 155 10 [a0, a1, a2, some (.int x), a4] (.int x :: st) w Q := Wp.loc e155_9 rfl rfl rfl
theorem e155_10 : decode (j_co 155) 10 = .ok (.iload 4, 2) := by decide +kernel
set_option maxRecDepth 20000 in
theorem w155_10 {d : Nat} {st : List Value} {Q : Option Value × jW → Prop} {w : jW} {a0 a1 a2 a3 : Option Value} {x : Int32} : Wp d 155 10 [a0, a1, a2, a3, some (.int x)] (st) w Q = Wp d 155 12 [a0, a1, a2, a3, some (.int x)] (.int x :: st) w Q := Wp.loc e155_10 rfl rfl rfl
theorem e155_12 : decode (j_co 155) 12 = .ok (.bipush 20, 2) := by decide +kernel
set_option maxRecDepth 20000 in
theorem w155_12 {d : Nat} {st : List Value} {Q : Option Value × jW → Prop} {ls : jL} {w : jW} : Wp d 155 12 ls (st) w Q = Wp d 155 14 ls (.int (nI 20) :: st) w Q := Wp.alu e155_12 rfl rfl
theorem e155_14 : decode (j_co 155) 14 = .ok (.invokestatic 110, 3) := by decide +kernel
set_option maxRecDepth 20000 in
theorem w155_14 {d : Nat} {st : List Value} {Q : Option Value × jW → Prop} {ls : jL} {w : jW} {x0 : Int32} {x1 : Int32} {x2 : Int32} {x3 : Int32} (hs : j_sumc st ≤ 8) : Wp (d + 1) 155 14 ls (.int x3 :: .int x2 :: .int x1 :: .int x0 :: st) w Q = Wp d 116 0 [some (.int x0), some (.int x1), some (.int x2), some (.int x3)] [] w (fun r1 => Wp (d + 1) 155 17 ls (r1.1.toList ++ st) r1.2 Q) := Wp.cs (kd := 1) (y' := 116) (as := [.int x0, .int x1, .int x2, .int x3]) e155_14 rfl (by decide) (by decide) rfl (show 4 ≤ 4 by decide) hs
theorem e155_17 : decode (j_co 155) 17 = .ok (.ifCond .ne 5, 3) := by decide +kernel
set_option maxRecDepth 20000 in
theorem w155_17 {d : Nat} {st : List Value} {Q : Option Value × jW → Prop} {ls : jL} {w : jW} {a : Int32} : Wp d 155 17 ls (.int a :: st) w Q = ((a = nI 0 → Wp d 155 20 ls st w Q) ∧ (¬ a = nI 0 → Wp d 155 22 ls st w Q)) := Wp.if2n (c := a = nI 0) (off := 5) e155_17 rfl rfl rfl rfl rfl
theorem e155_20 : decode (j_co 155) 20 = .ok (.iconst (-1), 1) := by decide +kernel
set_option maxRecDepth 20000 in
theorem w155_20 {d : Nat} {st : List Value} {Q : Option Value × jW → Prop} {ls : jL} {w : jW} : Wp d 155 20 ls (st) w Q = Wp d 155 21 ls (.int (-1) :: st) w Q := Wp.alu e155_20 rfl rfl
theorem e155_21 : decode (j_co 155) 21 = .ok (.ireturn, 1) := by decide +kernel
set_option maxRecDepth 20000 in
theorem w155_21 {d : Nat} {Q : Option Value × jW → Prop} {ls : jL} {w : jW} {x : Int32} : Wp d 155 21 ls [.int x] w Q = Q (some (.int x), w) := Wp.ret e155_21 rfl
theorem e155_22 : decode (j_co 155) 22 = .ok (.aload_n 0, 1) := by decide +kernel
set_option maxRecDepth 20000 in
theorem w155_22 {d : Nat} {st : List Value} {Q : Option Value × jW → Prop} {w : jW} {a1 a2 a3 a4 : Option Value} {x : Nat} : Wp d 155 22 [some (.ref x), a1, a2, a3, a4] (st) w Q = Wp d 155 23 [some (.ref x), a1, a2, a3, a4] (.ref x :: st) w Q := Wp.loc e155_22 rfl rfl rfl
theorem e155_23 : decode (j_co 155) 23 = .ok (.getfield 42, 3) := by decide +kernel
set_option maxRecDepth 20000 in
theorem w155_23 {d : Nat} {st : List Value} {Q : Option Value × jW → Prop} {ls : jL} {xs : List Value} {I : fI} {L : fL} {o : Nat} (ht : f_tg o = 11) : Wp d 155 23 ls (.ref o :: st) (f_W xs I L) Q = Wp d 155 26 ls (.ref (f_rf o 13) :: st) (f_W xs I L) Q := Wp.getR (ci := 11) (k := 13) e155_23 rfl (by decide) (by decide) rfl ht
theorem e155_26 : decode (j_co 155) 26 = .ok (.iload_n 1, 1) := by decide +kernel
set_option maxRecDepth 20000 in
theorem w155_26 {d : Nat} {st : List Value} {Q : Option Value × jW → Prop} {w : jW} {a0 a2 a3 a4 : Option Value} {x : Int32} : Wp d 155 26 [a0, some (.int x), a2, a3, a4] (st) w Q = Wp d 155 27 [a0, some (.int x), a2, a3, a4] (.int x :: st) w Q := Wp.loc e155_26 rfl rfl rfl
theorem e155_27 : decode (j_co 155) 27 = .ok (.baload, 1) := by decide +kernel
set_option maxRecDepth 20000 in
theorem w155_27 {d : Nat} {st : List Value} {Q : Option Value × jW → Prop} {ls : jL} {xs : List Value} {I : fI} {L : fL} {o : Nat} {i : Int32} (ht : f_tg o = 101) (hi : ¬ (i < 0 ∨ f_ln o ≤ i.toNatClampNeg)) : Wp d 155 27 ls (.int i :: .ref o :: st) (f_W xs I L) Q = Wp d 155 28 ls (.int (I o i.toNatClampNeg) :: st) (f_W xs I L) Q := Wp.zald e155_27 ht hi
theorem e155_28 : decode (j_co 155) 28 = .ok (.ifCond .ne 21, 3) := by decide +kernel
set_option maxRecDepth 20000 in
theorem w155_28 {d : Nat} {st : List Value} {Q : Option Value × jW → Prop} {ls : jL} {w : jW} {a : Int32} : Wp d 155 28 ls (.int a :: st) w Q = ((a = nI 0 → Wp d 155 31 ls st w Q) ∧ (¬ a = nI 0 → Wp d 155 49 ls st w Q)) := Wp.if2n (c := a = nI 0) (off := 21) e155_28 rfl rfl rfl rfl rfl
theorem e155_31 : decode (j_co 155) 31 = .ok (.aload_n 0, 1) := by decide +kernel
set_option maxRecDepth 20000 in
theorem w155_31 {d : Nat} {st : List Value} {Q : Option Value × jW → Prop} {w : jW} {a1 a2 a3 a4 : Option Value} {x : Nat} : Wp d 155 31 [some (.ref x), a1, a2, a3, a4] (st) w Q = Wp d 155 32 [some (.ref x), a1, a2, a3, a4] (.ref x :: st) w Q := Wp.loc e155_31 rfl rfl rfl
theorem e155_32 : decode (j_co 155) 32 = .ok (.getfield 45, 3) := by decide +kernel
set_option maxRecDepth 20000 in
theorem w155_32 {d : Nat} {st : List Value} {Q : Option Value × jW → Prop} {ls : jL} {xs : List Value} {I : fI} {L : fL} {o : Nat} (ht : f_tg o = 11) : Wp d 155 32 ls (.ref o :: st) (f_W xs I L) Q = Wp d 155 35 ls (.ref (f_rf o 14) :: st) (f_W xs I L) Q := Wp.getR (ci := 11) (k := 14) e155_32 rfl (by decide) (by decide) rfl ht
theorem e155_35 : decode (j_co 155) 35 = .ok (.bipush 6, 2) := by decide +kernel
set_option maxRecDepth 20000 in
theorem w155_35 {d : Nat} {st : List Value} {Q : Option Value × jW → Prop} {ls : jL} {w : jW} : Wp d 155 35 ls (st) w Q = Wp d 155 37 ls (.int (nI 6) :: st) w Q := Wp.alu e155_35 rfl rfl
theorem e155_37 : decode (j_co 155) 37 = .ok (.iload_n 1, 1) := by decide +kernel
set_option maxRecDepth 20000 in
theorem w155_37 {d : Nat} {st : List Value} {Q : Option Value × jW → Prop} {w : jW} {a0 a2 a3 a4 : Option Value} {x : Int32} : Wp d 155 37 [a0, some (.int x), a2, a3, a4] (st) w Q = Wp d 155 38 [a0, some (.int x), a2, a3, a4] (.int x :: st) w Q := Wp.loc e155_37 rfl rfl rfl
theorem e155_38 : decode (j_co 155) 38 = .ok (.imul, 1) := by decide +kernel
set_option maxRecDepth 20000 in
theorem w155_38 {d : Nat} {st : List Value} {Q : Option Value × jW → Prop} {ls : jL} {w : jW} {a b : Int32} : Wp d 155 38 ls (.int b :: .int a :: st) w Q = Wp d 155 39 ls (.int (a * b) :: st) w Q := Wp.alu e155_38 rfl rfl
theorem e155_39 : decode (j_co 155) 39 = .ok (.invokestatic 102, 3) := by decide +kernel
set_option maxRecDepth 20000 in
theorem w155_39 {d : Nat} {st : List Value} {Q : Option Value × jW → Prop} {ls : jL} {w : jW} {x0 : Nat} {x1 : Int32} (hs : j_sumc st ≤ 8) : Wp (d + 1) 155 39 ls (.int x1 :: .ref x0 :: st) w Q = Wp d 112 0 [some (.ref x0), some (.int x1), none] [] w (fun r1 => Wp (d + 1) 155 42 ls (r1.1.toList ++ st) r1.2 Q) := Wp.cs (kd := 1) (y' := 112) (as := [.ref x0, .int x1]) e155_39 rfl (by decide) (by decide) rfl (show 2 ≤ 3 by decide) hs
theorem e155_42 : decode (j_co 155) 42 = .ok (.aload_n 0, 1) := by decide +kernel
set_option maxRecDepth 20000 in
theorem w155_42 {d : Nat} {st : List Value} {Q : Option Value × jW → Prop} {w : jW} {a1 a2 a3 a4 : Option Value} {x : Nat} : Wp d 155 42 [some (.ref x), a1, a2, a3, a4] (st) w Q = Wp d 155 43 [some (.ref x), a1, a2, a3, a4] (.ref x :: st) w Q := Wp.loc e155_42 rfl rfl rfl
theorem e155_43 : decode (j_co 155) 43 = .ok (.getfield 42, 3) := by decide +kernel
set_option maxRecDepth 20000 in
theorem w155_43 {d : Nat} {st : List Value} {Q : Option Value × jW → Prop} {ls : jL} {xs : List Value} {I : fI} {L : fL} {o : Nat} (ht : f_tg o = 11) : Wp d 155 43 ls (.ref o :: st) (f_W xs I L) Q = Wp d 155 46 ls (.ref (f_rf o 13) :: st) (f_W xs I L) Q := Wp.getR (ci := 11) (k := 13) e155_43 rfl (by decide) (by decide) rfl ht
theorem e155_46 : decode (j_co 155) 46 = .ok (.iload_n 1, 1) := by decide +kernel
set_option maxRecDepth 20000 in
theorem w155_46 {d : Nat} {st : List Value} {Q : Option Value × jW → Prop} {w : jW} {a0 a2 a3 a4 : Option Value} {x : Int32} : Wp d 155 46 [a0, some (.int x), a2, a3, a4] (st) w Q = Wp d 155 47 [a0, some (.int x), a2, a3, a4] (.int x :: st) w Q := Wp.loc e155_46 rfl rfl rfl
theorem e155_47 : decode (j_co 155) 47 = .ok (.iconst 1, 1) := by decide +kernel
set_option maxRecDepth 20000 in
theorem w155_47 {d : Nat} {st : List Value} {Q : Option Value × jW → Prop} {ls : jL} {w : jW} : Wp d 155 47 ls (st) w Q = Wp d 155 48 ls (.int (nI 1) :: st) w Q := Wp.alu e155_47 rfl rfl
theorem e155_48 : decode (j_co 155) 48 = .ok (.bastore, 1) := by decide +kernel
set_option maxRecDepth 20000 in
theorem w155_48 {d : Nat} {st : List Value} {Q : Option Value × jW → Prop} {ls : jL} {xs : List Value} {I : fI} {L : fL} {o : Nat} {i x : Int32} (ht : f_tg o = 101) (hi : ¬ (i < 0 ∨ f_ln o ≤ i.toNatClampNeg)) (hx : x = 0 ∨ x = 1) : Wp d 155 48 ls (.int x :: .int i :: .ref o :: st) (f_W xs I L) Q = Wp d 155 49 ls (st) (f_W xs (f_up I o i.toNatClampNeg x) L) Q := Wp.zast e155_48 ht hi hx
theorem e155_49 : decode (j_co 155) 49 = .ok (.aload_n 0, 1) := by decide +kernel
set_option maxRecDepth 20000 in
theorem w155_49 {d : Nat} {st : List Value} {Q : Option Value × jW → Prop} {w : jW} {a1 a2 a3 a4 : Option Value} {x : Nat} : Wp d 155 49 [some (.ref x), a1, a2, a3, a4] (st) w Q = Wp d 155 50 [some (.ref x), a1, a2, a3, a4] (.ref x :: st) w Q := Wp.loc e155_49 rfl rfl rfl
theorem e155_50 : decode (j_co 155) 50 = .ok (.getfield 45, 3) := by decide +kernel
set_option maxRecDepth 20000 in
theorem w155_50 {d : Nat} {st : List Value} {Q : Option Value × jW → Prop} {ls : jL} {xs : List Value} {I : fI} {L : fL} {o : Nat} (ht : f_tg o = 11) : Wp d 155 50 ls (.ref o :: st) (f_W xs I L) Q = Wp d 155 53 ls (.ref (f_rf o 14) :: st) (f_W xs I L) Q := Wp.getR (ci := 11) (k := 14) e155_50 rfl (by decide) (by decide) rfl ht
theorem e155_53 : decode (j_co 155) 53 = .ok (.bipush 6, 2) := by decide +kernel
set_option maxRecDepth 20000 in
theorem w155_53 {d : Nat} {st : List Value} {Q : Option Value × jW → Prop} {ls : jL} {w : jW} : Wp d 155 53 ls (st) w Q = Wp d 155 55 ls (.int (nI 6) :: st) w Q := Wp.alu e155_53 rfl rfl
theorem e155_55 : decode (j_co 155) 55 = .ok (.iload_n 1, 1) := by decide +kernel
set_option maxRecDepth 20000 in
theorem w155_55 {d : Nat} {st : List Value} {Q : Option Value × jW → Prop} {w : jW} {a0 a2 a3 a4 : Option Value} {x : Int32} : Wp d 155 55 [a0, some (.int x), a2, a3, a4] (st) w Q = Wp d 155 56 [a0, some (.int x), a2, a3, a4] (.int x :: st) w Q := Wp.loc e155_55 rfl rfl rfl
theorem e155_56 : decode (j_co 155) 56 = .ok (.imul, 1) := by decide +kernel
set_option maxRecDepth 20000 in
theorem w155_56 {d : Nat} {st : List Value} {Q : Option Value × jW → Prop} {ls : jL} {w : jW} {a b : Int32} : Wp d 155 56 ls (.int b :: .int a :: st) w Q = Wp d 155 57 ls (.int (a * b) :: st) w Q := Wp.alu e155_56 rfl rfl
theorem e155_57 : decode (j_co 155) 57 = .ok (.iload_n 2, 1) := by decide +kernel
set_option maxRecDepth 20000 in
theorem w155_57 {d : Nat} {st : List Value} {Q : Option Value × jW → Prop} {w : jW} {a0 a1 a3 a4 : Option Value} {x : Int32} : Wp d 155 57 [a0, a1, some (.int x), a3, a4] (st) w Q = Wp d 155 58 [a0, a1, some (.int x), a3, a4] (.int x :: st) w Q := Wp.loc e155_57 rfl rfl rfl
theorem e155_58 : decode (j_co 155) 58 = .ok (.iload_n 3, 1) := by decide +kernel
set_option maxRecDepth 20000 in
theorem w155_58 {d : Nat} {st : List Value} {Q : Option Value × jW → Prop} {w : jW} {a0 a1 a2 a4 : Option Value} {x : Int32} : Wp d 155 58 [a0, a1, a2, some (.int x), a4] (st) w Q = Wp d 155 59 [a0, a1, a2, some (.int x), a4] (.int x :: st) w Q := Wp.loc e155_58 rfl rfl rfl
theorem e155_59 : decode (j_co 155) 59 = .ok (.iload 4, 2) := by decide +kernel
set_option maxRecDepth 20000 in
theorem w155_59 {d : Nat} {st : List Value} {Q : Option Value × jW → Prop} {w : jW} {a0 a1 a2 a3 : Option Value} {x : Int32} : Wp d 155 59 [a0, a1, a2, a3, some (.int x)] (st) w Q = Wp d 155 61 [a0, a1, a2, a3, some (.int x)] (.int x :: st) w Q := Wp.loc e155_59 rfl rfl rfl
theorem e155_61 : decode (j_co 155) 61 = .ok (.invokestatic 114, 3) := by decide +kernel
set_option maxRecDepth 20000 in
theorem w155_61 {d : Nat} {st : List Value} {Q : Option Value × jW → Prop} {ls : jL} {w : jW} {x0 : Nat} {x1 : Int32} {x2 : Int32} {x3 : Int32} {x4 : Int32} (hs : j_sumc st ≤ 8) : Wp (d + 1) 155 61 ls (.int x4 :: .int x3 :: .int x2 :: .int x1 :: .ref x0 :: st) w Q = Wp d 117 0 [some (.ref x0), some (.int x1), some (.int x2), some (.int x3), some (.int x4)] [] w (fun r1 => Wp (d + 1) 155 64 ls (r1.1.toList ++ st) r1.2 Q) := Wp.cs (kd := 1) (y' := 117) (as := [.ref x0, .int x1, .int x2, .int x3, .int x4]) e155_61 rfl (by decide) (by decide) rfl (show 5 ≤ 5 by decide) hs
theorem e155_64 : decode (j_co 155) 64 = .ok (.ireturn, 1) := by decide +kernel
set_option maxRecDepth 20000 in
theorem w155_64 {d : Nat} {Q : Option Value × jW → Prop} {ls : jL} {w : jW} {x : Int32} : Wp d 155 64 ls [.int x] w Q = Q (some (.int x), w) := Wp.ret e155_64 rfl
/-! M.open -/
theorem e156_0 : decode (j_co 156) 0 = .ok (.iconst 0, 1) := by decide +kernel
set_option maxRecDepth 20000 in
theorem w156_0 {d : Nat} {st : List Value} {Q : Option Value × jW → Prop} {ls : jL} {w : jW} : Wp d 156 0 ls (st) w Q = Wp d 156 1 ls (.int (nI 0) :: st) w Q := Wp.alu e156_0 rfl rfl
theorem e156_1 : decode (j_co 156) 1 = .ok (.istore_n 1, 1) := by decide +kernel
set_option maxRecDepth 20000 in
theorem w156_1 {d : Nat} {st : List Value} {Q : Option Value × jW → Prop} {w : jW} {a0 a1 a2 : Option Value} {x : Int32} (h : j_cp a0) : Wp d 156 1 [a0, a1, a2] (.int x :: st) w Q = Wp d 156 2 [a0, some (.int x), a2] (st) w Q := Wp.loc e156_1 rfl rfl (v_stI (ls := [a0, a1, a2]) (k := 1) (show 1 < 3 by decide) h)
theorem e156_2 : decode (j_co 156) 2 = .ok (.iconst 0, 1) := by decide +kernel
set_option maxRecDepth 20000 in
theorem w156_2 {d : Nat} {st : List Value} {Q : Option Value × jW → Prop} {ls : jL} {w : jW} : Wp d 156 2 ls (st) w Q = Wp d 156 3 ls (.int (nI 0) :: st) w Q := Wp.alu e156_2 rfl rfl
theorem e156_3 : decode (j_co 156) 3 = .ok (.istore_n 2, 1) := by decide +kernel
set_option maxRecDepth 20000 in
theorem w156_3 {d : Nat} {st : List Value} {Q : Option Value × jW → Prop} {w : jW} {a0 a1 a2 : Option Value} {x : Int32} (h : j_cp a1) : Wp d 156 3 [a0, a1, a2] (.int x :: st) w Q = Wp d 156 4 [a0, a1, some (.int x)] (st) w Q := Wp.loc e156_3 rfl rfl (v_stI (ls := [a0, a1, a2]) (k := 2) (show 2 < 3 by decide) h)
theorem e156_4 : decode (j_co 156) 4 = .ok (.iload_n 2, 1) := by decide +kernel
set_option maxRecDepth 20000 in
theorem w156_4 {d : Nat} {st : List Value} {Q : Option Value × jW → Prop} {w : jW} {a0 a1 : Option Value} {x : Int32} : Wp d 156 4 [a0, a1, some (.int x)] (st) w Q = Wp d 156 5 [a0, a1, some (.int x)] (.int x :: st) w Q := Wp.loc e156_4 rfl rfl rfl
theorem e156_5 : decode (j_co 156) 5 = .ok (.bipush 6, 2) := by decide +kernel
set_option maxRecDepth 20000 in
theorem w156_5 {d : Nat} {st : List Value} {Q : Option Value × jW → Prop} {ls : jL} {w : jW} : Wp d 156 5 ls (st) w Q = Wp d 156 7 ls (.int (nI 6) :: st) w Q := Wp.alu e156_5 rfl rfl
theorem e156_7 : decode (j_co 156) 7 = .ok (.if_icmp .ge 33, 3) := by decide +kernel
set_option maxRecDepth 20000 in
theorem w156_7 {d : Nat} {st : List Value} {Q : Option Value × jW → Prop} {ls : jL} {w : jW} {a b : Int32} : Wp d 156 7 ls (.int b :: .int a :: st) w Q = ((b ≤ a → Wp d 156 40 ls st w Q) ∧ (¬ b ≤ a → Wp d 156 10 ls st w Q)) := Wp.if2 (c := b ≤ a) (off := 33) e156_7 rfl rfl rfl rfl rfl
theorem e156_10 : decode (j_co 156) 10 = .ok (.iload_n 1, 1) := by decide +kernel
set_option maxRecDepth 20000 in
theorem w156_10 {d : Nat} {st : List Value} {Q : Option Value × jW → Prop} {w : jW} {a0 a2 : Option Value} {x : Int32} : Wp d 156 10 [a0, some (.int x), a2] (st) w Q = Wp d 156 11 [a0, some (.int x), a2] (.int x :: st) w Q := Wp.loc e156_10 rfl rfl rfl
theorem e156_11 : decode (j_co 156) 11 = .ok (.aload_n 0, 1) := by decide +kernel
set_option maxRecDepth 20000 in
theorem w156_11 {d : Nat} {st : List Value} {Q : Option Value × jW → Prop} {w : jW} {a1 a2 : Option Value} {x : Nat} : Wp d 156 11 [some (.ref x), a1, a2] (st) w Q = Wp d 156 12 [some (.ref x), a1, a2] (.ref x :: st) w Q := Wp.loc e156_11 rfl rfl rfl
theorem e156_12 : decode (j_co 156) 12 = .ok (.getfield 42, 3) := by decide +kernel
set_option maxRecDepth 20000 in
theorem w156_12 {d : Nat} {st : List Value} {Q : Option Value × jW → Prop} {ls : jL} {xs : List Value} {I : fI} {L : fL} {o : Nat} (ht : f_tg o = 11) : Wp d 156 12 ls (.ref o :: st) (f_W xs I L) Q = Wp d 156 15 ls (.ref (f_rf o 13) :: st) (f_W xs I L) Q := Wp.getR (ci := 11) (k := 13) e156_12 rfl (by decide) (by decide) rfl ht
theorem e156_15 : decode (j_co 156) 15 = .ok (.iload_n 2, 1) := by decide +kernel
set_option maxRecDepth 20000 in
theorem w156_15 {d : Nat} {st : List Value} {Q : Option Value × jW → Prop} {w : jW} {a0 a1 : Option Value} {x : Int32} : Wp d 156 15 [a0, a1, some (.int x)] (st) w Q = Wp d 156 16 [a0, a1, some (.int x)] (.int x :: st) w Q := Wp.loc e156_15 rfl rfl rfl
theorem e156_16 : decode (j_co 156) 16 = .ok (.baload, 1) := by decide +kernel
set_option maxRecDepth 20000 in
theorem w156_16 {d : Nat} {st : List Value} {Q : Option Value × jW → Prop} {ls : jL} {xs : List Value} {I : fI} {L : fL} {o : Nat} {i : Int32} (ht : f_tg o = 101) (hi : ¬ (i < 0 ∨ f_ln o ≤ i.toNatClampNeg)) : Wp d 156 16 ls (.int i :: .ref o :: st) (f_W xs I L) Q = Wp d 156 17 ls (.int (I o i.toNatClampNeg) :: st) (f_W xs I L) Q := Wp.zald e156_16 ht hi
theorem e156_17 : decode (j_co 156) 17 = .ok (.ifCond .eq 7, 3) := by decide +kernel
set_option maxRecDepth 20000 in
theorem w156_17 {d : Nat} {st : List Value} {Q : Option Value × jW → Prop} {ls : jL} {w : jW} {a : Int32} : Wp d 156 17 ls (.int a :: st) w Q = ((a = nI 0 → Wp d 156 24 ls st w Q) ∧ (¬ a = nI 0 → Wp d 156 20 ls st w Q)) := Wp.if2 (c := a = nI 0) (off := 7) e156_17 rfl rfl rfl rfl rfl
theorem e156_20 : decode (j_co 156) 20 = .ok (.iconst 1, 1) := by decide +kernel
set_option maxRecDepth 20000 in
theorem w156_20 {d : Nat} {st : List Value} {Q : Option Value × jW → Prop} {ls : jL} {w : jW} : Wp d 156 20 ls (st) w Q = Wp d 156 21 ls (.int (nI 1) :: st) w Q := Wp.alu e156_20 rfl rfl
theorem e156_21 : decode (j_co 156) 21 = .ok (.goto 4, 3) := by decide +kernel
set_option maxRecDepth 20000 in
theorem w156_21 {d : Nat} {st : List Value} {Q : Option Value × jW → Prop} {ls : jL} {w : jW} : Wp d 156 21 ls (st) w Q = Wp d 156 25 ls (st) w Q := Wp.br e156_21 (Or.inl rfl) rfl rfl rfl rfl
theorem e156_24 : decode (j_co 156) 24 = .ok (.iconst 0, 1) := by decide +kernel
set_option maxRecDepth 20000 in
theorem w156_24 {d : Nat} {st : List Value} {Q : Option Value × jW → Prop} {ls : jL} {w : jW} : Wp d 156 24 ls (st) w Q = Wp d 156 25 ls (.int (nI 0) :: st) w Q := Wp.alu e156_24 rfl rfl
theorem e156_25 : decode (j_co 156) 25 = .ok (.iadd, 1) := by decide +kernel
set_option maxRecDepth 20000 in
theorem w156_25 {d : Nat} {st : List Value} {Q : Option Value × jW → Prop} {ls : jL} {w : jW} {a b : Int32} : Wp d 156 25 ls (.int b :: .int a :: st) w Q = Wp d 156 26 ls (.int (a + b) :: st) w Q := Wp.alu e156_25 rfl rfl
theorem e156_26 : decode (j_co 156) 26 = .ok (.istore_n 1, 1) := by decide +kernel
set_option maxRecDepth 20000 in
theorem w156_26 {d : Nat} {st : List Value} {Q : Option Value × jW → Prop} {w : jW} {a0 a1 a2 : Option Value} {x : Int32} (h : j_cp a0) : Wp d 156 26 [a0, a1, a2] (.int x :: st) w Q = Wp d 156 27 [a0, some (.int x), a2] (st) w Q := Wp.loc e156_26 rfl rfl (v_stI (ls := [a0, a1, a2]) (k := 1) (show 1 < 3 by decide) h)
theorem e156_27 : decode (j_co 156) 27 = .ok (.aload_n 0, 1) := by decide +kernel
set_option maxRecDepth 20000 in
theorem w156_27 {d : Nat} {st : List Value} {Q : Option Value × jW → Prop} {w : jW} {a1 a2 : Option Value} {x : Nat} : Wp d 156 27 [some (.ref x), a1, a2] (st) w Q = Wp d 156 28 [some (.ref x), a1, a2] (.ref x :: st) w Q := Wp.loc e156_27 rfl rfl rfl
theorem e156_28 : decode (j_co 156) 28 = .ok (.getfield 42, 3) := by decide +kernel
set_option maxRecDepth 20000 in
theorem w156_28 {d : Nat} {st : List Value} {Q : Option Value × jW → Prop} {ls : jL} {xs : List Value} {I : fI} {L : fL} {o : Nat} (ht : f_tg o = 11) : Wp d 156 28 ls (.ref o :: st) (f_W xs I L) Q = Wp d 156 31 ls (.ref (f_rf o 13) :: st) (f_W xs I L) Q := Wp.getR (ci := 11) (k := 13) e156_28 rfl (by decide) (by decide) rfl ht
theorem e156_31 : decode (j_co 156) 31 = .ok (.iload_n 2, 1) := by decide +kernel
set_option maxRecDepth 20000 in
theorem w156_31 {d : Nat} {st : List Value} {Q : Option Value × jW → Prop} {w : jW} {a0 a1 : Option Value} {x : Int32} : Wp d 156 31 [a0, a1, some (.int x)] (st) w Q = Wp d 156 32 [a0, a1, some (.int x)] (.int x :: st) w Q := Wp.loc e156_31 rfl rfl rfl
theorem e156_32 : decode (j_co 156) 32 = .ok (.iconst 0, 1) := by decide +kernel
set_option maxRecDepth 20000 in
theorem w156_32 {d : Nat} {st : List Value} {Q : Option Value × jW → Prop} {ls : jL} {w : jW} : Wp d 156 32 ls (st) w Q = Wp d 156 33 ls (.int (nI 0) :: st) w Q := Wp.alu e156_32 rfl rfl
theorem e156_33 : decode (j_co 156) 33 = .ok (.bastore, 1) := by decide +kernel
set_option maxRecDepth 20000 in
theorem w156_33 {d : Nat} {st : List Value} {Q : Option Value × jW → Prop} {ls : jL} {xs : List Value} {I : fI} {L : fL} {o : Nat} {i x : Int32} (ht : f_tg o = 101) (hi : ¬ (i < 0 ∨ f_ln o ≤ i.toNatClampNeg)) (hx : x = 0 ∨ x = 1) : Wp d 156 33 ls (.int x :: .int i :: .ref o :: st) (f_W xs I L) Q = Wp d 156 34 ls (st) (f_W xs (f_up I o i.toNatClampNeg x) L) Q := Wp.zast e156_33 ht hi hx
theorem e156_34 : decode (j_co 156) 34 = .ok (.iinc 2 1, 3) := by decide +kernel
set_option maxRecDepth 20000 in
theorem w156_34 {d : Nat} {st : List Value} {Q : Option Value × jW → Prop} {w : jW} {a0 a1 : Option Value} {x : Int32} (h : j_cp a1) : Wp d 156 34 [a0, a1, some (.int x)] (st) w Q = Wp d 156 37 [a0, a1, some (.int (x + nI 1))] (st) w Q := Wp.loc e156_34 rfl rfl (v_inc (ls := [a0, a1, some (.int x)]) (k := 2) (n := 1) rfl (show 2 < 3 by decide) h)
theorem e156_37 : decode (j_co 156) 37 = .ok (.goto (-33), 3) := by decide +kernel
set_option maxRecDepth 20000 in
theorem w156_37 {d : Nat} {st : List Value} {Q : Option Value × jW → Prop} {ls : jL} {w : jW} : Wp d 156 37 ls (st) w Q = Wp d 156 4 ls (st) w Q := Wp.br e156_37 (Or.inl rfl) rfl rfl rfl rfl
theorem e156_40 : decode (j_co 156) 40 = .ok (.iload_n 1, 1) := by decide +kernel
set_option maxRecDepth 20000 in
theorem w156_40 {d : Nat} {st : List Value} {Q : Option Value × jW → Prop} {w : jW} {a0 a2 : Option Value} {x : Int32} : Wp d 156 40 [a0, some (.int x), a2] (st) w Q = Wp d 156 41 [a0, some (.int x), a2] (.int x :: st) w Q := Wp.loc e156_40 rfl rfl rfl
theorem e156_41 : decode (j_co 156) 41 = .ok (.ireturn, 1) := by decide +kernel
set_option maxRecDepth 20000 in
theorem w156_41 {d : Nat} {Q : Option Value × jW → Prop} {ls : jL} {w : jW} {x : Int32} : Wp d 156 41 ls [.int x] w Q = Q (some (.int x), w) := Wp.ret e156_41 rfl
/-! M.holds -/
theorem e157_0 : decode (j_co 157) 0 = .ok (.aload_n 0, 1) := by decide +kernel
set_option maxRecDepth 20000 in
theorem w157_0 {d : Nat} {st : List Value} {Q : Option Value × jW → Prop} {w : jW} {a1 : Option Value} {x : Nat} : Wp d 157 0 [some (.ref x), a1] (st) w Q = Wp d 157 1 [some (.ref x), a1] (.ref x :: st) w Q := Wp.loc e157_0 rfl rfl rfl
theorem e157_1 : decode (j_co 157) 1 = .ok (.invokevirtual 172, 3) := by decide +kernel
set_option maxRecDepth 20000 in
theorem w157_1 {d : Nat} {st : List Value} {Q : Option Value × jW → Prop} {ls : jL} {xs : List Value} {I : fI} {L : fL} {r : Nat} (hs : j_sumc st ≤ 8) (ht : f_tg r = 11) : Wp (d + 1) 157 1 ls (.ref r :: st) (f_W xs I L) Q = Wp d 129 0 [some (.ref r)] [] (f_W xs I L) (fun r1 => Wp (d + 1) 157 4 ls (r1.1.toList ++ st) r1.2 Q) := Wp.cv (y' := 129) (as := []) e157_1 rfl (by decide) rfl (show 1 ≤ 1 by decide) (by decide) hs ht
theorem e157_4 : decode (j_co 157) 4 = .ok (.ifCond .eq 16, 3) := by decide +kernel
set_option maxRecDepth 20000 in
theorem w157_4 {d : Nat} {st : List Value} {Q : Option Value × jW → Prop} {ls : jL} {w : jW} {a : Int32} : Wp d 157 4 ls (.int a :: st) w Q = ((a = nI 0 → Wp d 157 20 ls st w Q) ∧ (¬ a = nI 0 → Wp d 157 7 ls st w Q)) := Wp.if2 (c := a = nI 0) (off := 16) e157_4 rfl rfl rfl rfl rfl
theorem e157_7 : decode (j_co 157) 7 = .ok (.aload_n 0, 1) := by decide +kernel
set_option maxRecDepth 20000 in
theorem w157_7 {d : Nat} {st : List Value} {Q : Option Value × jW → Prop} {w : jW} {a1 : Option Value} {x : Nat} : Wp d 157 7 [some (.ref x), a1] (st) w Q = Wp d 157 8 [some (.ref x), a1] (.ref x :: st) w Q := Wp.loc e157_7 rfl rfl rfl
theorem e157_8 : decode (j_co 157) 8 = .ok (.aload_n 0, 1) := by decide +kernel
set_option maxRecDepth 20000 in
theorem w157_8 {d : Nat} {st : List Value} {Q : Option Value × jW → Prop} {w : jW} {a1 : Option Value} {x : Nat} : Wp d 157 8 [some (.ref x), a1] (st) w Q = Wp d 157 9 [some (.ref x), a1] (.ref x :: st) w Q := Wp.loc e157_8 rfl rfl rfl
theorem e157_9 : decode (j_co 157) 9 = .ok (.getfield 123, 3) := by decide +kernel
set_option maxRecDepth 20000 in
theorem w157_9 {d : Nat} {st : List Value} {Q : Option Value × jW → Prop} {ls : jL} {xs : List Value} {I : fI} {L : fL} {o : Nat} (ht : f_tg o = 11) : Wp d 157 9 ls (.ref o :: st) (f_W xs I L) Q = Wp d 157 12 ls (.int (I o 9) :: st) (f_W xs I L) Q := Wp.getI (ci := 11) (k := 9) e157_9 rfl (by decide) (by decide) (by decide) ht
theorem e157_12 : decode (j_co 157) 12 = .ok (.invokevirtual 219, 3) := by decide +kernel
set_option maxRecDepth 20000 in
theorem w157_12 {d : Nat} {st : List Value} {Q : Option Value × jW → Prop} {ls : jL} {xs : List Value} {I : fI} {L : fL} {r : Nat} {x0 : Int32} (hs : j_sumc st ≤ 8) (ht : f_tg r = 11) : Wp (d + 1) 157 12 ls (.int x0 :: .ref r :: st) (f_W xs I L) Q = Wp d 158 0 [some (.ref r), some (.int x0)] [] (f_W xs I L) (fun r1 => Wp (d + 1) 157 15 ls (r1.1.toList ++ st) r1.2 Q) := Wp.cv (y' := 158) (as := [.int x0]) e157_12 rfl (by decide) rfl (show 2 ≤ 2 by decide) (by decide) hs ht
theorem e157_15 : decode (j_co 157) 15 = .ok (.ifCond .ne 5, 3) := by decide +kernel
set_option maxRecDepth 20000 in
theorem w157_15 {d : Nat} {st : List Value} {Q : Option Value × jW → Prop} {ls : jL} {w : jW} {a : Int32} : Wp d 157 15 ls (.int a :: st) w Q = ((a = nI 0 → Wp d 157 18 ls st w Q) ∧ (¬ a = nI 0 → Wp d 157 20 ls st w Q)) := Wp.if2n (c := a = nI 0) (off := 5) e157_15 rfl rfl rfl rfl rfl
theorem e157_18 : decode (j_co 157) 18 = .ok (.iconst 1, 1) := by decide +kernel
set_option maxRecDepth 20000 in
theorem w157_18 {d : Nat} {st : List Value} {Q : Option Value × jW → Prop} {ls : jL} {w : jW} : Wp d 157 18 ls (st) w Q = Wp d 157 19 ls (.int (nI 1) :: st) w Q := Wp.alu e157_18 rfl rfl
theorem e157_19 : decode (j_co 157) 19 = .ok (.ireturn, 1) := by decide +kernel
set_option maxRecDepth 20000 in
theorem w157_19 {d : Nat} {Q : Option Value × jW → Prop} {ls : jL} {w : jW} {x : Int32} : Wp d 157 19 ls [.int x] w Q = Q (some (.int x), w) := Wp.ret e157_19 rfl
theorem e157_20 : decode (j_co 157) 20 = .ok (.iconst 0, 1) := by decide +kernel
set_option maxRecDepth 20000 in
theorem w157_20 {d : Nat} {st : List Value} {Q : Option Value × jW → Prop} {ls : jL} {w : jW} : Wp d 157 20 ls (st) w Q = Wp d 157 21 ls (.int (nI 0) :: st) w Q := Wp.alu e157_20 rfl rfl
theorem e157_21 : decode (j_co 157) 21 = .ok (.istore_n 1, 1) := by decide +kernel
set_option maxRecDepth 20000 in
theorem w157_21 {d : Nat} {st : List Value} {Q : Option Value × jW → Prop} {w : jW} {a0 a1 : Option Value} {x : Int32} (h : j_cp a0) : Wp d 157 21 [a0, a1] (.int x :: st) w Q = Wp d 157 22 [a0, some (.int x)] (st) w Q := Wp.loc e157_21 rfl rfl (v_stI (ls := [a0, a1]) (k := 1) (show 1 < 2 by decide) h)
theorem e157_22 : decode (j_co 157) 22 = .ok (.iload_n 1, 1) := by decide +kernel
set_option maxRecDepth 20000 in
theorem w157_22 {d : Nat} {st : List Value} {Q : Option Value × jW → Prop} {w : jW} {a0 : Option Value} {x : Int32} : Wp d 157 22 [a0, some (.int x)] (st) w Q = Wp d 157 23 [a0, some (.int x)] (.int x :: st) w Q := Wp.loc e157_22 rfl rfl rfl
theorem e157_23 : decode (j_co 157) 23 = .ok (.aload_n 0, 1) := by decide +kernel
set_option maxRecDepth 20000 in
theorem w157_23 {d : Nat} {st : List Value} {Q : Option Value × jW → Prop} {w : jW} {a1 : Option Value} {x : Nat} : Wp d 157 23 [some (.ref x), a1] (st) w Q = Wp d 157 24 [some (.ref x), a1] (.ref x :: st) w Q := Wp.loc e157_23 rfl rfl rfl
theorem e157_24 : decode (j_co 157) 24 = .ok (.getfield 90, 3) := by decide +kernel
set_option maxRecDepth 20000 in
theorem w157_24 {d : Nat} {st : List Value} {Q : Option Value × jW → Prop} {ls : jL} {xs : List Value} {I : fI} {L : fL} {o : Nat} (ht : f_tg o = 11) : Wp d 157 24 ls (.ref o :: st) (f_W xs I L) Q = Wp d 157 27 ls (.int (I o 0) :: st) (f_W xs I L) Q := Wp.getI (ci := 11) (k := 0) e157_24 rfl (by decide) (by decide) (by decide) ht
theorem e157_27 : decode (j_co 157) 27 = .ok (.if_icmp .ge 48, 3) := by decide +kernel
set_option maxRecDepth 20000 in
theorem w157_27 {d : Nat} {st : List Value} {Q : Option Value × jW → Prop} {ls : jL} {w : jW} {a b : Int32} : Wp d 157 27 ls (.int b :: .int a :: st) w Q = ((b ≤ a → Wp d 157 75 ls st w Q) ∧ (¬ b ≤ a → Wp d 157 30 ls st w Q)) := Wp.if2 (c := b ≤ a) (off := 48) e157_27 rfl rfl rfl rfl rfl
theorem e157_30 : decode (j_co 157) 30 = .ok (.aload_n 0, 1) := by decide +kernel
set_option maxRecDepth 20000 in
theorem w157_30 {d : Nat} {st : List Value} {Q : Option Value × jW → Prop} {w : jW} {a1 : Option Value} {x : Nat} : Wp d 157 30 [some (.ref x), a1] (st) w Q = Wp d 157 31 [some (.ref x), a1] (.ref x :: st) w Q := Wp.loc e157_30 rfl rfl rfl
theorem e157_31 : decode (j_co 157) 31 = .ok (.getfield 42, 3) := by decide +kernel
set_option maxRecDepth 20000 in
theorem w157_31 {d : Nat} {st : List Value} {Q : Option Value × jW → Prop} {ls : jL} {xs : List Value} {I : fI} {L : fL} {o : Nat} (ht : f_tg o = 11) : Wp d 157 31 ls (.ref o :: st) (f_W xs I L) Q = Wp d 157 34 ls (.ref (f_rf o 13) :: st) (f_W xs I L) Q := Wp.getR (ci := 11) (k := 13) e157_31 rfl (by decide) (by decide) rfl ht
theorem e157_34 : decode (j_co 157) 34 = .ok (.iload_n 1, 1) := by decide +kernel
set_option maxRecDepth 20000 in
theorem w157_34 {d : Nat} {st : List Value} {Q : Option Value × jW → Prop} {w : jW} {a0 : Option Value} {x : Int32} : Wp d 157 34 [a0, some (.int x)] (st) w Q = Wp d 157 35 [a0, some (.int x)] (.int x :: st) w Q := Wp.loc e157_34 rfl rfl rfl
theorem e157_35 : decode (j_co 157) 35 = .ok (.baload, 1) := by decide +kernel
set_option maxRecDepth 20000 in
theorem w157_35 {d : Nat} {st : List Value} {Q : Option Value × jW → Prop} {ls : jL} {xs : List Value} {I : fI} {L : fL} {o : Nat} {i : Int32} (ht : f_tg o = 101) (hi : ¬ (i < 0 ∨ f_ln o ≤ i.toNatClampNeg)) : Wp d 157 35 ls (.int i :: .ref o :: st) (f_W xs I L) Q = Wp d 157 36 ls (.int (I o i.toNatClampNeg) :: st) (f_W xs I L) Q := Wp.zald e157_35 ht hi
theorem e157_36 : decode (j_co 157) 36 = .ok (.ifCond .eq 33, 3) := by decide +kernel
set_option maxRecDepth 20000 in
theorem w157_36 {d : Nat} {st : List Value} {Q : Option Value × jW → Prop} {ls : jL} {w : jW} {a : Int32} : Wp d 157 36 ls (.int a :: st) w Q = ((a = nI 0 → Wp d 157 69 ls st w Q) ∧ (¬ a = nI 0 → Wp d 157 39 ls st w Q)) := Wp.if2 (c := a = nI 0) (off := 33) e157_36 rfl rfl rfl rfl rfl
theorem e157_39 : decode (j_co 157) 39 = .ok (.aload_n 0, 1) := by decide +kernel
set_option maxRecDepth 20000 in
theorem w157_39 {d : Nat} {st : List Value} {Q : Option Value × jW → Prop} {w : jW} {a1 : Option Value} {x : Nat} : Wp d 157 39 [some (.ref x), a1] (st) w Q = Wp d 157 40 [some (.ref x), a1] (.ref x :: st) w Q := Wp.loc e157_39 rfl rfl rfl
theorem e157_40 : decode (j_co 157) 40 = .ok (.iload_n 1, 1) := by decide +kernel
set_option maxRecDepth 20000 in
theorem w157_40 {d : Nat} {st : List Value} {Q : Option Value × jW → Prop} {w : jW} {a0 : Option Value} {x : Int32} : Wp d 157 40 [a0, some (.int x)] (st) w Q = Wp d 157 41 [a0, some (.int x)] (.int x :: st) w Q := Wp.loc e157_40 rfl rfl rfl
theorem e157_41 : decode (j_co 157) 41 = .ok (.invokevirtual 222, 3) := by decide +kernel
set_option maxRecDepth 20000 in
theorem w157_41 {d : Nat} {st : List Value} {Q : Option Value × jW → Prop} {ls : jL} {xs : List Value} {I : fI} {L : fL} {r : Nat} {x0 : Int32} (hs : j_sumc st ≤ 8) (ht : f_tg r = 11) : Wp (d + 1) 157 41 ls (.int x0 :: .ref r :: st) (f_W xs I L) Q = Wp d 159 0 [some (.ref r), some (.int x0)] [] (f_W xs I L) (fun r1 => Wp (d + 1) 157 44 ls (r1.1.toList ++ st) r1.2 Q) := Wp.cv (y' := 159) (as := [.int x0]) e157_41 rfl (by decide) rfl (show 2 ≤ 2 by decide) (by decide) hs ht
theorem e157_44 : decode (j_co 157) 44 = .ok (.aload_n 0, 1) := by decide +kernel
set_option maxRecDepth 20000 in
theorem w157_44 {d : Nat} {st : List Value} {Q : Option Value × jW → Prop} {w : jW} {a1 : Option Value} {x : Nat} : Wp d 157 44 [some (.ref x), a1] (st) w Q = Wp d 157 45 [some (.ref x), a1] (.ref x :: st) w Q := Wp.loc e157_44 rfl rfl rfl
theorem e157_45 : decode (j_co 157) 45 = .ok (.invokevirtual 131, 3) := by decide +kernel
set_option maxRecDepth 20000 in
theorem w157_45 {d : Nat} {st : List Value} {Q : Option Value × jW → Prop} {ls : jL} {xs : List Value} {I : fI} {L : fL} {r : Nat} (hs : j_sumc st ≤ 8) (ht : f_tg r = 11) : Wp (d + 1) 157 45 ls (.ref r :: st) (f_W xs I L) Q = Wp d 132 0 [some (.ref r)] [] (f_W xs I L) (fun r1 => Wp (d + 1) 157 48 ls (r1.1.toList ++ st) r1.2 Q) := Wp.cv (y' := 132) (as := []) e157_45 rfl (by decide) rfl (show 1 ≤ 1 by decide) (by decide) hs ht
theorem e157_48 : decode (j_co 157) 48 = .ok (.ifCond .ne 21, 3) := by decide +kernel
set_option maxRecDepth 20000 in
theorem w157_48 {d : Nat} {st : List Value} {Q : Option Value × jW → Prop} {ls : jL} {w : jW} {a : Int32} : Wp d 157 48 ls (.int a :: st) w Q = ((a = nI 0 → Wp d 157 51 ls st w Q) ∧ (¬ a = nI 0 → Wp d 157 69 ls st w Q)) := Wp.if2n (c := a = nI 0) (off := 21) e157_48 rfl rfl rfl rfl rfl
theorem e157_51 : decode (j_co 157) 51 = .ok (.aload_n 0, 1) := by decide +kernel
set_option maxRecDepth 20000 in
theorem w157_51 {d : Nat} {st : List Value} {Q : Option Value × jW → Prop} {w : jW} {a1 : Option Value} {x : Nat} : Wp d 157 51 [some (.ref x), a1] (st) w Q = Wp d 157 52 [some (.ref x), a1] (.ref x :: st) w Q := Wp.loc e157_51 rfl rfl rfl
theorem e157_52 : decode (j_co 157) 52 = .ok (.iload_n 1, 1) := by decide +kernel
set_option maxRecDepth 20000 in
theorem w157_52 {d : Nat} {st : List Value} {Q : Option Value × jW → Prop} {w : jW} {a0 : Option Value} {x : Int32} : Wp d 157 52 [a0, some (.int x)] (st) w Q = Wp d 157 53 [a0, some (.int x)] (.int x :: st) w Q := Wp.loc e157_52 rfl rfl rfl
theorem e157_53 : decode (j_co 157) 53 = .ok (.invokevirtual 162, 3) := by decide +kernel
set_option maxRecDepth 20000 in
theorem w157_53 {d : Nat} {st : List Value} {Q : Option Value × jW → Prop} {ls : jL} {xs : List Value} {I : fI} {L : fL} {r : Nat} {x0 : Int32} (hs : j_sumc st ≤ 8) (ht : f_tg r = 11) : Wp (d + 1) 157 53 ls (.int x0 :: .ref r :: st) (f_W xs I L) Q = Wp d 136 0 [some (.ref r), some (.int x0), none] [] (f_W xs I L) (fun r1 => Wp (d + 1) 157 56 ls (r1.1.toList ++ st) r1.2 Q) := Wp.cv (y' := 136) (as := [.int x0]) e157_53 rfl (by decide) rfl (show 2 ≤ 3 by decide) (by decide) hs ht
theorem e157_56 : decode (j_co 157) 56 = .ok (.aload_n 0, 1) := by decide +kernel
set_option maxRecDepth 20000 in
theorem w157_56 {d : Nat} {st : List Value} {Q : Option Value × jW → Prop} {w : jW} {a1 : Option Value} {x : Nat} : Wp d 157 56 [some (.ref x), a1] (st) w Q = Wp d 157 57 [some (.ref x), a1] (.ref x :: st) w Q := Wp.loc e157_56 rfl rfl rfl
theorem e157_57 : decode (j_co 157) 57 = .ok (.iload_n 1, 1) := by decide +kernel
set_option maxRecDepth 20000 in
theorem w157_57 {d : Nat} {st : List Value} {Q : Option Value × jW → Prop} {w : jW} {a0 : Option Value} {x : Int32} : Wp d 157 57 [a0, some (.int x)] (st) w Q = Wp d 157 58 [a0, some (.int x)] (.int x :: st) w Q := Wp.loc e157_57 rfl rfl rfl
theorem e157_58 : decode (j_co 157) 58 = .ok (.invokevirtual 219, 3) := by decide +kernel
set_option maxRecDepth 20000 in
theorem w157_58 {d : Nat} {st : List Value} {Q : Option Value × jW → Prop} {ls : jL} {xs : List Value} {I : fI} {L : fL} {r : Nat} {x0 : Int32} (hs : j_sumc st ≤ 8) (ht : f_tg r = 11) : Wp (d + 1) 157 58 ls (.int x0 :: .ref r :: st) (f_W xs I L) Q = Wp d 158 0 [some (.ref r), some (.int x0)] [] (f_W xs I L) (fun r1 => Wp (d + 1) 157 61 ls (r1.1.toList ++ st) r1.2 Q) := Wp.cv (y' := 158) (as := [.int x0]) e157_58 rfl (by decide) rfl (show 2 ≤ 2 by decide) (by decide) hs ht
theorem e157_61 : decode (j_co 157) 61 = .ok (.ifCond .ne 8, 3) := by decide +kernel
set_option maxRecDepth 20000 in
theorem w157_61 {d : Nat} {st : List Value} {Q : Option Value × jW → Prop} {ls : jL} {w : jW} {a : Int32} : Wp d 157 61 ls (.int a :: st) w Q = ((a = nI 0 → Wp d 157 64 ls st w Q) ∧ (¬ a = nI 0 → Wp d 157 69 ls st w Q)) := Wp.if2n (c := a = nI 0) (off := 8) e157_61 rfl rfl rfl rfl rfl
theorem e157_64 : decode (j_co 157) 64 = .ok (.bipush 10, 2) := by decide +kernel
set_option maxRecDepth 20000 in
theorem w157_64 {d : Nat} {st : List Value} {Q : Option Value × jW → Prop} {ls : jL} {w : jW} : Wp d 157 64 ls (st) w Q = Wp d 157 66 ls (.int (nI 10) :: st) w Q := Wp.alu e157_64 rfl rfl
theorem e157_66 : decode (j_co 157) 66 = .ok (.iload_n 1, 1) := by decide +kernel
set_option maxRecDepth 20000 in
theorem w157_66 {d : Nat} {st : List Value} {Q : Option Value × jW → Prop} {w : jW} {a0 : Option Value} {x : Int32} : Wp d 157 66 [a0, some (.int x)] (st) w Q = Wp d 157 67 [a0, some (.int x)] (.int x :: st) w Q := Wp.loc e157_66 rfl rfl rfl
theorem e157_67 : decode (j_co 157) 67 = .ok (.iadd, 1) := by decide +kernel
set_option maxRecDepth 20000 in
theorem w157_67 {d : Nat} {st : List Value} {Q : Option Value × jW → Prop} {ls : jL} {w : jW} {a b : Int32} : Wp d 157 67 ls (.int b :: .int a :: st) w Q = Wp d 157 68 ls (.int (a + b) :: st) w Q := Wp.alu e157_67 rfl rfl
theorem e157_68 : decode (j_co 157) 68 = .ok (.ireturn, 1) := by decide +kernel
set_option maxRecDepth 20000 in
theorem w157_68 {d : Nat} {Q : Option Value × jW → Prop} {ls : jL} {w : jW} {x : Int32} : Wp d 157 68 ls [.int x] w Q = Q (some (.int x), w) := Wp.ret e157_68 rfl
theorem e157_69 : decode (j_co 157) 69 = .ok (.iinc 1 1, 3) := by decide +kernel
set_option maxRecDepth 20000 in
theorem w157_69 {d : Nat} {st : List Value} {Q : Option Value × jW → Prop} {w : jW} {a0 : Option Value} {x : Int32} (h : j_cp a0) : Wp d 157 69 [a0, some (.int x)] (st) w Q = Wp d 157 72 [a0, some (.int (x + nI 1))] (st) w Q := Wp.loc e157_69 rfl rfl (v_inc (ls := [a0, some (.int x)]) (k := 1) (n := 1) rfl (show 1 < 2 by decide) h)
theorem e157_72 : decode (j_co 157) 72 = .ok (.goto (-50), 3) := by decide +kernel
set_option maxRecDepth 20000 in
theorem w157_72 {d : Nat} {st : List Value} {Q : Option Value × jW → Prop} {ls : jL} {w : jW} : Wp d 157 72 ls (st) w Q = Wp d 157 22 ls (st) w Q := Wp.br e157_72 (Or.inl rfl) rfl rfl rfl rfl
theorem e157_75 : decode (j_co 157) 75 = .ok (.iconst 0, 1) := by decide +kernel
set_option maxRecDepth 20000 in
theorem w157_75 {d : Nat} {st : List Value} {Q : Option Value × jW → Prop} {ls : jL} {w : jW} : Wp d 157 75 ls (st) w Q = Wp d 157 76 ls (.int (nI 0) :: st) w Q := Wp.alu e157_75 rfl rfl
theorem e157_76 : decode (j_co 157) 76 = .ok (.istore_n 1, 1) := by decide +kernel
set_option maxRecDepth 20000 in
theorem w157_76 {d : Nat} {st : List Value} {Q : Option Value × jW → Prop} {w : jW} {a0 a1 : Option Value} {x : Int32} (h : j_cp a0) : Wp d 157 76 [a0, a1] (.int x :: st) w Q = Wp d 157 77 [a0, some (.int x)] (st) w Q := Wp.loc e157_76 rfl rfl (v_stI (ls := [a0, a1]) (k := 1) (show 1 < 2 by decide) h)
theorem e157_77 : decode (j_co 157) 77 = .ok (.iload_n 1, 1) := by decide +kernel
set_option maxRecDepth 20000 in
theorem w157_77 {d : Nat} {st : List Value} {Q : Option Value × jW → Prop} {w : jW} {a0 : Option Value} {x : Int32} : Wp d 157 77 [a0, some (.int x)] (st) w Q = Wp d 157 78 [a0, some (.int x)] (.int x :: st) w Q := Wp.loc e157_77 rfl rfl rfl
theorem e157_78 : decode (j_co 157) 78 = .ok (.aload_n 0, 1) := by decide +kernel
set_option maxRecDepth 20000 in
theorem w157_78 {d : Nat} {st : List Value} {Q : Option Value × jW → Prop} {w : jW} {a1 : Option Value} {x : Nat} : Wp d 157 78 [some (.ref x), a1] (st) w Q = Wp d 157 79 [some (.ref x), a1] (.ref x :: st) w Q := Wp.loc e157_78 rfl rfl rfl
theorem e157_79 : decode (j_co 157) 79 = .ok (.getfield 97, 3) := by decide +kernel
set_option maxRecDepth 20000 in
theorem w157_79 {d : Nat} {st : List Value} {Q : Option Value × jW → Prop} {ls : jL} {xs : List Value} {I : fI} {L : fL} {o : Nat} (ht : f_tg o = 11) : Wp d 157 79 ls (.ref o :: st) (f_W xs I L) Q = Wp d 157 82 ls (.int (I o 3) :: st) (f_W xs I L) Q := Wp.getI (ci := 11) (k := 3) e157_79 rfl (by decide) (by decide) (by decide) ht
theorem e157_82 : decode (j_co 157) 82 = .ok (.if_icmp .ge 66, 3) := by decide +kernel
set_option maxRecDepth 20000 in
theorem w157_82 {d : Nat} {st : List Value} {Q : Option Value × jW → Prop} {ls : jL} {w : jW} {a b : Int32} : Wp d 157 82 ls (.int b :: .int a :: st) w Q = ((b ≤ a → Wp d 157 148 ls st w Q) ∧ (¬ b ≤ a → Wp d 157 85 ls st w Q)) := Wp.if2 (c := b ≤ a) (off := 66) e157_82 rfl rfl rfl rfl rfl
theorem e157_85 : decode (j_co 157) 85 = .ok (.aload_n 0, 1) := by decide +kernel
set_option maxRecDepth 20000 in
theorem w157_85 {d : Nat} {st : List Value} {Q : Option Value × jW → Prop} {w : jW} {a1 : Option Value} {x : Nat} : Wp d 157 85 [some (.ref x), a1] (st) w Q = Wp d 157 86 [some (.ref x), a1] (.ref x :: st) w Q := Wp.loc e157_85 rfl rfl rfl
theorem e157_86 : decode (j_co 157) 86 = .ok (.getfield 42, 3) := by decide +kernel
set_option maxRecDepth 20000 in
theorem w157_86 {d : Nat} {st : List Value} {Q : Option Value × jW → Prop} {ls : jL} {xs : List Value} {I : fI} {L : fL} {o : Nat} (ht : f_tg o = 11) : Wp d 157 86 ls (.ref o :: st) (f_W xs I L) Q = Wp d 157 89 ls (.ref (f_rf o 13) :: st) (f_W xs I L) Q := Wp.getR (ci := 11) (k := 13) e157_86 rfl (by decide) (by decide) rfl ht
theorem e157_89 : decode (j_co 157) 89 = .ok (.aload_n 0, 1) := by decide +kernel
set_option maxRecDepth 20000 in
theorem w157_89 {d : Nat} {st : List Value} {Q : Option Value × jW → Prop} {w : jW} {a1 : Option Value} {x : Nat} : Wp d 157 89 [some (.ref x), a1] (st) w Q = Wp d 157 90 [some (.ref x), a1] (.ref x :: st) w Q := Wp.loc e157_89 rfl rfl rfl
theorem e157_90 : decode (j_co 157) 90 = .ok (.getfield 16, 3) := by decide +kernel
set_option maxRecDepth 20000 in
theorem w157_90 {d : Nat} {st : List Value} {Q : Option Value × jW → Prop} {ls : jL} {xs : List Value} {I : fI} {L : fL} {o : Nat} (ht : f_tg o = 11) : Wp d 157 90 ls (.ref o :: st) (f_W xs I L) Q = Wp d 157 93 ls (.ref (f_rf o 4) :: st) (f_W xs I L) Q := Wp.getR (ci := 11) (k := 4) e157_90 rfl (by decide) (by decide) rfl ht
theorem e157_93 : decode (j_co 157) 93 = .ok (.iload_n 1, 1) := by decide +kernel
set_option maxRecDepth 20000 in
theorem w157_93 {d : Nat} {st : List Value} {Q : Option Value × jW → Prop} {w : jW} {a0 : Option Value} {x : Int32} : Wp d 157 93 [a0, some (.int x)] (st) w Q = Wp d 157 94 [a0, some (.int x)] (.int x :: st) w Q := Wp.loc e157_93 rfl rfl rfl
theorem e157_94 : decode (j_co 157) 94 = .ok (.iaload, 1) := by decide +kernel
set_option maxRecDepth 20000 in
theorem w157_94 {d : Nat} {st : List Value} {Q : Option Value × jW → Prop} {ls : jL} {xs : List Value} {I : fI} {L : fL} {o : Nat} {i : Int32} (ht : f_tg o = 100) (hi : ¬ (i < 0 ∨ f_ln o ≤ i.toNatClampNeg)) : Wp d 157 94 ls (.int i :: .ref o :: st) (f_W xs I L) Q = Wp d 157 95 ls (.int (I o i.toNatClampNeg) :: st) (f_W xs I L) Q := Wp.iald e157_94 ht hi
theorem e157_95 : decode (j_co 157) 95 = .ok (.baload, 1) := by decide +kernel
set_option maxRecDepth 20000 in
theorem w157_95 {d : Nat} {st : List Value} {Q : Option Value × jW → Prop} {ls : jL} {xs : List Value} {I : fI} {L : fL} {o : Nat} {i : Int32} (ht : f_tg o = 101) (hi : ¬ (i < 0 ∨ f_ln o ≤ i.toNatClampNeg)) : Wp d 157 95 ls (.int i :: .ref o :: st) (f_W xs I L) Q = Wp d 157 96 ls (.int (I o i.toNatClampNeg) :: st) (f_W xs I L) Q := Wp.zald e157_95 ht hi
theorem e157_96 : decode (j_co 157) 96 = .ok (.ifCond .eq 46, 3) := by decide +kernel
set_option maxRecDepth 20000 in
theorem w157_96 {d : Nat} {st : List Value} {Q : Option Value × jW → Prop} {ls : jL} {w : jW} {a : Int32} : Wp d 157 96 ls (.int a :: st) w Q = ((a = nI 0 → Wp d 157 142 ls st w Q) ∧ (¬ a = nI 0 → Wp d 157 99 ls st w Q)) := Wp.if2 (c := a = nI 0) (off := 46) e157_96 rfl rfl rfl rfl rfl
theorem e157_99 : decode (j_co 157) 99 = .ok (.aload_n 0, 1) := by decide +kernel
set_option maxRecDepth 20000 in
theorem w157_99 {d : Nat} {st : List Value} {Q : Option Value × jW → Prop} {w : jW} {a1 : Option Value} {x : Nat} : Wp d 157 99 [some (.ref x), a1] (st) w Q = Wp d 157 100 [some (.ref x), a1] (.ref x :: st) w Q := Wp.loc e157_99 rfl rfl rfl
theorem e157_100 : decode (j_co 157) 100 = .ok (.aload_n 0, 1) := by decide +kernel
set_option maxRecDepth 20000 in
theorem w157_100 {d : Nat} {st : List Value} {Q : Option Value × jW → Prop} {w : jW} {a1 : Option Value} {x : Nat} : Wp d 157 100 [some (.ref x), a1] (st) w Q = Wp d 157 101 [some (.ref x), a1] (.ref x :: st) w Q := Wp.loc e157_100 rfl rfl rfl
theorem e157_101 : decode (j_co 157) 101 = .ok (.getfield 16, 3) := by decide +kernel
set_option maxRecDepth 20000 in
theorem w157_101 {d : Nat} {st : List Value} {Q : Option Value × jW → Prop} {ls : jL} {xs : List Value} {I : fI} {L : fL} {o : Nat} (ht : f_tg o = 11) : Wp d 157 101 ls (.ref o :: st) (f_W xs I L) Q = Wp d 157 104 ls (.ref (f_rf o 4) :: st) (f_W xs I L) Q := Wp.getR (ci := 11) (k := 4) e157_101 rfl (by decide) (by decide) rfl ht
theorem e157_104 : decode (j_co 157) 104 = .ok (.iload_n 1, 1) := by decide +kernel
set_option maxRecDepth 20000 in
theorem w157_104 {d : Nat} {st : List Value} {Q : Option Value × jW → Prop} {w : jW} {a0 : Option Value} {x : Int32} : Wp d 157 104 [a0, some (.int x)] (st) w Q = Wp d 157 105 [a0, some (.int x)] (.int x :: st) w Q := Wp.loc e157_104 rfl rfl rfl
theorem e157_105 : decode (j_co 157) 105 = .ok (.iaload, 1) := by decide +kernel
set_option maxRecDepth 20000 in
theorem w157_105 {d : Nat} {st : List Value} {Q : Option Value × jW → Prop} {ls : jL} {xs : List Value} {I : fI} {L : fL} {o : Nat} {i : Int32} (ht : f_tg o = 100) (hi : ¬ (i < 0 ∨ f_ln o ≤ i.toNatClampNeg)) : Wp d 157 105 ls (.int i :: .ref o :: st) (f_W xs I L) Q = Wp d 157 106 ls (.int (I o i.toNatClampNeg) :: st) (f_W xs I L) Q := Wp.iald e157_105 ht hi
theorem e157_106 : decode (j_co 157) 106 = .ok (.invokevirtual 222, 3) := by decide +kernel
set_option maxRecDepth 20000 in
theorem w157_106 {d : Nat} {st : List Value} {Q : Option Value × jW → Prop} {ls : jL} {xs : List Value} {I : fI} {L : fL} {r : Nat} {x0 : Int32} (hs : j_sumc st ≤ 8) (ht : f_tg r = 11) : Wp (d + 1) 157 106 ls (.int x0 :: .ref r :: st) (f_W xs I L) Q = Wp d 159 0 [some (.ref r), some (.int x0)] [] (f_W xs I L) (fun r1 => Wp (d + 1) 157 109 ls (r1.1.toList ++ st) r1.2 Q) := Wp.cv (y' := 159) (as := [.int x0]) e157_106 rfl (by decide) rfl (show 2 ≤ 2 by decide) (by decide) hs ht
theorem e157_109 : decode (j_co 157) 109 = .ok (.aload_n 0, 1) := by decide +kernel
set_option maxRecDepth 20000 in
theorem w157_109 {d : Nat} {st : List Value} {Q : Option Value × jW → Prop} {w : jW} {a1 : Option Value} {x : Nat} : Wp d 157 109 [some (.ref x), a1] (st) w Q = Wp d 157 110 [some (.ref x), a1] (.ref x :: st) w Q := Wp.loc e157_109 rfl rfl rfl
theorem e157_110 : decode (j_co 157) 110 = .ok (.invokevirtual 131, 3) := by decide +kernel
set_option maxRecDepth 20000 in
theorem w157_110 {d : Nat} {st : List Value} {Q : Option Value × jW → Prop} {ls : jL} {xs : List Value} {I : fI} {L : fL} {r : Nat} (hs : j_sumc st ≤ 8) (ht : f_tg r = 11) : Wp (d + 1) 157 110 ls (.ref r :: st) (f_W xs I L) Q = Wp d 132 0 [some (.ref r)] [] (f_W xs I L) (fun r1 => Wp (d + 1) 157 113 ls (r1.1.toList ++ st) r1.2 Q) := Wp.cv (y' := 132) (as := []) e157_110 rfl (by decide) rfl (show 1 ≤ 1 by decide) (by decide) hs ht
theorem e157_113 : decode (j_co 157) 113 = .ok (.ifCond .ne 29, 3) := by decide +kernel
set_option maxRecDepth 20000 in
theorem w157_113 {d : Nat} {st : List Value} {Q : Option Value × jW → Prop} {ls : jL} {w : jW} {a : Int32} : Wp d 157 113 ls (.int a :: st) w Q = ((a = nI 0 → Wp d 157 116 ls st w Q) ∧ (¬ a = nI 0 → Wp d 157 142 ls st w Q)) := Wp.if2n (c := a = nI 0) (off := 29) e157_113 rfl rfl rfl rfl rfl
theorem e157_116 : decode (j_co 157) 116 = .ok (.aload_n 0, 1) := by decide +kernel
set_option maxRecDepth 20000 in
theorem w157_116 {d : Nat} {st : List Value} {Q : Option Value × jW → Prop} {w : jW} {a1 : Option Value} {x : Nat} : Wp d 157 116 [some (.ref x), a1] (st) w Q = Wp d 157 117 [some (.ref x), a1] (.ref x :: st) w Q := Wp.loc e157_116 rfl rfl rfl
theorem e157_117 : decode (j_co 157) 117 = .ok (.iload_n 1, 1) := by decide +kernel
set_option maxRecDepth 20000 in
theorem w157_117 {d : Nat} {st : List Value} {Q : Option Value × jW → Prop} {w : jW} {a0 : Option Value} {x : Int32} : Wp d 157 117 [a0, some (.int x)] (st) w Q = Wp d 157 118 [a0, some (.int x)] (.int x :: st) w Q := Wp.loc e157_117 rfl rfl rfl
theorem e157_118 : decode (j_co 157) 118 = .ok (.invokevirtual 169, 3) := by decide +kernel
set_option maxRecDepth 20000 in
theorem w157_118 {d : Nat} {st : List Value} {Q : Option Value × jW → Prop} {ls : jL} {xs : List Value} {I : fI} {L : fL} {r : Nat} {x0 : Int32} (hs : j_sumc st ≤ 8) (ht : f_tg r = 11) : Wp (d + 1) 157 118 ls (.int x0 :: .ref r :: st) (f_W xs I L) Q = Wp d 140 0 [some (.ref r), some (.int x0), none] [] (f_W xs I L) (fun r1 => Wp (d + 1) 157 121 ls (r1.1.toList ++ st) r1.2 Q) := Wp.cv (y' := 140) (as := [.int x0]) e157_118 rfl (by decide) rfl (show 2 ≤ 3 by decide) (by decide) hs ht
theorem e157_121 : decode (j_co 157) 121 = .ok (.ifCond .eq 21, 3) := by decide +kernel
set_option maxRecDepth 20000 in
theorem w157_121 {d : Nat} {st : List Value} {Q : Option Value × jW → Prop} {ls : jL} {w : jW} {a : Int32} : Wp d 157 121 ls (.int a :: st) w Q = ((a = nI 0 → Wp d 157 142 ls st w Q) ∧ (¬ a = nI 0 → Wp d 157 124 ls st w Q)) := Wp.if2 (c := a = nI 0) (off := 21) e157_121 rfl rfl rfl rfl rfl
theorem e157_124 : decode (j_co 157) 124 = .ok (.aload_n 0, 1) := by decide +kernel
set_option maxRecDepth 20000 in
theorem w157_124 {d : Nat} {st : List Value} {Q : Option Value × jW → Prop} {w : jW} {a1 : Option Value} {x : Nat} : Wp d 157 124 [some (.ref x), a1] (st) w Q = Wp d 157 125 [some (.ref x), a1] (.ref x :: st) w Q := Wp.loc e157_124 rfl rfl rfl
theorem e157_125 : decode (j_co 157) 125 = .ok (.aload_n 0, 1) := by decide +kernel
set_option maxRecDepth 20000 in
theorem w157_125 {d : Nat} {st : List Value} {Q : Option Value × jW → Prop} {w : jW} {a1 : Option Value} {x : Nat} : Wp d 157 125 [some (.ref x), a1] (st) w Q = Wp d 157 126 [some (.ref x), a1] (.ref x :: st) w Q := Wp.loc e157_125 rfl rfl rfl
theorem e157_126 : decode (j_co 157) 126 = .ok (.getfield 19, 3) := by decide +kernel
set_option maxRecDepth 20000 in
theorem w157_126 {d : Nat} {st : List Value} {Q : Option Value × jW → Prop} {ls : jL} {xs : List Value} {I : fI} {L : fL} {o : Nat} (ht : f_tg o = 11) : Wp d 157 126 ls (.ref o :: st) (f_W xs I L) Q = Wp d 157 129 ls (.ref (f_rf o 5) :: st) (f_W xs I L) Q := Wp.getR (ci := 11) (k := 5) e157_126 rfl (by decide) (by decide) rfl ht
theorem e157_129 : decode (j_co 157) 129 = .ok (.iload_n 1, 1) := by decide +kernel
set_option maxRecDepth 20000 in
theorem w157_129 {d : Nat} {st : List Value} {Q : Option Value × jW → Prop} {w : jW} {a0 : Option Value} {x : Int32} : Wp d 157 129 [a0, some (.int x)] (st) w Q = Wp d 157 130 [a0, some (.int x)] (.int x :: st) w Q := Wp.loc e157_129 rfl rfl rfl
theorem e157_130 : decode (j_co 157) 130 = .ok (.iaload, 1) := by decide +kernel
set_option maxRecDepth 20000 in
theorem w157_130 {d : Nat} {st : List Value} {Q : Option Value × jW → Prop} {ls : jL} {xs : List Value} {I : fI} {L : fL} {o : Nat} {i : Int32} (ht : f_tg o = 100) (hi : ¬ (i < 0 ∨ f_ln o ≤ i.toNatClampNeg)) : Wp d 157 130 ls (.int i :: .ref o :: st) (f_W xs I L) Q = Wp d 157 131 ls (.int (I o i.toNatClampNeg) :: st) (f_W xs I L) Q := Wp.iald e157_130 ht hi
theorem e157_131 : decode (j_co 157) 131 = .ok (.invokevirtual 219, 3) := by decide +kernel
set_option maxRecDepth 20000 in
theorem w157_131 {d : Nat} {st : List Value} {Q : Option Value × jW → Prop} {ls : jL} {xs : List Value} {I : fI} {L : fL} {r : Nat} {x0 : Int32} (hs : j_sumc st ≤ 8) (ht : f_tg r = 11) : Wp (d + 1) 157 131 ls (.int x0 :: .ref r :: st) (f_W xs I L) Q = Wp d 158 0 [some (.ref r), some (.int x0)] [] (f_W xs I L) (fun r1 => Wp (d + 1) 157 134 ls (r1.1.toList ++ st) r1.2 Q) := Wp.cv (y' := 158) (as := [.int x0]) e157_131 rfl (by decide) rfl (show 2 ≤ 2 by decide) (by decide) hs ht
theorem e157_134 : decode (j_co 157) 134 = .ok (.ifCond .ne 8, 3) := by decide +kernel
set_option maxRecDepth 20000 in
theorem w157_134 {d : Nat} {st : List Value} {Q : Option Value × jW → Prop} {ls : jL} {w : jW} {a : Int32} : Wp d 157 134 ls (.int a :: st) w Q = ((a = nI 0 → Wp d 157 137 ls st w Q) ∧ (¬ a = nI 0 → Wp d 157 142 ls st w Q)) := Wp.if2n (c := a = nI 0) (off := 8) e157_134 rfl rfl rfl rfl rfl
theorem e157_137 : decode (j_co 157) 137 = .ok (.bipush 20, 2) := by decide +kernel
set_option maxRecDepth 20000 in
theorem w157_137 {d : Nat} {st : List Value} {Q : Option Value × jW → Prop} {ls : jL} {w : jW} : Wp d 157 137 ls (st) w Q = Wp d 157 139 ls (.int (nI 20) :: st) w Q := Wp.alu e157_137 rfl rfl
theorem e157_139 : decode (j_co 157) 139 = .ok (.iload_n 1, 1) := by decide +kernel
set_option maxRecDepth 20000 in
theorem w157_139 {d : Nat} {st : List Value} {Q : Option Value × jW → Prop} {w : jW} {a0 : Option Value} {x : Int32} : Wp d 157 139 [a0, some (.int x)] (st) w Q = Wp d 157 140 [a0, some (.int x)] (.int x :: st) w Q := Wp.loc e157_139 rfl rfl rfl
theorem e157_140 : decode (j_co 157) 140 = .ok (.iadd, 1) := by decide +kernel
set_option maxRecDepth 20000 in
theorem w157_140 {d : Nat} {st : List Value} {Q : Option Value × jW → Prop} {ls : jL} {w : jW} {a b : Int32} : Wp d 157 140 ls (.int b :: .int a :: st) w Q = Wp d 157 141 ls (.int (a + b) :: st) w Q := Wp.alu e157_140 rfl rfl
theorem e157_141 : decode (j_co 157) 141 = .ok (.ireturn, 1) := by decide +kernel
set_option maxRecDepth 20000 in
theorem w157_141 {d : Nat} {Q : Option Value × jW → Prop} {ls : jL} {w : jW} {x : Int32} : Wp d 157 141 ls [.int x] w Q = Q (some (.int x), w) := Wp.ret e157_141 rfl
theorem e157_142 : decode (j_co 157) 142 = .ok (.iinc 1 1, 3) := by decide +kernel
set_option maxRecDepth 20000 in
theorem w157_142 {d : Nat} {st : List Value} {Q : Option Value × jW → Prop} {w : jW} {a0 : Option Value} {x : Int32} (h : j_cp a0) : Wp d 157 142 [a0, some (.int x)] (st) w Q = Wp d 157 145 [a0, some (.int (x + nI 1))] (st) w Q := Wp.loc e157_142 rfl rfl (v_inc (ls := [a0, some (.int x)]) (k := 1) (n := 1) rfl (show 1 < 2 by decide) h)
theorem e157_145 : decode (j_co 157) 145 = .ok (.goto (-68), 3) := by decide +kernel
set_option maxRecDepth 20000 in
theorem w157_145 {d : Nat} {st : List Value} {Q : Option Value × jW → Prop} {ls : jL} {w : jW} : Wp d 157 145 ls (st) w Q = Wp d 157 77 ls (st) w Q := Wp.br e157_145 (Or.inl rfl) rfl rfl rfl rfl
theorem e157_148 : decode (j_co 157) 148 = .ok (.iconst 0, 1) := by decide +kernel
set_option maxRecDepth 20000 in
theorem w157_148 {d : Nat} {st : List Value} {Q : Option Value × jW → Prop} {ls : jL} {w : jW} : Wp d 157 148 ls (st) w Q = Wp d 157 149 ls (.int (nI 0) :: st) w Q := Wp.alu e157_148 rfl rfl
theorem e157_149 : decode (j_co 157) 149 = .ok (.istore_n 1, 1) := by decide +kernel
set_option maxRecDepth 20000 in
theorem w157_149 {d : Nat} {st : List Value} {Q : Option Value × jW → Prop} {w : jW} {a0 a1 : Option Value} {x : Int32} (h : j_cp a0) : Wp d 157 149 [a0, a1] (.int x :: st) w Q = Wp d 157 150 [a0, some (.int x)] (st) w Q := Wp.loc e157_149 rfl rfl (v_stI (ls := [a0, a1]) (k := 1) (show 1 < 2 by decide) h)
theorem e157_150 : decode (j_co 157) 150 = .ok (.iload_n 1, 1) := by decide +kernel
set_option maxRecDepth 20000 in
theorem w157_150 {d : Nat} {st : List Value} {Q : Option Value × jW → Prop} {w : jW} {a0 : Option Value} {x : Int32} : Wp d 157 150 [a0, some (.int x)] (st) w Q = Wp d 157 151 [a0, some (.int x)] (.int x :: st) w Q := Wp.loc e157_150 rfl rfl rfl
theorem e157_151 : decode (j_co 157) 151 = .ok (.aload_n 0, 1) := by decide +kernel
set_option maxRecDepth 20000 in
theorem w157_151 {d : Nat} {st : List Value} {Q : Option Value × jW → Prop} {w : jW} {a1 : Option Value} {x : Nat} : Wp d 157 151 [some (.ref x), a1] (st) w Q = Wp d 157 152 [some (.ref x), a1] (.ref x :: st) w Q := Wp.loc e157_151 rfl rfl rfl
theorem e157_152 : decode (j_co 157) 152 = .ok (.getfield 90, 3) := by decide +kernel
set_option maxRecDepth 20000 in
theorem w157_152 {d : Nat} {st : List Value} {Q : Option Value × jW → Prop} {ls : jL} {xs : List Value} {I : fI} {L : fL} {o : Nat} (ht : f_tg o = 11) : Wp d 157 152 ls (.ref o :: st) (f_W xs I L) Q = Wp d 157 155 ls (.int (I o 0) :: st) (f_W xs I L) Q := Wp.getI (ci := 11) (k := 0) e157_152 rfl (by decide) (by decide) (by decide) ht
theorem e157_155 : decode (j_co 157) 155 = .ok (.if_icmp .ge 53, 3) := by decide +kernel
set_option maxRecDepth 20000 in
theorem w157_155 {d : Nat} {st : List Value} {Q : Option Value × jW → Prop} {ls : jL} {w : jW} {a b : Int32} : Wp d 157 155 ls (.int b :: .int a :: st) w Q = ((b ≤ a → Wp d 157 208 ls st w Q) ∧ (¬ b ≤ a → Wp d 157 158 ls st w Q)) := Wp.if2 (c := b ≤ a) (off := 53) e157_155 rfl rfl rfl rfl rfl
theorem e157_158 : decode (j_co 157) 158 = .ok (.aload_n 0, 1) := by decide +kernel
set_option maxRecDepth 20000 in
theorem w157_158 {d : Nat} {st : List Value} {Q : Option Value × jW → Prop} {w : jW} {a1 : Option Value} {x : Nat} : Wp d 157 158 [some (.ref x), a1] (st) w Q = Wp d 157 159 [some (.ref x), a1] (.ref x :: st) w Q := Wp.loc e157_158 rfl rfl rfl
theorem e157_159 : decode (j_co 157) 159 = .ok (.getfield 42, 3) := by decide +kernel
set_option maxRecDepth 20000 in
theorem w157_159 {d : Nat} {st : List Value} {Q : Option Value × jW → Prop} {ls : jL} {xs : List Value} {I : fI} {L : fL} {o : Nat} (ht : f_tg o = 11) : Wp d 157 159 ls (.ref o :: st) (f_W xs I L) Q = Wp d 157 162 ls (.ref (f_rf o 13) :: st) (f_W xs I L) Q := Wp.getR (ci := 11) (k := 13) e157_159 rfl (by decide) (by decide) rfl ht
theorem e157_162 : decode (j_co 157) 162 = .ok (.iload_n 1, 1) := by decide +kernel
set_option maxRecDepth 20000 in
theorem w157_162 {d : Nat} {st : List Value} {Q : Option Value × jW → Prop} {w : jW} {a0 : Option Value} {x : Int32} : Wp d 157 162 [a0, some (.int x)] (st) w Q = Wp d 157 163 [a0, some (.int x)] (.int x :: st) w Q := Wp.loc e157_162 rfl rfl rfl
theorem e157_163 : decode (j_co 157) 163 = .ok (.baload, 1) := by decide +kernel
set_option maxRecDepth 20000 in
theorem w157_163 {d : Nat} {st : List Value} {Q : Option Value × jW → Prop} {ls : jL} {xs : List Value} {I : fI} {L : fL} {o : Nat} {i : Int32} (ht : f_tg o = 101) (hi : ¬ (i < 0 ∨ f_ln o ≤ i.toNatClampNeg)) : Wp d 157 163 ls (.int i :: .ref o :: st) (f_W xs I L) Q = Wp d 157 164 ls (.int (I o i.toNatClampNeg) :: st) (f_W xs I L) Q := Wp.zald e157_163 ht hi
theorem e157_164 : decode (j_co 157) 164 = .ok (.ifCond .eq 38, 3) := by decide +kernel
set_option maxRecDepth 20000 in
theorem w157_164 {d : Nat} {st : List Value} {Q : Option Value × jW → Prop} {ls : jL} {w : jW} {a : Int32} : Wp d 157 164 ls (.int a :: st) w Q = ((a = nI 0 → Wp d 157 202 ls st w Q) ∧ (¬ a = nI 0 → Wp d 157 167 ls st w Q)) := Wp.if2 (c := a = nI 0) (off := 38) e157_164 rfl rfl rfl rfl rfl
theorem e157_167 : decode (j_co 157) 167 = .ok (.iload_n 1, 1) := by decide +kernel
set_option maxRecDepth 20000 in
theorem w157_167 {d : Nat} {st : List Value} {Q : Option Value × jW → Prop} {w : jW} {a0 : Option Value} {x : Int32} : Wp d 157 167 [a0, some (.int x)] (st) w Q = Wp d 157 168 [a0, some (.int x)] (.int x :: st) w Q := Wp.loc e157_167 rfl rfl rfl
theorem e157_168 : decode (j_co 157) 168 = .ok (.aload_n 0, 1) := by decide +kernel
set_option maxRecDepth 20000 in
theorem w157_168 {d : Nat} {st : List Value} {Q : Option Value × jW → Prop} {w : jW} {a1 : Option Value} {x : Nat} : Wp d 157 168 [some (.ref x), a1] (st) w Q = Wp d 157 169 [some (.ref x), a1] (.ref x :: st) w Q := Wp.loc e157_168 rfl rfl rfl
theorem e157_169 : decode (j_co 157) 169 = .ok (.getfield 32, 3) := by decide +kernel
set_option maxRecDepth 20000 in
theorem w157_169 {d : Nat} {st : List Value} {Q : Option Value × jW → Prop} {ls : jL} {xs : List Value} {I : fI} {L : fL} {o : Nat} (ht : f_tg o = 11) : Wp d 157 169 ls (.ref o :: st) (f_W xs I L) Q = Wp d 157 172 ls (.int (I o 10) :: st) (f_W xs I L) Q := Wp.getI (ci := 11) (k := 10) e157_169 rfl (by decide) (by decide) (by decide) ht
theorem e157_172 : decode (j_co 157) 172 = .ok (.if_icmp .ne 30, 3) := by decide +kernel
set_option maxRecDepth 20000 in
theorem w157_172 {d : Nat} {st : List Value} {Q : Option Value × jW → Prop} {ls : jL} {w : jW} {a b : Int32} : Wp d 157 172 ls (.int b :: .int a :: st) w Q = ((a = b → Wp d 157 175 ls st w Q) ∧ (¬ a = b → Wp d 157 202 ls st w Q)) := Wp.if2n (c := a = b) (off := 30) e157_172 rfl rfl rfl rfl rfl
theorem e157_175 : decode (j_co 157) 175 = .ok (.aload_n 0, 1) := by decide +kernel
set_option maxRecDepth 20000 in
theorem w157_175 {d : Nat} {st : List Value} {Q : Option Value × jW → Prop} {w : jW} {a1 : Option Value} {x : Nat} : Wp d 157 175 [some (.ref x), a1] (st) w Q = Wp d 157 176 [some (.ref x), a1] (.ref x :: st) w Q := Wp.loc e157_175 rfl rfl rfl
theorem e157_176 : decode (j_co 157) 176 = .ok (.iload_n 1, 1) := by decide +kernel
set_option maxRecDepth 20000 in
theorem w157_176 {d : Nat} {st : List Value} {Q : Option Value × jW → Prop} {w : jW} {a0 : Option Value} {x : Int32} : Wp d 157 176 [a0, some (.int x)] (st) w Q = Wp d 157 177 [a0, some (.int x)] (.int x :: st) w Q := Wp.loc e157_176 rfl rfl rfl
theorem e157_177 : decode (j_co 157) 177 = .ok (.invokevirtual 222, 3) := by decide +kernel
set_option maxRecDepth 20000 in
theorem w157_177 {d : Nat} {st : List Value} {Q : Option Value × jW → Prop} {ls : jL} {xs : List Value} {I : fI} {L : fL} {r : Nat} {x0 : Int32} (hs : j_sumc st ≤ 8) (ht : f_tg r = 11) : Wp (d + 1) 157 177 ls (.int x0 :: .ref r :: st) (f_W xs I L) Q = Wp d 159 0 [some (.ref r), some (.int x0)] [] (f_W xs I L) (fun r1 => Wp (d + 1) 157 180 ls (r1.1.toList ++ st) r1.2 Q) := Wp.cv (y' := 159) (as := [.int x0]) e157_177 rfl (by decide) rfl (show 2 ≤ 2 by decide) (by decide) hs ht
theorem e157_180 : decode (j_co 157) 180 = .ok (.aload_n 0, 1) := by decide +kernel
set_option maxRecDepth 20000 in
theorem w157_180 {d : Nat} {st : List Value} {Q : Option Value × jW → Prop} {w : jW} {a1 : Option Value} {x : Nat} : Wp d 157 180 [some (.ref x), a1] (st) w Q = Wp d 157 181 [some (.ref x), a1] (.ref x :: st) w Q := Wp.loc e157_180 rfl rfl rfl
theorem e157_181 : decode (j_co 157) 181 = .ok (.aload_n 0, 1) := by decide +kernel
set_option maxRecDepth 20000 in
theorem w157_181 {d : Nat} {st : List Value} {Q : Option Value × jW → Prop} {w : jW} {a1 : Option Value} {x : Nat} : Wp d 157 181 [some (.ref x), a1] (st) w Q = Wp d 157 182 [some (.ref x), a1] (.ref x :: st) w Q := Wp.loc e157_181 rfl rfl rfl
theorem e157_182 : decode (j_co 157) 182 = .ok (.getfield 36, 3) := by decide +kernel
set_option maxRecDepth 20000 in
theorem w157_182 {d : Nat} {st : List Value} {Q : Option Value × jW → Prop} {ls : jL} {xs : List Value} {I : fI} {L : fL} {o : Nat} (ht : f_tg o = 11) : Wp d 157 182 ls (.ref o :: st) (f_W xs I L) Q = Wp d 157 185 ls (.ref (f_rf o 11) :: st) (f_W xs I L) Q := Wp.getR (ci := 11) (k := 11) e157_182 rfl (by decide) (by decide) rfl ht
theorem e157_185 : decode (j_co 157) 185 = .ok (.bipush 6, 2) := by decide +kernel
set_option maxRecDepth 20000 in
theorem w157_185 {d : Nat} {st : List Value} {Q : Option Value × jW → Prop} {ls : jL} {w : jW} : Wp d 157 185 ls (st) w Q = Wp d 157 187 ls (.int (nI 6) :: st) w Q := Wp.alu e157_185 rfl rfl
theorem e157_187 : decode (j_co 157) 187 = .ok (.invokevirtual 128, 3) := by decide +kernel
set_option maxRecDepth 20000 in
theorem w157_187 {d : Nat} {st : List Value} {Q : Option Value × jW → Prop} {ls : jL} {xs : List Value} {I : fI} {L : fL} {r : Nat} {x0 : Nat} {x1 : Int32} (hs : j_sumc st ≤ 8) (ht : f_tg r = 11) : Wp (d + 1) 157 187 ls (.int x1 :: .ref x0 :: .ref r :: st) (f_W xs I L) Q = Wp d 131 0 [some (.ref r), some (.ref x0), some (.int x1), none, none, none] [] (f_W xs I L) (fun r1 => Wp (d + 1) 157 190 ls (r1.1.toList ++ st) r1.2 Q) := Wp.cv (y' := 131) (as := [.ref x0, .int x1]) e157_187 rfl (by decide) rfl (show 3 ≤ 6 by decide) (by decide) hs ht
theorem e157_190 : decode (j_co 157) 190 = .ok (.aload_n 0, 1) := by decide +kernel
set_option maxRecDepth 20000 in
theorem w157_190 {d : Nat} {st : List Value} {Q : Option Value × jW → Prop} {w : jW} {a1 : Option Value} {x : Nat} : Wp d 157 190 [some (.ref x), a1] (st) w Q = Wp d 157 191 [some (.ref x), a1] (.ref x :: st) w Q := Wp.loc e157_190 rfl rfl rfl
theorem e157_191 : decode (j_co 157) 191 = .ok (.invokevirtual 131, 3) := by decide +kernel
set_option maxRecDepth 20000 in
theorem w157_191 {d : Nat} {st : List Value} {Q : Option Value × jW → Prop} {ls : jL} {xs : List Value} {I : fI} {L : fL} {r : Nat} (hs : j_sumc st ≤ 8) (ht : f_tg r = 11) : Wp (d + 1) 157 191 ls (.ref r :: st) (f_W xs I L) Q = Wp d 132 0 [some (.ref r)] [] (f_W xs I L) (fun r1 => Wp (d + 1) 157 194 ls (r1.1.toList ++ st) r1.2 Q) := Wp.cv (y' := 132) (as := []) e157_191 rfl (by decide) rfl (show 1 ≤ 1 by decide) (by decide) hs ht
theorem e157_194 : decode (j_co 157) 194 = .ok (.ifCond .ne 8, 3) := by decide +kernel
set_option maxRecDepth 20000 in
theorem w157_194 {d : Nat} {st : List Value} {Q : Option Value × jW → Prop} {ls : jL} {w : jW} {a : Int32} : Wp d 157 194 ls (.int a :: st) w Q = ((a = nI 0 → Wp d 157 197 ls st w Q) ∧ (¬ a = nI 0 → Wp d 157 202 ls st w Q)) := Wp.if2n (c := a = nI 0) (off := 8) e157_194 rfl rfl rfl rfl rfl
theorem e157_197 : decode (j_co 157) 197 = .ok (.bipush 40, 2) := by decide +kernel
set_option maxRecDepth 20000 in
theorem w157_197 {d : Nat} {st : List Value} {Q : Option Value × jW → Prop} {ls : jL} {w : jW} : Wp d 157 197 ls (st) w Q = Wp d 157 199 ls (.int (nI 40) :: st) w Q := Wp.alu e157_197 rfl rfl
theorem e157_199 : decode (j_co 157) 199 = .ok (.iload_n 1, 1) := by decide +kernel
set_option maxRecDepth 20000 in
theorem w157_199 {d : Nat} {st : List Value} {Q : Option Value × jW → Prop} {w : jW} {a0 : Option Value} {x : Int32} : Wp d 157 199 [a0, some (.int x)] (st) w Q = Wp d 157 200 [a0, some (.int x)] (.int x :: st) w Q := Wp.loc e157_199 rfl rfl rfl
theorem e157_200 : decode (j_co 157) 200 = .ok (.iadd, 1) := by decide +kernel
set_option maxRecDepth 20000 in
theorem w157_200 {d : Nat} {st : List Value} {Q : Option Value × jW → Prop} {ls : jL} {w : jW} {a b : Int32} : Wp d 157 200 ls (.int b :: .int a :: st) w Q = Wp d 157 201 ls (.int (a + b) :: st) w Q := Wp.alu e157_200 rfl rfl
theorem e157_201 : decode (j_co 157) 201 = .ok (.ireturn, 1) := by decide +kernel
set_option maxRecDepth 20000 in
theorem w157_201 {d : Nat} {Q : Option Value × jW → Prop} {ls : jL} {w : jW} {x : Int32} : Wp d 157 201 ls [.int x] w Q = Q (some (.int x), w) := Wp.ret e157_201 rfl
theorem e157_202 : decode (j_co 157) 202 = .ok (.iinc 1 1, 3) := by decide +kernel
set_option maxRecDepth 20000 in
theorem w157_202 {d : Nat} {st : List Value} {Q : Option Value × jW → Prop} {w : jW} {a0 : Option Value} {x : Int32} (h : j_cp a0) : Wp d 157 202 [a0, some (.int x)] (st) w Q = Wp d 157 205 [a0, some (.int (x + nI 1))] (st) w Q := Wp.loc e157_202 rfl rfl (v_inc (ls := [a0, some (.int x)]) (k := 1) (n := 1) rfl (show 1 < 2 by decide) h)
theorem e157_205 : decode (j_co 157) 205 = .ok (.goto (-55), 3) := by decide +kernel
set_option maxRecDepth 20000 in
theorem w157_205 {d : Nat} {st : List Value} {Q : Option Value × jW → Prop} {ls : jL} {w : jW} : Wp d 157 205 ls (st) w Q = Wp d 157 150 ls (st) w Q := Wp.br e157_205 (Or.inl rfl) rfl rfl rfl rfl
theorem e157_208 : decode (j_co 157) 208 = .ok (.iconst 0, 1) := by decide +kernel
set_option maxRecDepth 20000 in
theorem w157_208 {d : Nat} {st : List Value} {Q : Option Value × jW → Prop} {ls : jL} {w : jW} : Wp d 157 208 ls (st) w Q = Wp d 157 209 ls (.int (nI 0) :: st) w Q := Wp.alu e157_208 rfl rfl
theorem e157_209 : decode (j_co 157) 209 = .ok (.ireturn, 1) := by decide +kernel
set_option maxRecDepth 20000 in
theorem w157_209 {d : Nat} {Q : Option Value × jW → Prop} {ls : jL} {w : jW} {x : Int32} : Wp d 157 209 ls [.int x] w Q = Q (some (.int x), w) := Wp.ret e157_209 rfl
/-! M.isFenced -/
theorem e158_0 : decode (j_co 158) 0 = .ok (.aload_n 0, 1) := by decide +kernel
set_option maxRecDepth 20000 in
theorem w158_0 {d : Nat} {st : List Value} {Q : Option Value × jW → Prop} {w : jW} {a1 : Option Value} {x : Nat} : Wp d 158 0 [some (.ref x), a1] (st) w Q = Wp d 158 1 [some (.ref x), a1] (.ref x :: st) w Q := Wp.loc e158_0 rfl rfl rfl
theorem e158_1 : decode (j_co 158) 1 = .ok (.invokevirtual 131, 3) := by decide +kernel
set_option maxRecDepth 20000 in
theorem w158_1 {d : Nat} {st : List Value} {Q : Option Value × jW → Prop} {ls : jL} {xs : List Value} {I : fI} {L : fL} {r : Nat} (hs : j_sumc st ≤ 8) (ht : f_tg r = 11) : Wp (d + 1) 158 1 ls (.ref r :: st) (f_W xs I L) Q = Wp d 132 0 [some (.ref r)] [] (f_W xs I L) (fun r1 => Wp (d + 1) 158 4 ls (r1.1.toList ++ st) r1.2 Q) := Wp.cv (y' := 132) (as := []) e158_1 rfl (by decide) rfl (show 1 ≤ 1 by decide) (by decide) hs ht
theorem e158_4 : decode (j_co 158) 4 = .ok (.ifCond .ne 27, 3) := by decide +kernel
set_option maxRecDepth 20000 in
theorem w158_4 {d : Nat} {st : List Value} {Q : Option Value × jW → Prop} {ls : jL} {w : jW} {a : Int32} : Wp d 158 4 ls (.int a :: st) w Q = ((a = nI 0 → Wp d 158 7 ls st w Q) ∧ (¬ a = nI 0 → Wp d 158 31 ls st w Q)) := Wp.if2n (c := a = nI 0) (off := 27) e158_4 rfl rfl rfl rfl rfl
theorem e158_7 : decode (j_co 158) 7 = .ok (.aload_n 0, 1) := by decide +kernel
set_option maxRecDepth 20000 in
theorem w158_7 {d : Nat} {st : List Value} {Q : Option Value × jW → Prop} {w : jW} {a1 : Option Value} {x : Nat} : Wp d 158 7 [some (.ref x), a1] (st) w Q = Wp d 158 8 [some (.ref x), a1] (.ref x :: st) w Q := Wp.loc e158_7 rfl rfl rfl
theorem e158_8 : decode (j_co 158) 8 = .ok (.getfield 42, 3) := by decide +kernel
set_option maxRecDepth 20000 in
theorem w158_8 {d : Nat} {st : List Value} {Q : Option Value × jW → Prop} {ls : jL} {xs : List Value} {I : fI} {L : fL} {o : Nat} (ht : f_tg o = 11) : Wp d 158 8 ls (.ref o :: st) (f_W xs I L) Q = Wp d 158 11 ls (.ref (f_rf o 13) :: st) (f_W xs I L) Q := Wp.getR (ci := 11) (k := 13) e158_8 rfl (by decide) (by decide) rfl ht
theorem e158_11 : decode (j_co 158) 11 = .ok (.iload_n 1, 1) := by decide +kernel
set_option maxRecDepth 20000 in
theorem w158_11 {d : Nat} {st : List Value} {Q : Option Value × jW → Prop} {w : jW} {a0 : Option Value} {x : Int32} : Wp d 158 11 [a0, some (.int x)] (st) w Q = Wp d 158 12 [a0, some (.int x)] (.int x :: st) w Q := Wp.loc e158_11 rfl rfl rfl
theorem e158_12 : decode (j_co 158) 12 = .ok (.baload, 1) := by decide +kernel
set_option maxRecDepth 20000 in
theorem w158_12 {d : Nat} {st : List Value} {Q : Option Value × jW → Prop} {ls : jL} {xs : List Value} {I : fI} {L : fL} {o : Nat} {i : Int32} (ht : f_tg o = 101) (hi : ¬ (i < 0 ∨ f_ln o ≤ i.toNatClampNeg)) : Wp d 158 12 ls (.int i :: .ref o :: st) (f_W xs I L) Q = Wp d 158 13 ls (.int (I o i.toNatClampNeg) :: st) (f_W xs I L) Q := Wp.zald e158_12 ht hi
theorem e158_13 : decode (j_co 158) 13 = .ok (.ifCond .eq 22, 3) := by decide +kernel
set_option maxRecDepth 20000 in
theorem w158_13 {d : Nat} {st : List Value} {Q : Option Value × jW → Prop} {ls : jL} {w : jW} {a : Int32} : Wp d 158 13 ls (.int a :: st) w Q = ((a = nI 0 → Wp d 158 35 ls st w Q) ∧ (¬ a = nI 0 → Wp d 158 16 ls st w Q)) := Wp.if2 (c := a = nI 0) (off := 22) e158_13 rfl rfl rfl rfl rfl
theorem e158_16 : decode (j_co 158) 16 = .ok (.aload_n 0, 1) := by decide +kernel
set_option maxRecDepth 20000 in
theorem w158_16 {d : Nat} {st : List Value} {Q : Option Value × jW → Prop} {w : jW} {a1 : Option Value} {x : Nat} : Wp d 158 16 [some (.ref x), a1] (st) w Q = Wp d 158 17 [some (.ref x), a1] (.ref x :: st) w Q := Wp.loc e158_16 rfl rfl rfl
theorem e158_17 : decode (j_co 158) 17 = .ok (.aload_n 0, 1) := by decide +kernel
set_option maxRecDepth 20000 in
theorem w158_17 {d : Nat} {st : List Value} {Q : Option Value × jW → Prop} {w : jW} {a1 : Option Value} {x : Nat} : Wp d 158 17 [some (.ref x), a1] (st) w Q = Wp d 158 18 [some (.ref x), a1] (.ref x :: st) w Q := Wp.loc e158_17 rfl rfl rfl
theorem e158_18 : decode (j_co 158) 18 = .ok (.getfield 45, 3) := by decide +kernel
set_option maxRecDepth 20000 in
theorem w158_18 {d : Nat} {st : List Value} {Q : Option Value × jW → Prop} {ls : jL} {xs : List Value} {I : fI} {L : fL} {o : Nat} (ht : f_tg o = 11) : Wp d 158 18 ls (.ref o :: st) (f_W xs I L) Q = Wp d 158 21 ls (.ref (f_rf o 14) :: st) (f_W xs I L) Q := Wp.getR (ci := 11) (k := 14) e158_18 rfl (by decide) (by decide) rfl ht
theorem e158_21 : decode (j_co 158) 21 = .ok (.bipush 6, 2) := by decide +kernel
set_option maxRecDepth 20000 in
theorem w158_21 {d : Nat} {st : List Value} {Q : Option Value × jW → Prop} {ls : jL} {w : jW} : Wp d 158 21 ls (st) w Q = Wp d 158 23 ls (.int (nI 6) :: st) w Q := Wp.alu e158_21 rfl rfl
theorem e158_23 : decode (j_co 158) 23 = .ok (.iload_n 1, 1) := by decide +kernel
set_option maxRecDepth 20000 in
theorem w158_23 {d : Nat} {st : List Value} {Q : Option Value × jW → Prop} {w : jW} {a0 : Option Value} {x : Int32} : Wp d 158 23 [a0, some (.int x)] (st) w Q = Wp d 158 24 [a0, some (.int x)] (.int x :: st) w Q := Wp.loc e158_23 rfl rfl rfl
theorem e158_24 : decode (j_co 158) 24 = .ok (.imul, 1) := by decide +kernel
set_option maxRecDepth 20000 in
theorem w158_24 {d : Nat} {st : List Value} {Q : Option Value × jW → Prop} {ls : jL} {w : jW} {a b : Int32} : Wp d 158 24 ls (.int b :: .int a :: st) w Q = Wp d 158 25 ls (.int (a * b) :: st) w Q := Wp.alu e158_24 rfl rfl
theorem e158_25 : decode (j_co 158) 25 = .ok (.invokevirtual 138, 3) := by decide +kernel
set_option maxRecDepth 20000 in
theorem w158_25 {d : Nat} {st : List Value} {Q : Option Value × jW → Prop} {ls : jL} {xs : List Value} {I : fI} {L : fL} {r : Nat} {x0 : Nat} {x1 : Int32} (hs : j_sumc st ≤ 8) (ht : f_tg r = 11) : Wp (d + 1) 158 25 ls (.int x1 :: .ref x0 :: .ref r :: st) (f_W xs I L) Q = Wp d 139 0 [some (.ref r), some (.ref x0), some (.int x1), none, none] [] (f_W xs I L) (fun r1 => Wp (d + 1) 158 28 ls (r1.1.toList ++ st) r1.2 Q) := Wp.cv (y' := 139) (as := [.ref x0, .int x1]) e158_25 rfl (by decide) rfl (show 3 ≤ 5 by decide) (by decide) hs ht
theorem e158_28 : decode (j_co 158) 28 = .ok (.ifCond .eq 7, 3) := by decide +kernel
set_option maxRecDepth 20000 in
theorem w158_28 {d : Nat} {st : List Value} {Q : Option Value × jW → Prop} {ls : jL} {w : jW} {a : Int32} : Wp d 158 28 ls (.int a :: st) w Q = ((a = nI 0 → Wp d 158 35 ls st w Q) ∧ (¬ a = nI 0 → Wp d 158 31 ls st w Q)) := Wp.if2 (c := a = nI 0) (off := 7) e158_28 rfl rfl rfl rfl rfl
theorem e158_31 : decode (j_co 158) 31 = .ok (.iconst 1, 1) := by decide +kernel
set_option maxRecDepth 20000 in
theorem w158_31 {d : Nat} {st : List Value} {Q : Option Value × jW → Prop} {ls : jL} {w : jW} : Wp d 158 31 ls (st) w Q = Wp d 158 32 ls (.int (nI 1) :: st) w Q := Wp.alu e158_31 rfl rfl
theorem e158_32 : decode (j_co 158) 32 = .ok (.goto 4, 3) := by decide +kernel
set_option maxRecDepth 20000 in
theorem w158_32 {d : Nat} {st : List Value} {Q : Option Value × jW → Prop} {ls : jL} {w : jW} : Wp d 158 32 ls (st) w Q = Wp d 158 36 ls (st) w Q := Wp.br e158_32 (Or.inl rfl) rfl rfl rfl rfl
theorem e158_35 : decode (j_co 158) 35 = .ok (.iconst 0, 1) := by decide +kernel
set_option maxRecDepth 20000 in
theorem w158_35 {d : Nat} {st : List Value} {Q : Option Value × jW → Prop} {ls : jL} {w : jW} : Wp d 158 35 ls (st) w Q = Wp d 158 36 ls (.int (nI 0) :: st) w Q := Wp.alu e158_35 rfl rfl
theorem e158_36 : decode (j_co 158) 36 = .ok (.ireturn, 1) := by decide +kernel
set_option maxRecDepth 20000 in
theorem w158_36 {d : Nat} {Q : Option Value × jW → Prop} {ls : jL} {w : jW} {x : Int32} (hx : x = 0 ∨ x = 1) : Wp d 158 36 ls [.int x] w Q = Q (some (.int x), w) := Wp.ret e158_36 (by rcases hx with rfl | rfl <;> rfl)
/-! M.fenced -/
theorem e159_0 : decode (j_co 159) 0 = .ok (.aload_n 0, 1) := by decide +kernel
set_option maxRecDepth 20000 in
theorem w159_0 {d : Nat} {st : List Value} {Q : Option Value × jW → Prop} {w : jW} {a1 : Option Value} {x : Nat} : Wp d 159 0 [some (.ref x), a1] (st) w Q = Wp d 159 1 [some (.ref x), a1] (.ref x :: st) w Q := Wp.loc e159_0 rfl rfl rfl
theorem e159_1 : decode (j_co 159) 1 = .ok (.aload_n 0, 1) := by decide +kernel
set_option maxRecDepth 20000 in
theorem w159_1 {d : Nat} {st : List Value} {Q : Option Value × jW → Prop} {w : jW} {a1 : Option Value} {x : Nat} : Wp d 159 1 [some (.ref x), a1] (st) w Q = Wp d 159 2 [some (.ref x), a1] (.ref x :: st) w Q := Wp.loc e159_1 rfl rfl rfl
theorem e159_2 : decode (j_co 159) 2 = .ok (.getfield 45, 3) := by decide +kernel
set_option maxRecDepth 20000 in
theorem w159_2 {d : Nat} {st : List Value} {Q : Option Value × jW → Prop} {ls : jL} {xs : List Value} {I : fI} {L : fL} {o : Nat} (ht : f_tg o = 11) : Wp d 159 2 ls (.ref o :: st) (f_W xs I L) Q = Wp d 159 5 ls (.ref (f_rf o 14) :: st) (f_W xs I L) Q := Wp.getR (ci := 11) (k := 14) e159_2 rfl (by decide) (by decide) rfl ht
theorem e159_5 : decode (j_co 159) 5 = .ok (.bipush 6, 2) := by decide +kernel
set_option maxRecDepth 20000 in
theorem w159_5 {d : Nat} {st : List Value} {Q : Option Value × jW → Prop} {ls : jL} {w : jW} : Wp d 159 5 ls (st) w Q = Wp d 159 7 ls (.int (nI 6) :: st) w Q := Wp.alu e159_5 rfl rfl
theorem e159_7 : decode (j_co 159) 7 = .ok (.iload_n 1, 1) := by decide +kernel
set_option maxRecDepth 20000 in
theorem w159_7 {d : Nat} {st : List Value} {Q : Option Value × jW → Prop} {w : jW} {a0 : Option Value} {x : Int32} : Wp d 159 7 [a0, some (.int x)] (st) w Q = Wp d 159 8 [a0, some (.int x)] (.int x :: st) w Q := Wp.loc e159_7 rfl rfl rfl
theorem e159_8 : decode (j_co 159) 8 = .ok (.imul, 1) := by decide +kernel
set_option maxRecDepth 20000 in
theorem w159_8 {d : Nat} {st : List Value} {Q : Option Value × jW → Prop} {ls : jL} {w : jW} {a b : Int32} : Wp d 159 8 ls (.int b :: .int a :: st) w Q = Wp d 159 9 ls (.int (a * b) :: st) w Q := Wp.alu e159_8 rfl rfl
theorem e159_9 : decode (j_co 159) 9 = .ok (.invokevirtual 159, 3) := by decide +kernel
set_option maxRecDepth 20000 in
theorem w159_9 {d : Nat} {st : List Value} {Q : Option Value × jW → Prop} {ls : jL} {xs : List Value} {I : fI} {L : fL} {r : Nat} {x0 : Nat} {x1 : Int32} (hs : j_sumc st ≤ 8) (ht : f_tg r = 11) : Wp (d + 1) 159 9 ls (.int x1 :: .ref x0 :: .ref r :: st) (f_W xs I L) Q = Wp d 130 0 [some (.ref r), some (.ref x0), some (.int x1), none] [] (f_W xs I L) (fun r1 => Wp (d + 1) 159 12 ls (r1.1.toList ++ st) r1.2 Q) := Wp.cv (y' := 130) (as := [.ref x0, .int x1]) e159_9 rfl (by decide) rfl (show 3 ≤ 4 by decide) (by decide) hs ht
theorem e159_12 : decode (j_co 159) 12 = .ok (.aload_n 0, 1) := by decide +kernel
set_option maxRecDepth 20000 in
theorem w159_12 {d : Nat} {st : List Value} {Q : Option Value × jW → Prop} {w : jW} {a1 : Option Value} {x : Nat} : Wp d 159 12 [some (.ref x), a1] (st) w Q = Wp d 159 13 [some (.ref x), a1] (.ref x :: st) w Q := Wp.loc e159_12 rfl rfl rfl
theorem e159_13 : decode (j_co 159) 13 = .ok (.aload_n 0, 1) := by decide +kernel
set_option maxRecDepth 20000 in
theorem w159_13 {d : Nat} {st : List Value} {Q : Option Value × jW → Prop} {w : jW} {a1 : Option Value} {x : Nat} : Wp d 159 13 [some (.ref x), a1] (st) w Q = Wp d 159 14 [some (.ref x), a1] (.ref x :: st) w Q := Wp.loc e159_13 rfl rfl rfl
theorem e159_14 : decode (j_co 159) 14 = .ok (.getfield 7, 3) := by decide +kernel
set_option maxRecDepth 20000 in
theorem w159_14 {d : Nat} {st : List Value} {Q : Option Value × jW → Prop} {ls : jL} {xs : List Value} {I : fI} {L : fL} {o : Nat} (ht : f_tg o = 11) : Wp d 159 14 ls (.ref o :: st) (f_W xs I L) Q = Wp d 159 17 ls (.ref (f_rf o 1) :: st) (f_W xs I L) Q := Wp.getR (ci := 11) (k := 1) e159_14 rfl (by decide) (by decide) rfl ht
theorem e159_17 : decode (j_co 159) 17 = .ok (.bipush 6, 2) := by decide +kernel
set_option maxRecDepth 20000 in
theorem w159_17 {d : Nat} {st : List Value} {Q : Option Value × jW → Prop} {ls : jL} {w : jW} : Wp d 159 17 ls (st) w Q = Wp d 159 19 ls (.int (nI 6) :: st) w Q := Wp.alu e159_17 rfl rfl
theorem e159_19 : decode (j_co 159) 19 = .ok (.iload_n 1, 1) := by decide +kernel
set_option maxRecDepth 20000 in
theorem w159_19 {d : Nat} {st : List Value} {Q : Option Value × jW → Prop} {w : jW} {a0 : Option Value} {x : Int32} : Wp d 159 19 [a0, some (.int x)] (st) w Q = Wp d 159 20 [a0, some (.int x)] (.int x :: st) w Q := Wp.loc e159_19 rfl rfl rfl
theorem e159_20 : decode (j_co 159) 20 = .ok (.imul, 1) := by decide +kernel
set_option maxRecDepth 20000 in
theorem w159_20 {d : Nat} {st : List Value} {Q : Option Value × jW → Prop} {ls : jL} {w : jW} {a b : Int32} : Wp d 159 20 ls (.int b :: .int a :: st) w Q = Wp d 159 21 ls (.int (a * b) :: st) w Q := Wp.alu e159_20 rfl rfl
theorem e159_21 : decode (j_co 159) 21 = .ok (.invokevirtual 128, 3) := by decide +kernel
set_option maxRecDepth 20000 in
theorem w159_21 {d : Nat} {st : List Value} {Q : Option Value × jW → Prop} {ls : jL} {xs : List Value} {I : fI} {L : fL} {r : Nat} {x0 : Nat} {x1 : Int32} (hs : j_sumc st ≤ 8) (ht : f_tg r = 11) : Wp (d + 1) 159 21 ls (.int x1 :: .ref x0 :: .ref r :: st) (f_W xs I L) Q = Wp d 131 0 [some (.ref r), some (.ref x0), some (.int x1), none, none, none] [] (f_W xs I L) (fun r1 => Wp (d + 1) 159 24 ls (r1.1.toList ++ st) r1.2 Q) := Wp.cv (y' := 131) (as := [.ref x0, .int x1]) e159_21 rfl (by decide) rfl (show 3 ≤ 6 by decide) (by decide) hs ht
theorem e159_24 : decode (j_co 159) 24 = .ok (.return_, 1) := by decide +kernel
set_option maxRecDepth 20000 in
theorem w159_24 {d : Nat} {Q : Option Value × jW → Prop} {ls : jL} {w : jW} : Wp d 159 24 ls [] w Q = Q (none, w) := Wp.ret e159_24 rfl
/-! M.run -/
theorem e160_0 : decode (j_co 160) 0 = .ok (.iload_n 1, 1) := by decide +kernel
set_option maxRecDepth 20000 in
theorem w160_0 {d : Nat} {st : List Value} {Q : Option Value × jW → Prop} {w : jW} {a0 a2 a3 a4 a5 : Option Value} {x : Int32} : Wp d 160 0 [a0, some (.int x), a2, a3, a4, a5] (st) w Q = Wp d 160 1 [a0, some (.int x), a2, a3, a4, a5] (.int x :: st) w Q := Wp.loc e160_0 rfl rfl rfl
theorem e160_1 : decode (j_co 160) 1 = .ok (.iload_n 2, 1) := by decide +kernel
set_option maxRecDepth 20000 in
theorem w160_1 {d : Nat} {st : List Value} {Q : Option Value × jW → Prop} {w : jW} {a0 a1 a3 a4 a5 : Option Value} {x : Int32} : Wp d 160 1 [a0, a1, some (.int x), a3, a4, a5] (st) w Q = Wp d 160 2 [a0, a1, some (.int x), a3, a4, a5] (.int x :: st) w Q := Wp.loc e160_1 rfl rfl rfl
theorem e160_2 : decode (j_co 160) 2 = .ok (.iload_n 3, 1) := by decide +kernel
set_option maxRecDepth 20000 in
theorem w160_2 {d : Nat} {st : List Value} {Q : Option Value × jW → Prop} {w : jW} {a0 a1 a2 a4 a5 : Option Value} {x : Int32} : Wp d 160 2 [a0, a1, a2, some (.int x), a4, a5] (st) w Q = Wp d 160 3 [a0, a1, a2, some (.int x), a4, a5] (.int x :: st) w Q := Wp.loc e160_2 rfl rfl rfl
theorem e160_3 : decode (j_co 160) 3 = .ok (.invokestatic 201, 3) := by decide +kernel
set_option maxRecDepth 20000 in
theorem w160_3 {d : Nat} {st : List Value} {Q : Option Value × jW → Prop} {ls : jL} {w : jW} {x0 : Int32} {x1 : Int32} {x2 : Int32} (hs : j_sumc st ≤ 8) : Wp (d + 1) 160 3 ls (.int x2 :: .int x1 :: .int x0 :: st) w Q = Wp d 148 0 [some (.int x0), some (.int x1), some (.int x2)] [] w (fun r1 => Wp (d + 1) 160 6 ls (r1.1.toList ++ st) r1.2 Q) := Wp.cs (kd := 1) (y' := 148) (as := [.int x0, .int x1, .int x2]) e160_3 rfl (by decide) (by decide) rfl (show 3 ≤ 3 by decide) hs
theorem e160_6 : decode (j_co 160) 6 = .ok (.ifCond .ne 5, 3) := by decide +kernel
set_option maxRecDepth 20000 in
theorem w160_6 {d : Nat} {st : List Value} {Q : Option Value × jW → Prop} {ls : jL} {w : jW} {a : Int32} : Wp d 160 6 ls (.int a :: st) w Q = ((a = nI 0 → Wp d 160 9 ls st w Q) ∧ (¬ a = nI 0 → Wp d 160 11 ls st w Q)) := Wp.if2n (c := a = nI 0) (off := 5) e160_6 rfl rfl rfl rfl rfl
theorem e160_9 : decode (j_co 160) 9 = .ok (.iconst (-1), 1) := by decide +kernel
set_option maxRecDepth 20000 in
theorem w160_9 {d : Nat} {st : List Value} {Q : Option Value × jW → Prop} {ls : jL} {w : jW} : Wp d 160 9 ls (st) w Q = Wp d 160 10 ls (.int (-1) :: st) w Q := Wp.alu e160_9 rfl rfl
theorem e160_10 : decode (j_co 160) 10 = .ok (.ireturn, 1) := by decide +kernel
set_option maxRecDepth 20000 in
theorem w160_10 {d : Nat} {Q : Option Value × jW → Prop} {ls : jL} {w : jW} {x : Int32} : Wp d 160 10 ls [.int x] w Q = Q (some (.int x), w) := Wp.ret e160_10 rfl
theorem e160_11 : decode (j_co 160) 11 = .ok (.aload_n 0, 1) := by decide +kernel
set_option maxRecDepth 20000 in
theorem w160_11 {d : Nat} {st : List Value} {Q : Option Value × jW → Prop} {w : jW} {a1 a2 a3 a4 a5 : Option Value} {x : Nat} : Wp d 160 11 [some (.ref x), a1, a2, a3, a4, a5] (st) w Q = Wp d 160 12 [some (.ref x), a1, a2, a3, a4, a5] (.ref x :: st) w Q := Wp.loc e160_11 rfl rfl rfl
theorem e160_12 : decode (j_co 160) 12 = .ok (.invokevirtual 172, 3) := by decide +kernel
set_option maxRecDepth 20000 in
theorem w160_12 {d : Nat} {st : List Value} {Q : Option Value × jW → Prop} {ls : jL} {xs : List Value} {I : fI} {L : fL} {r : Nat} (hs : j_sumc st ≤ 8) (ht : f_tg r = 11) : Wp (d + 1) 160 12 ls (.ref r :: st) (f_W xs I L) Q = Wp d 129 0 [some (.ref r)] [] (f_W xs I L) (fun r1 => Wp (d + 1) 160 15 ls (r1.1.toList ++ st) r1.2 Q) := Wp.cv (y' := 129) (as := []) e160_12 rfl (by decide) rfl (show 1 ≤ 1 by decide) (by decide) hs ht
theorem e160_15 : decode (j_co 160) 15 = .ok (.istore 4, 2) := by decide +kernel
set_option maxRecDepth 20000 in
theorem w160_15 {d : Nat} {st : List Value} {Q : Option Value × jW → Prop} {w : jW} {a0 a1 a2 a3 a4 a5 : Option Value} {x : Int32} (h : j_cp a3) : Wp d 160 15 [a0, a1, a2, a3, a4, a5] (.int x :: st) w Q = Wp d 160 17 [a0, a1, a2, a3, some (.int x), a5] (st) w Q := Wp.loc e160_15 rfl rfl (v_stI (ls := [a0, a1, a2, a3, a4, a5]) (k := 4) (show 4 < 6 by decide) h)
theorem e160_17 : decode (j_co 160) 17 = .ok (.iconst 0, 1) := by decide +kernel
set_option maxRecDepth 20000 in
theorem w160_17 {d : Nat} {st : List Value} {Q : Option Value × jW → Prop} {ls : jL} {w : jW} : Wp d 160 17 ls (st) w Q = Wp d 160 18 ls (.int (nI 0) :: st) w Q := Wp.alu e160_17 rfl rfl
theorem e160_18 : decode (j_co 160) 18 = .ok (.istore 5, 2) := by decide +kernel
set_option maxRecDepth 20000 in
theorem w160_18 {d : Nat} {st : List Value} {Q : Option Value × jW → Prop} {w : jW} {a0 a1 a2 a3 a4 a5 : Option Value} {x : Int32} (h : j_cp a4) : Wp d 160 18 [a0, a1, a2, a3, a4, a5] (.int x :: st) w Q = Wp d 160 20 [a0, a1, a2, a3, a4, some (.int x)] (st) w Q := Wp.loc e160_18 rfl rfl (v_stI (ls := [a0, a1, a2, a3, a4, a5]) (k := 5) (show 5 < 6 by decide) h)
theorem e160_20 : decode (j_co 160) 20 = .ok (.iload 5, 2) := by decide +kernel
set_option maxRecDepth 20000 in
theorem w160_20 {d : Nat} {st : List Value} {Q : Option Value × jW → Prop} {w : jW} {a0 a1 a2 a3 a4 : Option Value} {x : Int32} : Wp d 160 20 [a0, a1, a2, a3, a4, some (.int x)] (st) w Q = Wp d 160 22 [a0, a1, a2, a3, a4, some (.int x)] (.int x :: st) w Q := Wp.loc e160_20 rfl rfl rfl
theorem e160_22 : decode (j_co 160) 22 = .ok (.bipush 6, 2) := by decide +kernel
set_option maxRecDepth 20000 in
theorem w160_22 {d : Nat} {st : List Value} {Q : Option Value × jW → Prop} {ls : jL} {w : jW} : Wp d 160 22 ls (st) w Q = Wp d 160 24 ls (.int (nI 6) :: st) w Q := Wp.alu e160_22 rfl rfl
theorem e160_24 : decode (j_co 160) 24 = .ok (.if_icmp .ge 23, 3) := by decide +kernel
set_option maxRecDepth 20000 in
theorem w160_24 {d : Nat} {st : List Value} {Q : Option Value × jW → Prop} {ls : jL} {w : jW} {a b : Int32} : Wp d 160 24 ls (.int b :: .int a :: st) w Q = ((b ≤ a → Wp d 160 47 ls st w Q) ∧ (¬ b ≤ a → Wp d 160 27 ls st w Q)) := Wp.if2 (c := b ≤ a) (off := 23) e160_24 rfl rfl rfl rfl rfl
theorem e160_27 : decode (j_co 160) 27 = .ok (.aload_n 0, 1) := by decide +kernel
set_option maxRecDepth 20000 in
theorem w160_27 {d : Nat} {st : List Value} {Q : Option Value × jW → Prop} {w : jW} {a1 a2 a3 a4 a5 : Option Value} {x : Nat} : Wp d 160 27 [some (.ref x), a1, a2, a3, a4, a5] (st) w Q = Wp d 160 28 [some (.ref x), a1, a2, a3, a4, a5] (.ref x :: st) w Q := Wp.loc e160_27 rfl rfl rfl
theorem e160_28 : decode (j_co 160) 28 = .ok (.getfield 69, 3) := by decide +kernel
set_option maxRecDepth 20000 in
theorem w160_28 {d : Nat} {st : List Value} {Q : Option Value × jW → Prop} {ls : jL} {xs : List Value} {I : fI} {L : fL} {o : Nat} (ht : f_tg o = 11) : Wp d 160 28 ls (.ref o :: st) (f_W xs I L) Q = Wp d 160 31 ls (.ref (f_rf o 26) :: st) (f_W xs I L) Q := Wp.getR (ci := 11) (k := 26) e160_28 rfl (by decide) (by decide) rfl ht
theorem e160_31 : decode (j_co 160) 31 = .ok (.iload 5, 2) := by decide +kernel
set_option maxRecDepth 20000 in
theorem w160_31 {d : Nat} {st : List Value} {Q : Option Value × jW → Prop} {w : jW} {a0 a1 a2 a3 a4 : Option Value} {x : Int32} : Wp d 160 31 [a0, a1, a2, a3, a4, some (.int x)] (st) w Q = Wp d 160 33 [a0, a1, a2, a3, a4, some (.int x)] (.int x :: st) w Q := Wp.loc e160_31 rfl rfl rfl
theorem e160_33 : decode (j_co 160) 33 = .ok (.aload_n 0, 1) := by decide +kernel
set_option maxRecDepth 20000 in
theorem w160_33 {d : Nat} {st : List Value} {Q : Option Value × jW → Prop} {w : jW} {a1 a2 a3 a4 a5 : Option Value} {x : Nat} : Wp d 160 33 [some (.ref x), a1, a2, a3, a4, a5] (st) w Q = Wp d 160 34 [some (.ref x), a1, a2, a3, a4, a5] (.ref x :: st) w Q := Wp.loc e160_33 rfl rfl rfl
theorem e160_34 : decode (j_co 160) 34 = .ok (.getfield 48, 3) := by decide +kernel
set_option maxRecDepth 20000 in
theorem w160_34 {d : Nat} {st : List Value} {Q : Option Value × jW → Prop} {ls : jL} {xs : List Value} {I : fI} {L : fL} {o : Nat} (ht : f_tg o = 11) : Wp d 160 34 ls (.ref o :: st) (f_W xs I L) Q = Wp d 160 37 ls (.ref (f_rf o 15) :: st) (f_W xs I L) Q := Wp.getR (ci := 11) (k := 15) e160_34 rfl (by decide) (by decide) rfl ht
theorem e160_37 : decode (j_co 160) 37 = .ok (.iload 5, 2) := by decide +kernel
set_option maxRecDepth 20000 in
theorem w160_37 {d : Nat} {st : List Value} {Q : Option Value × jW → Prop} {w : jW} {a0 a1 a2 a3 a4 : Option Value} {x : Int32} : Wp d 160 37 [a0, a1, a2, a3, a4, some (.int x)] (st) w Q = Wp d 160 39 [a0, a1, a2, a3, a4, some (.int x)] (.int x :: st) w Q := Wp.loc e160_37 rfl rfl rfl
theorem e160_39 : decode (j_co 160) 39 = .ok (.iaload, 1) := by decide +kernel
set_option maxRecDepth 20000 in
theorem w160_39 {d : Nat} {st : List Value} {Q : Option Value × jW → Prop} {ls : jL} {xs : List Value} {I : fI} {L : fL} {o : Nat} {i : Int32} (ht : f_tg o = 100) (hi : ¬ (i < 0 ∨ f_ln o ≤ i.toNatClampNeg)) : Wp d 160 39 ls (.int i :: .ref o :: st) (f_W xs I L) Q = Wp d 160 40 ls (.int (I o i.toNatClampNeg) :: st) (f_W xs I L) Q := Wp.iald e160_39 ht hi
theorem e160_40 : decode (j_co 160) 40 = .ok (.iastore, 1) := by decide +kernel
set_option maxRecDepth 20000 in
theorem w160_40 {d : Nat} {st : List Value} {Q : Option Value × jW → Prop} {ls : jL} {xs : List Value} {I : fI} {L : fL} {o : Nat} {i x : Int32} (ht : f_tg o = 100) (hi : ¬ (i < 0 ∨ f_ln o ≤ i.toNatClampNeg)) : Wp d 160 40 ls (.int x :: .int i :: .ref o :: st) (f_W xs I L) Q = Wp d 160 41 ls (st) (f_W xs (f_up I o i.toNatClampNeg x) L) Q := Wp.iast e160_40 ht hi
theorem e160_41 : decode (j_co 160) 41 = .ok (.iinc 5 1, 3) := by decide +kernel
set_option maxRecDepth 20000 in
theorem w160_41 {d : Nat} {st : List Value} {Q : Option Value × jW → Prop} {w : jW} {a0 a1 a2 a3 a4 : Option Value} {x : Int32} (h : j_cp a4) : Wp d 160 41 [a0, a1, a2, a3, a4, some (.int x)] (st) w Q = Wp d 160 44 [a0, a1, a2, a3, a4, some (.int (x + nI 1))] (st) w Q := Wp.loc e160_41 rfl rfl (v_inc (ls := [a0, a1, a2, a3, a4, some (.int x)]) (k := 5) (n := 1) rfl (show 5 < 6 by decide) h)
theorem e160_44 : decode (j_co 160) 44 = .ok (.goto (-24), 3) := by decide +kernel
set_option maxRecDepth 20000 in
theorem w160_44 {d : Nat} {st : List Value} {Q : Option Value × jW → Prop} {ls : jL} {w : jW} : Wp d 160 44 ls (st) w Q = Wp d 160 20 ls (st) w Q := Wp.br e160_44 (Or.inl rfl) rfl rfl rfl rfl
theorem e160_47 : decode (j_co 160) 47 = .ok (.aload_n 0, 1) := by decide +kernel
set_option maxRecDepth 20000 in
theorem w160_47 {d : Nat} {st : List Value} {Q : Option Value × jW → Prop} {w : jW} {a1 a2 a3 a4 a5 : Option Value} {x : Nat} : Wp d 160 47 [some (.ref x), a1, a2, a3, a4, a5] (st) w Q = Wp d 160 48 [some (.ref x), a1, a2, a3, a4, a5] (.ref x :: st) w Q := Wp.loc e160_47 rfl rfl rfl
theorem e160_48 : decode (j_co 160) 48 = .ok (.iload_n 1, 1) := by decide +kernel
set_option maxRecDepth 20000 in
theorem w160_48 {d : Nat} {st : List Value} {Q : Option Value × jW → Prop} {w : jW} {a0 a2 a3 a4 a5 : Option Value} {x : Int32} : Wp d 160 48 [a0, some (.int x), a2, a3, a4, a5] (st) w Q = Wp d 160 49 [a0, some (.int x), a2, a3, a4, a5] (.int x :: st) w Q := Wp.loc e160_48 rfl rfl rfl
theorem e160_49 : decode (j_co 160) 49 = .ok (.iload_n 2, 1) := by decide +kernel
set_option maxRecDepth 20000 in
theorem w160_49 {d : Nat} {st : List Value} {Q : Option Value × jW → Prop} {w : jW} {a0 a1 a3 a4 a5 : Option Value} {x : Int32} : Wp d 160 49 [a0, a1, some (.int x), a3, a4, a5] (st) w Q = Wp d 160 50 [a0, a1, some (.int x), a3, a4, a5] (.int x :: st) w Q := Wp.loc e160_49 rfl rfl rfl
theorem e160_50 : decode (j_co 160) 50 = .ok (.iload_n 3, 1) := by decide +kernel
set_option maxRecDepth 20000 in
theorem w160_50 {d : Nat} {st : List Value} {Q : Option Value × jW → Prop} {w : jW} {a0 a1 a2 a4 a5 : Option Value} {x : Int32} : Wp d 160 50 [a0, a1, a2, some (.int x), a4, a5] (st) w Q = Wp d 160 51 [a0, a1, a2, some (.int x), a4, a5] (.int x :: st) w Q := Wp.loc e160_50 rfl rfl rfl
theorem e160_51 : decode (j_co 160) 51 = .ok (.invokevirtual 205, 3) := by decide +kernel
set_option maxRecDepth 20000 in
theorem w160_51 {d : Nat} {st : List Value} {Q : Option Value × jW → Prop} {ls : jL} {xs : List Value} {I : fI} {L : fL} {r : Nat} {x0 : Int32} {x1 : Int32} {x2 : Int32} (hs : j_sumc st ≤ 8) (ht : f_tg r = 11) : Wp (d + 1) 160 51 ls (.int x2 :: .int x1 :: .int x0 :: .ref r :: st) (f_W xs I L) Q = Wp d 149 0 [some (.ref r), some (.int x0), some (.int x1), some (.int x2)] [] (f_W xs I L) (fun r1 => Wp (d + 1) 160 54 ls (r1.1.toList ++ st) r1.2 Q) := Wp.cv (y' := 149) (as := [.int x0, .int x1, .int x2]) e160_51 rfl (by decide) rfl (show 4 ≤ 4 by decide) (by decide) hs ht
theorem e160_54 : decode (j_co 160) 54 = .ok (.iload 4, 2) := by decide +kernel
set_option maxRecDepth 20000 in
theorem w160_54 {d : Nat} {st : List Value} {Q : Option Value × jW → Prop} {w : jW} {a0 a1 a2 a3 a5 : Option Value} {x : Int32} : Wp d 160 54 [a0, a1, a2, a3, some (.int x), a5] (st) w Q = Wp d 160 56 [a0, a1, a2, a3, some (.int x), a5] (.int x :: st) w Q := Wp.loc e160_54 rfl rfl rfl
theorem e160_56 : decode (j_co 160) 56 = .ok (.ifCond .eq 15, 3) := by decide +kernel
set_option maxRecDepth 20000 in
theorem w160_56 {d : Nat} {st : List Value} {Q : Option Value × jW → Prop} {ls : jL} {w : jW} {a : Int32} : Wp d 160 56 ls (.int a :: st) w Q = ((a = nI 0 → Wp d 160 71 ls st w Q) ∧ (¬ a = nI 0 → Wp d 160 59 ls st w Q)) := Wp.if2 (c := a = nI 0) (off := 15) e160_56 rfl rfl rfl rfl rfl
theorem e160_59 : decode (j_co 160) 59 = .ok (.aload_n 0, 1) := by decide +kernel
set_option maxRecDepth 20000 in
theorem w160_59 {d : Nat} {st : List Value} {Q : Option Value × jW → Prop} {w : jW} {a1 a2 a3 a4 a5 : Option Value} {x : Nat} : Wp d 160 59 [some (.ref x), a1, a2, a3, a4, a5] (st) w Q = Wp d 160 60 [some (.ref x), a1, a2, a3, a4, a5] (.ref x :: st) w Q := Wp.loc e160_59 rfl rfl rfl
theorem e160_60 : decode (j_co 160) 60 = .ok (.aload_n 0, 1) := by decide +kernel
set_option maxRecDepth 20000 in
theorem w160_60 {d : Nat} {st : List Value} {Q : Option Value × jW → Prop} {w : jW} {a1 a2 a3 a4 a5 : Option Value} {x : Nat} : Wp d 160 60 [some (.ref x), a1, a2, a3, a4, a5] (st) w Q = Wp d 160 61 [some (.ref x), a1, a2, a3, a4, a5] (.ref x :: st) w Q := Wp.loc e160_60 rfl rfl rfl
theorem e160_61 : decode (j_co 160) 61 = .ok (.getfield 69, 3) := by decide +kernel
set_option maxRecDepth 20000 in
theorem w160_61 {d : Nat} {st : List Value} {Q : Option Value × jW → Prop} {ls : jL} {xs : List Value} {I : fI} {L : fL} {o : Nat} (ht : f_tg o = 11) : Wp d 160 61 ls (.ref o :: st) (f_W xs I L) Q = Wp d 160 64 ls (.ref (f_rf o 26) :: st) (f_W xs I L) Q := Wp.getR (ci := 11) (k := 26) e160_61 rfl (by decide) (by decide) rfl ht
theorem e160_64 : decode (j_co 160) 64 = .ok (.iconst 0, 1) := by decide +kernel
set_option maxRecDepth 20000 in
theorem w160_64 {d : Nat} {st : List Value} {Q : Option Value × jW → Prop} {ls : jL} {w : jW} : Wp d 160 64 ls (st) w Q = Wp d 160 65 ls (.int (nI 0) :: st) w Q := Wp.alu e160_64 rfl rfl
theorem e160_65 : decode (j_co 160) 65 = .ok (.invokevirtual 138, 3) := by decide +kernel
set_option maxRecDepth 20000 in
theorem w160_65 {d : Nat} {st : List Value} {Q : Option Value × jW → Prop} {ls : jL} {xs : List Value} {I : fI} {L : fL} {r : Nat} {x0 : Nat} {x1 : Int32} (hs : j_sumc st ≤ 8) (ht : f_tg r = 11) : Wp (d + 1) 160 65 ls (.int x1 :: .ref x0 :: .ref r :: st) (f_W xs I L) Q = Wp d 139 0 [some (.ref r), some (.ref x0), some (.int x1), none, none] [] (f_W xs I L) (fun r1 => Wp (d + 1) 160 68 ls (r1.1.toList ++ st) r1.2 Q) := Wp.cv (y' := 139) (as := [.ref x0, .int x1]) e160_65 rfl (by decide) rfl (show 3 ≤ 5 by decide) (by decide) hs ht
theorem e160_68 : decode (j_co 160) 68 = .ok (.ifCond .ne 6, 3) := by decide +kernel
set_option maxRecDepth 20000 in
theorem w160_68 {d : Nat} {st : List Value} {Q : Option Value × jW → Prop} {ls : jL} {w : jW} {a : Int32} : Wp d 160 68 ls (.int a :: st) w Q = ((a = nI 0 → Wp d 160 71 ls st w Q) ∧ (¬ a = nI 0 → Wp d 160 74 ls st w Q)) := Wp.if2n (c := a = nI 0) (off := 6) e160_68 rfl rfl rfl rfl rfl
theorem e160_71 : decode (j_co 160) 71 = .ok (.bipush (-2), 2) := by decide +kernel
set_option maxRecDepth 20000 in
theorem w160_71 {d : Nat} {st : List Value} {Q : Option Value × jW → Prop} {ls : jL} {w : jW} : Wp d 160 71 ls (st) w Q = Wp d 160 73 ls (.int (-2) :: st) w Q := Wp.alu e160_71 rfl rfl
theorem e160_73 : decode (j_co 160) 73 = .ok (.ireturn, 1) := by decide +kernel
set_option maxRecDepth 20000 in
theorem w160_73 {d : Nat} {Q : Option Value × jW → Prop} {ls : jL} {w : jW} {x : Int32} : Wp d 160 73 ls [.int x] w Q = Q (some (.int x), w) := Wp.ret e160_73 rfl
theorem e160_74 : decode (j_co 160) 74 = .ok (.aload_n 0, 1) := by decide +kernel
set_option maxRecDepth 20000 in
theorem w160_74 {d : Nat} {st : List Value} {Q : Option Value × jW → Prop} {w : jW} {a1 a2 a3 a4 a5 : Option Value} {x : Nat} : Wp d 160 74 [some (.ref x), a1, a2, a3, a4, a5] (st) w Q = Wp d 160 75 [some (.ref x), a1, a2, a3, a4, a5] (.ref x :: st) w Q := Wp.loc e160_74 rfl rfl rfl
theorem e160_75 : decode (j_co 160) 75 = .ok (.iconst 1, 1) := by decide +kernel
set_option maxRecDepth 20000 in
theorem w160_75 {d : Nat} {st : List Value} {Q : Option Value × jW → Prop} {ls : jL} {w : jW} : Wp d 160 75 ls (st) w Q = Wp d 160 76 ls (.int (nI 1) :: st) w Q := Wp.alu e160_75 rfl rfl
theorem e160_76 : decode (j_co 160) 76 = .ok (.putfield 225, 3) := by decide +kernel
set_option maxRecDepth 20000 in
theorem w160_76 {d : Nat} {st : List Value} {Q : Option Value × jW → Prop} {ls : jL} {xs : List Value} {I : fI} {L : fL} {o : Nat} {x : Int32} (ht : f_tg o = 11) (hx : x = 0 ∨ x = 1) : Wp d 160 76 ls (.int x :: .ref o :: st) (f_W xs I L) Q = Wp d 160 79 ls (st) (f_W xs (f_up I o 30 x) L) Q := Wp.putI (ci := 11) (k := 30) e160_76 rfl (by decide) (by decide) (by rcases hx with rfl | rfl <;> rfl) (by decide) ht
theorem e160_79 : decode (j_co 160) 79 = .ok (.aload_n 0, 1) := by decide +kernel
set_option maxRecDepth 20000 in
theorem w160_79 {d : Nat} {st : List Value} {Q : Option Value × jW → Prop} {w : jW} {a1 a2 a3 a4 a5 : Option Value} {x : Nat} : Wp d 160 79 [some (.ref x), a1, a2, a3, a4, a5] (st) w Q = Wp d 160 80 [some (.ref x), a1, a2, a3, a4, a5] (.ref x :: st) w Q := Wp.loc e160_79 rfl rfl rfl
theorem e160_80 : decode (j_co 160) 80 = .ok (.aload_n 0, 1) := by decide +kernel
set_option maxRecDepth 20000 in
theorem w160_80 {d : Nat} {st : List Value} {Q : Option Value × jW → Prop} {w : jW} {a1 a2 a3 a4 a5 : Option Value} {x : Nat} : Wp d 160 80 [some (.ref x), a1, a2, a3, a4, a5] (st) w Q = Wp d 160 81 [some (.ref x), a1, a2, a3, a4, a5] (.ref x :: st) w Q := Wp.loc e160_80 rfl rfl rfl
theorem e160_81 : decode (j_co 160) 81 = .ok (.getfield 123, 3) := by decide +kernel
set_option maxRecDepth 20000 in
theorem w160_81 {d : Nat} {st : List Value} {Q : Option Value × jW → Prop} {ls : jL} {xs : List Value} {I : fI} {L : fL} {o : Nat} (ht : f_tg o = 11) : Wp d 160 81 ls (.ref o :: st) (f_W xs I L) Q = Wp d 160 84 ls (.int (I o 9) :: st) (f_W xs I L) Q := Wp.getI (ci := 11) (k := 9) e160_81 rfl (by decide) (by decide) (by decide) ht
theorem e160_84 : decode (j_co 160) 84 = .ok (.putfield 228, 3) := by decide +kernel
set_option maxRecDepth 20000 in
theorem w160_84 {d : Nat} {st : List Value} {Q : Option Value × jW → Prop} {ls : jL} {xs : List Value} {I : fI} {L : fL} {o : Nat} {x : Int32} (ht : f_tg o = 11) : Wp d 160 84 ls (.int x :: .ref o :: st) (f_W xs I L) Q = Wp d 160 87 ls (st) (f_W xs (f_up I o 31 x) L) Q := Wp.putI (ci := 11) (k := 31) e160_84 rfl (by decide) (by decide) rfl (by decide) ht
theorem e160_87 : decode (j_co 160) 87 = .ok (.aload_n 0, 1) := by decide +kernel
set_option maxRecDepth 20000 in
theorem w160_87 {d : Nat} {st : List Value} {Q : Option Value × jW → Prop} {w : jW} {a1 a2 a3 a4 a5 : Option Value} {x : Nat} : Wp d 160 87 [some (.ref x), a1, a2, a3, a4, a5] (st) w Q = Wp d 160 88 [some (.ref x), a1, a2, a3, a4, a5] (.ref x :: st) w Q := Wp.loc e160_87 rfl rfl rfl
theorem e160_88 : decode (j_co 160) 88 = .ok (.getfield 78, 3) := by decide +kernel
set_option maxRecDepth 20000 in
theorem w160_88 {d : Nat} {st : List Value} {Q : Option Value × jW → Prop} {ls : jL} {xs : List Value} {I : fI} {L : fL} {o : Nat} (ht : f_tg o = 11) : Wp d 160 88 ls (.ref o :: st) (f_W xs I L) Q = Wp d 160 91 ls (.ref (f_rf o 32) :: st) (f_W xs I L) Q := Wp.getR (ci := 11) (k := 32) e160_88 rfl (by decide) (by decide) rfl ht
theorem e160_91 : decode (j_co 160) 91 = .ok (.iconst 0, 1) := by decide +kernel
set_option maxRecDepth 20000 in
theorem w160_91 {d : Nat} {st : List Value} {Q : Option Value × jW → Prop} {ls : jL} {w : jW} : Wp d 160 91 ls (st) w Q = Wp d 160 92 ls (.int (nI 0) :: st) w Q := Wp.alu e160_91 rfl rfl
theorem e160_92 : decode (j_co 160) 92 = .ok (.iload_n 1, 1) := by decide +kernel
set_option maxRecDepth 20000 in
theorem w160_92 {d : Nat} {st : List Value} {Q : Option Value × jW → Prop} {w : jW} {a0 a2 a3 a4 a5 : Option Value} {x : Int32} : Wp d 160 92 [a0, some (.int x), a2, a3, a4, a5] (st) w Q = Wp d 160 93 [a0, some (.int x), a2, a3, a4, a5] (.int x :: st) w Q := Wp.loc e160_92 rfl rfl rfl
theorem e160_93 : decode (j_co 160) 93 = .ok (.iastore, 1) := by decide +kernel
set_option maxRecDepth 20000 in
theorem w160_93 {d : Nat} {st : List Value} {Q : Option Value × jW → Prop} {ls : jL} {xs : List Value} {I : fI} {L : fL} {o : Nat} {i x : Int32} (ht : f_tg o = 100) (hi : ¬ (i < 0 ∨ f_ln o ≤ i.toNatClampNeg)) : Wp d 160 93 ls (.int x :: .int i :: .ref o :: st) (f_W xs I L) Q = Wp d 160 94 ls (st) (f_W xs (f_up I o i.toNatClampNeg x) L) Q := Wp.iast e160_93 ht hi
theorem e160_94 : decode (j_co 160) 94 = .ok (.aload_n 0, 1) := by decide +kernel
set_option maxRecDepth 20000 in
theorem w160_94 {d : Nat} {st : List Value} {Q : Option Value × jW → Prop} {w : jW} {a1 a2 a3 a4 a5 : Option Value} {x : Nat} : Wp d 160 94 [some (.ref x), a1, a2, a3, a4, a5] (st) w Q = Wp d 160 95 [some (.ref x), a1, a2, a3, a4, a5] (.ref x :: st) w Q := Wp.loc e160_94 rfl rfl rfl
theorem e160_95 : decode (j_co 160) 95 = .ok (.getfield 78, 3) := by decide +kernel
set_option maxRecDepth 20000 in
theorem w160_95 {d : Nat} {st : List Value} {Q : Option Value × jW → Prop} {ls : jL} {xs : List Value} {I : fI} {L : fL} {o : Nat} (ht : f_tg o = 11) : Wp d 160 95 ls (.ref o :: st) (f_W xs I L) Q = Wp d 160 98 ls (.ref (f_rf o 32) :: st) (f_W xs I L) Q := Wp.getR (ci := 11) (k := 32) e160_95 rfl (by decide) (by decide) rfl ht
theorem e160_98 : decode (j_co 160) 98 = .ok (.iconst 1, 1) := by decide +kernel
set_option maxRecDepth 20000 in
theorem w160_98 {d : Nat} {st : List Value} {Q : Option Value × jW → Prop} {ls : jL} {w : jW} : Wp d 160 98 ls (st) w Q = Wp d 160 99 ls (.int (nI 1) :: st) w Q := Wp.alu e160_98 rfl rfl
theorem e160_99 : decode (j_co 160) 99 = .ok (.iload_n 2, 1) := by decide +kernel
set_option maxRecDepth 20000 in
theorem w160_99 {d : Nat} {st : List Value} {Q : Option Value × jW → Prop} {w : jW} {a0 a1 a3 a4 a5 : Option Value} {x : Int32} : Wp d 160 99 [a0, a1, some (.int x), a3, a4, a5] (st) w Q = Wp d 160 100 [a0, a1, some (.int x), a3, a4, a5] (.int x :: st) w Q := Wp.loc e160_99 rfl rfl rfl
theorem e160_100 : decode (j_co 160) 100 = .ok (.iastore, 1) := by decide +kernel
set_option maxRecDepth 20000 in
theorem w160_100 {d : Nat} {st : List Value} {Q : Option Value × jW → Prop} {ls : jL} {xs : List Value} {I : fI} {L : fL} {o : Nat} {i x : Int32} (ht : f_tg o = 100) (hi : ¬ (i < 0 ∨ f_ln o ≤ i.toNatClampNeg)) : Wp d 160 100 ls (.int x :: .int i :: .ref o :: st) (f_W xs I L) Q = Wp d 160 101 ls (st) (f_W xs (f_up I o i.toNatClampNeg x) L) Q := Wp.iast e160_100 ht hi
theorem e160_101 : decode (j_co 160) 101 = .ok (.aload_n 0, 1) := by decide +kernel
set_option maxRecDepth 20000 in
theorem w160_101 {d : Nat} {st : List Value} {Q : Option Value × jW → Prop} {w : jW} {a1 a2 a3 a4 a5 : Option Value} {x : Nat} : Wp d 160 101 [some (.ref x), a1, a2, a3, a4, a5] (st) w Q = Wp d 160 102 [some (.ref x), a1, a2, a3, a4, a5] (.ref x :: st) w Q := Wp.loc e160_101 rfl rfl rfl
theorem e160_102 : decode (j_co 160) 102 = .ok (.getfield 78, 3) := by decide +kernel
set_option maxRecDepth 20000 in
theorem w160_102 {d : Nat} {st : List Value} {Q : Option Value × jW → Prop} {ls : jL} {xs : List Value} {I : fI} {L : fL} {o : Nat} (ht : f_tg o = 11) : Wp d 160 102 ls (.ref o :: st) (f_W xs I L) Q = Wp d 160 105 ls (.ref (f_rf o 32) :: st) (f_W xs I L) Q := Wp.getR (ci := 11) (k := 32) e160_102 rfl (by decide) (by decide) rfl ht
theorem e160_105 : decode (j_co 160) 105 = .ok (.iconst 2, 1) := by decide +kernel
set_option maxRecDepth 20000 in
theorem w160_105 {d : Nat} {st : List Value} {Q : Option Value × jW → Prop} {ls : jL} {w : jW} : Wp d 160 105 ls (st) w Q = Wp d 160 106 ls (.int (nI 2) :: st) w Q := Wp.alu e160_105 rfl rfl
theorem e160_106 : decode (j_co 160) 106 = .ok (.iload_n 3, 1) := by decide +kernel
set_option maxRecDepth 20000 in
theorem w160_106 {d : Nat} {st : List Value} {Q : Option Value × jW → Prop} {w : jW} {a0 a1 a2 a4 a5 : Option Value} {x : Int32} : Wp d 160 106 [a0, a1, a2, some (.int x), a4, a5] (st) w Q = Wp d 160 107 [a0, a1, a2, some (.int x), a4, a5] (.int x :: st) w Q := Wp.loc e160_106 rfl rfl rfl
theorem e160_107 : decode (j_co 160) 107 = .ok (.iastore, 1) := by decide +kernel
set_option maxRecDepth 20000 in
theorem w160_107 {d : Nat} {st : List Value} {Q : Option Value × jW → Prop} {ls : jL} {xs : List Value} {I : fI} {L : fL} {o : Nat} {i x : Int32} (ht : f_tg o = 100) (hi : ¬ (i < 0 ∨ f_ln o ≤ i.toNatClampNeg)) : Wp d 160 107 ls (.int x :: .int i :: .ref o :: st) (f_W xs I L) Q = Wp d 160 108 ls (st) (f_W xs (f_up I o i.toNatClampNeg x) L) Q := Wp.iast e160_107 ht hi
theorem e160_108 : decode (j_co 160) 108 = .ok (.aload_n 0, 1) := by decide +kernel
set_option maxRecDepth 20000 in
theorem w160_108 {d : Nat} {st : List Value} {Q : Option Value × jW → Prop} {w : jW} {a1 a2 a3 a4 a5 : Option Value} {x : Nat} : Wp d 160 108 [some (.ref x), a1, a2, a3, a4, a5] (st) w Q = Wp d 160 109 [some (.ref x), a1, a2, a3, a4, a5] (.ref x :: st) w Q := Wp.loc e160_108 rfl rfl rfl
theorem e160_109 : decode (j_co 160) 109 = .ok (.iconst 0, 1) := by decide +kernel
set_option maxRecDepth 20000 in
theorem w160_109 {d : Nat} {st : List Value} {Q : Option Value × jW → Prop} {ls : jL} {w : jW} : Wp d 160 109 ls (st) w Q = Wp d 160 110 ls (.int (nI 0) :: st) w Q := Wp.alu e160_109 rfl rfl
theorem e160_110 : decode (j_co 160) 110 = .ok (.putfield 231, 3) := by decide +kernel
set_option maxRecDepth 20000 in
theorem w160_110 {d : Nat} {st : List Value} {Q : Option Value × jW → Prop} {ls : jL} {xs : List Value} {I : fI} {L : fL} {o : Nat} {x : Int32} (ht : f_tg o = 11) : Wp d 160 110 ls (.int x :: .ref o :: st) (f_W xs I L) Q = Wp d 160 113 ls (st) (f_W xs (f_up I o 33 x) L) Q := Wp.putI (ci := 11) (k := 33) e160_110 rfl (by decide) (by decide) rfl (by decide) ht
theorem e160_113 : decode (j_co 160) 113 = .ok (.iconst 1, 1) := by decide +kernel
set_option maxRecDepth 20000 in
theorem w160_113 {d : Nat} {st : List Value} {Q : Option Value × jW → Prop} {ls : jL} {w : jW} : Wp d 160 113 ls (st) w Q = Wp d 160 114 ls (.int (nI 1) :: st) w Q := Wp.alu e160_113 rfl rfl
theorem e160_114 : decode (j_co 160) 114 = .ok (.ireturn, 1) := by decide +kernel
set_option maxRecDepth 20000 in
theorem w160_114 {d : Nat} {Q : Option Value × jW → Prop} {ls : jL} {w : jW} {x : Int32} : Wp d 160 114 ls [.int x] w Q = Q (some (.int x), w) := Wp.ret e160_114 rfl
/-! M.tick -/
theorem e161_0 : decode (j_co 161) 0 = .ok (.iload_n 1, 1) := by decide +kernel
set_option maxRecDepth 20000 in
theorem w161_0 {d : Nat} {st : List Value} {Q : Option Value × jW → Prop} {w : jW} {a0 a2 a3 a4 a5 a6 a7 : Option Value} {x : Int32} : Wp d 161 0 [a0, some (.int x), a2, a3, a4, a5, a6, a7] (st) w Q = Wp d 161 1 [a0, some (.int x), a2, a3, a4, a5, a6, a7] (.int x :: st) w Q := Wp.loc e161_0 rfl rfl rfl
theorem e161_1 : decode (j_co 161) 1 = .ok (.i2l, 1) := by decide +kernel
set_option maxRecDepth 20000 in
theorem w161_1 {d : Nat} {st : List Value} {Q : Option Value × jW → Prop} {ls : jL} {w : jW} {a : Int32} : Wp d 161 1 ls (.int a :: st) w Q = Wp d 161 2 ls (.long a.toInt64 :: st) w Q := Wp.alu e161_1 rfl rfl
theorem e161_2 : decode (j_co 161) 2 = .ok (.ldc2_w 234, 3) := by decide +kernel
set_option maxRecDepth 20000 in
theorem w161_2 {d : Nat} {st : List Value} {Q : Option Value × jW → Prop} {ls : jL} {w : jW} : Wp d 161 2 ls (st) w Q = Wp d 161 5 ls (.long (-5) :: st) w Q := Wp.ldc2 e161_2 rfl
theorem e161_5 : decode (j_co 161) 5 = .ok (.ldc2_w 121, 3) := by decide +kernel
set_option maxRecDepth 20000 in
theorem w161_5 {d : Nat} {st : List Value} {Q : Option Value × jW → Prop} {ls : jL} {w : jW} : Wp d 161 5 ls (st) w Q = Wp d 161 8 ls (.long (lN 5) :: st) w Q := Wp.ldc2 e161_5 rfl
theorem e161_8 : decode (j_co 161) 8 = .ok (.invokestatic 93, 3) := by decide +kernel
set_option maxRecDepth 20000 in
theorem w161_8 {d : Nat} {st : List Value} {Q : Option Value × jW → Prop} {ls : jL} {w : jW} {x0 : Int64} {x1 : Int64} {x2 : Int64} (hs : j_sumc st ≤ 8) : Wp (d + 1) 161 8 ls (.long x2 :: .long x1 :: .long x0 :: st) w Q = Wp d 115 0 [some (.long x0), none, some (.long x1), none, some (.long x2), none] [] w (fun r1 => Wp (d + 1) 161 11 ls (r1.1.toList ++ st) r1.2 Q) := Wp.cs (kd := 1) (y' := 115) (as := [.long x0, .long x1, .long x2]) e161_8 rfl (by decide) (by decide) rfl (show 6 ≤ 6 by decide) hs
theorem e161_11 : decode (j_co 161) 11 = .ok (.ifCond .eq 31, 3) := by decide +kernel
set_option maxRecDepth 20000 in
theorem w161_11 {d : Nat} {st : List Value} {Q : Option Value × jW → Prop} {ls : jL} {w : jW} {a : Int32} : Wp d 161 11 ls (.int a :: st) w Q = ((a = nI 0 → Wp d 161 42 ls st w Q) ∧ (¬ a = nI 0 → Wp d 161 14 ls st w Q)) := Wp.if2 (c := a = nI 0) (off := 31) e161_11 rfl rfl rfl rfl rfl
theorem e161_14 : decode (j_co 161) 14 = .ok (.iload_n 2, 1) := by decide +kernel
set_option maxRecDepth 20000 in
theorem w161_14 {d : Nat} {st : List Value} {Q : Option Value × jW → Prop} {w : jW} {a0 a1 a3 a4 a5 a6 a7 : Option Value} {x : Int32} : Wp d 161 14 [a0, a1, some (.int x), a3, a4, a5, a6, a7] (st) w Q = Wp d 161 15 [a0, a1, some (.int x), a3, a4, a5, a6, a7] (.int x :: st) w Q := Wp.loc e161_14 rfl rfl rfl
theorem e161_15 : decode (j_co 161) 15 = .ok (.i2l, 1) := by decide +kernel
set_option maxRecDepth 20000 in
theorem w161_15 {d : Nat} {st : List Value} {Q : Option Value × jW → Prop} {ls : jL} {w : jW} {a : Int32} : Wp d 161 15 ls (.int a :: st) w Q = Wp d 161 16 ls (.long a.toInt64 :: st) w Q := Wp.alu e161_15 rfl rfl
theorem e161_16 : decode (j_co 161) 16 = .ok (.ldc2_w 234, 3) := by decide +kernel
set_option maxRecDepth 20000 in
theorem w161_16 {d : Nat} {st : List Value} {Q : Option Value × jW → Prop} {ls : jL} {w : jW} : Wp d 161 16 ls (st) w Q = Wp d 161 19 ls (.long (-5) :: st) w Q := Wp.ldc2 e161_16 rfl
theorem e161_19 : decode (j_co 161) 19 = .ok (.ldc2_w 121, 3) := by decide +kernel
set_option maxRecDepth 20000 in
theorem w161_19 {d : Nat} {st : List Value} {Q : Option Value × jW → Prop} {ls : jL} {w : jW} : Wp d 161 19 ls (st) w Q = Wp d 161 22 ls (.long (lN 5) :: st) w Q := Wp.ldc2 e161_19 rfl
theorem e161_22 : decode (j_co 161) 22 = .ok (.invokestatic 93, 3) := by decide +kernel
set_option maxRecDepth 20000 in
theorem w161_22 {d : Nat} {st : List Value} {Q : Option Value × jW → Prop} {ls : jL} {w : jW} {x0 : Int64} {x1 : Int64} {x2 : Int64} (hs : j_sumc st ≤ 8) : Wp (d + 1) 161 22 ls (.long x2 :: .long x1 :: .long x0 :: st) w Q = Wp d 115 0 [some (.long x0), none, some (.long x1), none, some (.long x2), none] [] w (fun r1 => Wp (d + 1) 161 25 ls (r1.1.toList ++ st) r1.2 Q) := Wp.cs (kd := 1) (y' := 115) (as := [.long x0, .long x1, .long x2]) e161_22 rfl (by decide) (by decide) rfl (show 6 ≤ 6 by decide) hs
theorem e161_25 : decode (j_co 161) 25 = .ok (.ifCond .eq 17, 3) := by decide +kernel
set_option maxRecDepth 20000 in
theorem w161_25 {d : Nat} {st : List Value} {Q : Option Value × jW → Prop} {ls : jL} {w : jW} {a : Int32} : Wp d 161 25 ls (.int a :: st) w Q = ((a = nI 0 → Wp d 161 42 ls st w Q) ∧ (¬ a = nI 0 → Wp d 161 28 ls st w Q)) := Wp.if2 (c := a = nI 0) (off := 17) e161_25 rfl rfl rfl rfl rfl
theorem e161_28 : decode (j_co 161) 28 = .ok (.iload_n 3, 1) := by decide +kernel
set_option maxRecDepth 20000 in
theorem w161_28 {d : Nat} {st : List Value} {Q : Option Value × jW → Prop} {w : jW} {a0 a1 a2 a4 a5 a6 a7 : Option Value} {x : Int32} : Wp d 161 28 [a0, a1, a2, some (.int x), a4, a5, a6, a7] (st) w Q = Wp d 161 29 [a0, a1, a2, some (.int x), a4, a5, a6, a7] (.int x :: st) w Q := Wp.loc e161_28 rfl rfl rfl
theorem e161_29 : decode (j_co 161) 29 = .ok (.i2l, 1) := by decide +kernel
set_option maxRecDepth 20000 in
theorem w161_29 {d : Nat} {st : List Value} {Q : Option Value × jW → Prop} {ls : jL} {w : jW} {a : Int32} : Wp d 161 29 ls (.int a :: st) w Q = Wp d 161 30 ls (.long a.toInt64 :: st) w Q := Wp.alu e161_29 rfl rfl
theorem e161_30 : decode (j_co 161) 30 = .ok (.ldc2_w 234, 3) := by decide +kernel
set_option maxRecDepth 20000 in
theorem w161_30 {d : Nat} {st : List Value} {Q : Option Value × jW → Prop} {ls : jL} {w : jW} : Wp d 161 30 ls (st) w Q = Wp d 161 33 ls (.long (-5) :: st) w Q := Wp.ldc2 e161_30 rfl
theorem e161_33 : decode (j_co 161) 33 = .ok (.ldc2_w 121, 3) := by decide +kernel
set_option maxRecDepth 20000 in
theorem w161_33 {d : Nat} {st : List Value} {Q : Option Value × jW → Prop} {ls : jL} {w : jW} : Wp d 161 33 ls (st) w Q = Wp d 161 36 ls (.long (lN 5) :: st) w Q := Wp.ldc2 e161_33 rfl
theorem e161_36 : decode (j_co 161) 36 = .ok (.invokestatic 93, 3) := by decide +kernel
set_option maxRecDepth 20000 in
theorem w161_36 {d : Nat} {st : List Value} {Q : Option Value × jW → Prop} {ls : jL} {w : jW} {x0 : Int64} {x1 : Int64} {x2 : Int64} (hs : j_sumc st ≤ 8) : Wp (d + 1) 161 36 ls (.long x2 :: .long x1 :: .long x0 :: st) w Q = Wp d 115 0 [some (.long x0), none, some (.long x1), none, some (.long x2), none] [] w (fun r1 => Wp (d + 1) 161 39 ls (r1.1.toList ++ st) r1.2 Q) := Wp.cs (kd := 1) (y' := 115) (as := [.long x0, .long x1, .long x2]) e161_36 rfl (by decide) (by decide) rfl (show 6 ≤ 6 by decide) hs
theorem e161_39 : decode (j_co 161) 39 = .ok (.ifCond .ne 5, 3) := by decide +kernel
set_option maxRecDepth 20000 in
theorem w161_39 {d : Nat} {st : List Value} {Q : Option Value × jW → Prop} {ls : jL} {w : jW} {a : Int32} : Wp d 161 39 ls (.int a :: st) w Q = ((a = nI 0 → Wp d 161 42 ls st w Q) ∧ (¬ a = nI 0 → Wp d 161 44 ls st w Q)) := Wp.if2n (c := a = nI 0) (off := 5) e161_39 rfl rfl rfl rfl rfl
theorem e161_42 : decode (j_co 161) 42 = .ok (.iconst (-1), 1) := by decide +kernel
set_option maxRecDepth 20000 in
theorem w161_42 {d : Nat} {st : List Value} {Q : Option Value × jW → Prop} {ls : jL} {w : jW} : Wp d 161 42 ls (st) w Q = Wp d 161 43 ls (.int (-1) :: st) w Q := Wp.alu e161_42 rfl rfl
theorem e161_43 : decode (j_co 161) 43 = .ok (.ireturn, 1) := by decide +kernel
set_option maxRecDepth 20000 in
theorem w161_43 {d : Nat} {Q : Option Value × jW → Prop} {ls : jL} {w : jW} {x : Int32} : Wp d 161 43 ls [.int x] w Q = Q (some (.int x), w) := Wp.ret e161_43 rfl
theorem e161_44 : decode (j_co 161) 44 = .ok (.aload_n 0, 1) := by decide +kernel
set_option maxRecDepth 20000 in
theorem w161_44 {d : Nat} {st : List Value} {Q : Option Value × jW → Prop} {w : jW} {a1 a2 a3 a4 a5 a6 a7 : Option Value} {x : Nat} : Wp d 161 44 [some (.ref x), a1, a2, a3, a4, a5, a6, a7] (st) w Q = Wp d 161 45 [some (.ref x), a1, a2, a3, a4, a5, a6, a7] (.ref x :: st) w Q := Wp.loc e161_44 rfl rfl rfl
theorem e161_45 : decode (j_co 161) 45 = .ok (.getfield 225, 3) := by decide +kernel
set_option maxRecDepth 20000 in
theorem w161_45 {d : Nat} {st : List Value} {Q : Option Value × jW → Prop} {ls : jL} {xs : List Value} {I : fI} {L : fL} {o : Nat} (ht : f_tg o = 11) : Wp d 161 45 ls (.ref o :: st) (f_W xs I L) Q = Wp d 161 48 ls (.int (I o 30) :: st) (f_W xs I L) Q := Wp.getI (ci := 11) (k := 30) e161_45 rfl (by decide) (by decide) (by decide) ht
theorem e161_48 : decode (j_co 161) 48 = .ok (.istore 4, 2) := by decide +kernel
set_option maxRecDepth 20000 in
theorem w161_48 {d : Nat} {st : List Value} {Q : Option Value × jW → Prop} {w : jW} {a0 a1 a2 a3 a4 a5 a6 a7 : Option Value} {x : Int32} (h : j_cp a3) : Wp d 161 48 [a0, a1, a2, a3, a4, a5, a6, a7] (.int x :: st) w Q = Wp d 161 50 [a0, a1, a2, a3, some (.int x), a5, a6, a7] (st) w Q := Wp.loc e161_48 rfl rfl (v_stI (ls := [a0, a1, a2, a3, a4, a5, a6, a7]) (k := 4) (show 4 < 8 by decide) h)
theorem e161_50 : decode (j_co 161) 50 = .ok (.iconst 0, 1) := by decide +kernel
set_option maxRecDepth 20000 in
theorem w161_50 {d : Nat} {st : List Value} {Q : Option Value × jW → Prop} {ls : jL} {w : jW} : Wp d 161 50 ls (st) w Q = Wp d 161 51 ls (.int (nI 0) :: st) w Q := Wp.alu e161_50 rfl rfl
theorem e161_51 : decode (j_co 161) 51 = .ok (.istore 5, 2) := by decide +kernel
set_option maxRecDepth 20000 in
theorem w161_51 {d : Nat} {st : List Value} {Q : Option Value × jW → Prop} {w : jW} {a0 a1 a2 a3 a4 a5 a6 a7 : Option Value} {x : Int32} (h : j_cp a4) : Wp d 161 51 [a0, a1, a2, a3, a4, a5, a6, a7] (.int x :: st) w Q = Wp d 161 53 [a0, a1, a2, a3, a4, some (.int x), a6, a7] (st) w Q := Wp.loc e161_51 rfl rfl (v_stI (ls := [a0, a1, a2, a3, a4, a5, a6, a7]) (k := 5) (show 5 < 8 by decide) h)
theorem e161_53 : decode (j_co 161) 53 = .ok (.iload 5, 2) := by decide +kernel
set_option maxRecDepth 20000 in
theorem w161_53 {d : Nat} {st : List Value} {Q : Option Value × jW → Prop} {w : jW} {a0 a1 a2 a3 a4 a6 a7 : Option Value} {x : Int32} : Wp d 161 53 [a0, a1, a2, a3, a4, some (.int x), a6, a7] (st) w Q = Wp d 161 55 [a0, a1, a2, a3, a4, some (.int x), a6, a7] (.int x :: st) w Q := Wp.loc e161_53 rfl rfl rfl
theorem e161_55 : decode (j_co 161) 55 = .ok (.iconst 3, 1) := by decide +kernel
set_option maxRecDepth 20000 in
theorem w161_55 {d : Nat} {st : List Value} {Q : Option Value × jW → Prop} {ls : jL} {w : jW} : Wp d 161 55 ls (st) w Q = Wp d 161 56 ls (.int (nI 3) :: st) w Q := Wp.alu e161_55 rfl rfl
theorem e161_56 : decode (j_co 161) 56 = .ok (.if_icmp .ge 93, 3) := by decide +kernel
set_option maxRecDepth 20000 in
theorem w161_56 {d : Nat} {st : List Value} {Q : Option Value × jW → Prop} {ls : jL} {w : jW} {a b : Int32} : Wp d 161 56 ls (.int b :: .int a :: st) w Q = ((b ≤ a → Wp d 161 149 ls st w Q) ∧ (¬ b ≤ a → Wp d 161 59 ls st w Q)) := Wp.if2 (c := b ≤ a) (off := 93) e161_56 rfl rfl rfl rfl rfl
theorem e161_59 : decode (j_co 161) 59 = .ok (.iload 4, 2) := by decide +kernel
set_option maxRecDepth 20000 in
theorem w161_59 {d : Nat} {st : List Value} {Q : Option Value × jW → Prop} {w : jW} {a0 a1 a2 a3 a5 a6 a7 : Option Value} {x : Int32} : Wp d 161 59 [a0, a1, a2, a3, some (.int x), a5, a6, a7] (st) w Q = Wp d 161 61 [a0, a1, a2, a3, some (.int x), a5, a6, a7] (.int x :: st) w Q := Wp.loc e161_59 rfl rfl rfl
theorem e161_61 : decode (j_co 161) 61 = .ok (.ifCond .eq 88, 3) := by decide +kernel
set_option maxRecDepth 20000 in
theorem w161_61 {d : Nat} {st : List Value} {Q : Option Value × jW → Prop} {ls : jL} {w : jW} {a : Int32} : Wp d 161 61 ls (.int a :: st) w Q = ((a = nI 0 → Wp d 161 149 ls st w Q) ∧ (¬ a = nI 0 → Wp d 161 64 ls st w Q)) := Wp.if2 (c := a = nI 0) (off := 88) e161_61 rfl rfl rfl rfl rfl
theorem e161_64 : decode (j_co 161) 64 = .ok (.iload 5, 2) := by decide +kernel
set_option maxRecDepth 20000 in
theorem w161_64 {d : Nat} {st : List Value} {Q : Option Value × jW → Prop} {w : jW} {a0 a1 a2 a3 a4 a6 a7 : Option Value} {x : Int32} : Wp d 161 64 [a0, a1, a2, a3, a4, some (.int x), a6, a7] (st) w Q = Wp d 161 66 [a0, a1, a2, a3, a4, some (.int x), a6, a7] (.int x :: st) w Q := Wp.loc e161_64 rfl rfl rfl
theorem e161_66 : decode (j_co 161) 66 = .ok (.ifCond .ne 7, 3) := by decide +kernel
set_option maxRecDepth 20000 in
theorem w161_66 {d : Nat} {st : List Value} {Q : Option Value × jW → Prop} {ls : jL} {w : jW} {a : Int32} : Wp d 161 66 ls (.int a :: st) w Q = ((a = nI 0 → Wp d 161 69 ls st w Q) ∧ (¬ a = nI 0 → Wp d 161 73 ls st w Q)) := Wp.if2n (c := a = nI 0) (off := 7) e161_66 rfl rfl rfl rfl rfl
theorem e161_69 : decode (j_co 161) 69 = .ok (.iload_n 1, 1) := by decide +kernel
set_option maxRecDepth 20000 in
theorem w161_69 {d : Nat} {st : List Value} {Q : Option Value × jW → Prop} {w : jW} {a0 a2 a3 a4 a5 a6 a7 : Option Value} {x : Int32} : Wp d 161 69 [a0, some (.int x), a2, a3, a4, a5, a6, a7] (st) w Q = Wp d 161 70 [a0, some (.int x), a2, a3, a4, a5, a6, a7] (.int x :: st) w Q := Wp.loc e161_69 rfl rfl rfl
theorem e161_70 : decode (j_co 161) 70 = .ok (.goto 14, 3) := by decide +kernel
set_option maxRecDepth 20000 in
theorem w161_70 {d : Nat} {st : List Value} {Q : Option Value × jW → Prop} {ls : jL} {w : jW} : Wp d 161 70 ls (st) w Q = Wp d 161 84 ls (st) w Q := Wp.br e161_70 (Or.inl rfl) rfl rfl rfl rfl
theorem e161_73 : decode (j_co 161) 73 = .ok (.iload 5, 2) := by decide +kernel
set_option maxRecDepth 20000 in
theorem w161_73 {d : Nat} {st : List Value} {Q : Option Value × jW → Prop} {w : jW} {a0 a1 a2 a3 a4 a6 a7 : Option Value} {x : Int32} : Wp d 161 73 [a0, a1, a2, a3, a4, some (.int x), a6, a7] (st) w Q = Wp d 161 75 [a0, a1, a2, a3, a4, some (.int x), a6, a7] (.int x :: st) w Q := Wp.loc e161_73 rfl rfl rfl
theorem e161_75 : decode (j_co 161) 75 = .ok (.iconst 1, 1) := by decide +kernel
set_option maxRecDepth 20000 in
theorem w161_75 {d : Nat} {st : List Value} {Q : Option Value × jW → Prop} {ls : jL} {w : jW} : Wp d 161 75 ls (st) w Q = Wp d 161 76 ls (.int (nI 1) :: st) w Q := Wp.alu e161_75 rfl rfl
theorem e161_76 : decode (j_co 161) 76 = .ok (.if_icmp .ne 7, 3) := by decide +kernel
set_option maxRecDepth 20000 in
theorem w161_76 {d : Nat} {st : List Value} {Q : Option Value × jW → Prop} {ls : jL} {w : jW} {a b : Int32} : Wp d 161 76 ls (.int b :: .int a :: st) w Q = ((a = b → Wp d 161 79 ls st w Q) ∧ (¬ a = b → Wp d 161 83 ls st w Q)) := Wp.if2n (c := a = b) (off := 7) e161_76 rfl rfl rfl rfl rfl
theorem e161_79 : decode (j_co 161) 79 = .ok (.iload_n 2, 1) := by decide +kernel
set_option maxRecDepth 20000 in
theorem w161_79 {d : Nat} {st : List Value} {Q : Option Value × jW → Prop} {w : jW} {a0 a1 a3 a4 a5 a6 a7 : Option Value} {x : Int32} : Wp d 161 79 [a0, a1, some (.int x), a3, a4, a5, a6, a7] (st) w Q = Wp d 161 80 [a0, a1, some (.int x), a3, a4, a5, a6, a7] (.int x :: st) w Q := Wp.loc e161_79 rfl rfl rfl
theorem e161_80 : decode (j_co 161) 80 = .ok (.goto 4, 3) := by decide +kernel
set_option maxRecDepth 20000 in
theorem w161_80 {d : Nat} {st : List Value} {Q : Option Value × jW → Prop} {ls : jL} {w : jW} : Wp d 161 80 ls (st) w Q = Wp d 161 84 ls (st) w Q := Wp.br e161_80 (Or.inl rfl) rfl rfl rfl rfl
theorem e161_83 : decode (j_co 161) 83 = .ok (.iload_n 3, 1) := by decide +kernel
set_option maxRecDepth 20000 in
theorem w161_83 {d : Nat} {st : List Value} {Q : Option Value × jW → Prop} {w : jW} {a0 a1 a2 a4 a5 a6 a7 : Option Value} {x : Int32} : Wp d 161 83 [a0, a1, a2, some (.int x), a4, a5, a6, a7] (st) w Q = Wp d 161 84 [a0, a1, a2, some (.int x), a4, a5, a6, a7] (.int x :: st) w Q := Wp.loc e161_83 rfl rfl rfl
theorem e161_84 : decode (j_co 161) 84 = .ok (.istore 6, 2) := by decide +kernel
set_option maxRecDepth 20000 in
theorem w161_84 {d : Nat} {st : List Value} {Q : Option Value × jW → Prop} {w : jW} {a0 a1 a2 a3 a4 a5 a6 a7 : Option Value} {x : Int32} (h : j_cp a5) : Wp d 161 84 [a0, a1, a2, a3, a4, a5, a6, a7] (.int x :: st) w Q = Wp d 161 86 [a0, a1, a2, a3, a4, a5, some (.int x), a7] (st) w Q := Wp.loc e161_84 rfl rfl (v_stI (ls := [a0, a1, a2, a3, a4, a5, a6, a7]) (k := 6) (show 6 < 8 by decide) h)
theorem e161_86 : decode (j_co 161) 86 = .ok (.bipush 6, 2) := by decide +kernel
set_option maxRecDepth 20000 in
theorem w161_86 {d : Nat} {st : List Value} {Q : Option Value × jW → Prop} {ls : jL} {w : jW} : Wp d 161 86 ls (st) w Q = Wp d 161 88 ls (.int (nI 6) :: st) w Q := Wp.alu e161_86 rfl rfl
theorem e161_88 : decode (j_co 161) 88 = .ok (.aload_n 0, 1) := by decide +kernel
set_option maxRecDepth 20000 in
theorem w161_88 {d : Nat} {st : List Value} {Q : Option Value × jW → Prop} {w : jW} {a1 a2 a3 a4 a5 a6 a7 : Option Value} {x : Nat} : Wp d 161 88 [some (.ref x), a1, a2, a3, a4, a5, a6, a7] (st) w Q = Wp d 161 89 [some (.ref x), a1, a2, a3, a4, a5, a6, a7] (.ref x :: st) w Q := Wp.loc e161_88 rfl rfl rfl
theorem e161_89 : decode (j_co 161) 89 = .ok (.getfield 228, 3) := by decide +kernel
set_option maxRecDepth 20000 in
theorem w161_89 {d : Nat} {st : List Value} {Q : Option Value × jW → Prop} {ls : jL} {xs : List Value} {I : fI} {L : fL} {o : Nat} (ht : f_tg o = 11) : Wp d 161 89 ls (.ref o :: st) (f_W xs I L) Q = Wp d 161 92 ls (.int (I o 31) :: st) (f_W xs I L) Q := Wp.getI (ci := 11) (k := 31) e161_89 rfl (by decide) (by decide) (by decide) ht
theorem e161_92 : decode (j_co 161) 92 = .ok (.imul, 1) := by decide +kernel
set_option maxRecDepth 20000 in
theorem w161_92 {d : Nat} {st : List Value} {Q : Option Value × jW → Prop} {ls : jL} {w : jW} {a b : Int32} : Wp d 161 92 ls (.int b :: .int a :: st) w Q = Wp d 161 93 ls (.int (a * b) :: st) w Q := Wp.alu e161_92 rfl rfl
theorem e161_93 : decode (j_co 161) 93 = .ok (.iconst 2, 1) := by decide +kernel
set_option maxRecDepth 20000 in
theorem w161_93 {d : Nat} {st : List Value} {Q : Option Value × jW → Prop} {ls : jL} {w : jW} : Wp d 161 93 ls (st) w Q = Wp d 161 94 ls (.int (nI 2) :: st) w Q := Wp.alu e161_93 rfl rfl
theorem e161_94 : decode (j_co 161) 94 = .ok (.iload 5, 2) := by decide +kernel
set_option maxRecDepth 20000 in
theorem w161_94 {d : Nat} {st : List Value} {Q : Option Value × jW → Prop} {w : jW} {a0 a1 a2 a3 a4 a6 a7 : Option Value} {x : Int32} : Wp d 161 94 [a0, a1, a2, a3, a4, some (.int x), a6, a7] (st) w Q = Wp d 161 96 [a0, a1, a2, a3, a4, some (.int x), a6, a7] (.int x :: st) w Q := Wp.loc e161_94 rfl rfl rfl
theorem e161_96 : decode (j_co 161) 96 = .ok (.imul, 1) := by decide +kernel
set_option maxRecDepth 20000 in
theorem w161_96 {d : Nat} {st : List Value} {Q : Option Value × jW → Prop} {ls : jL} {w : jW} {a b : Int32} : Wp d 161 96 ls (.int b :: .int a :: st) w Q = Wp d 161 97 ls (.int (a * b) :: st) w Q := Wp.alu e161_96 rfl rfl
theorem e161_97 : decode (j_co 161) 97 = .ok (.iadd, 1) := by decide +kernel
set_option maxRecDepth 20000 in
theorem w161_97 {d : Nat} {st : List Value} {Q : Option Value × jW → Prop} {ls : jL} {w : jW} {a b : Int32} : Wp d 161 97 ls (.int b :: .int a :: st) w Q = Wp d 161 98 ls (.int (a + b) :: st) w Q := Wp.alu e161_97 rfl rfl
theorem e161_98 : decode (j_co 161) 98 = .ok (.istore 7, 2) := by decide +kernel
set_option maxRecDepth 20000 in
theorem w161_98 {d : Nat} {st : List Value} {Q : Option Value × jW → Prop} {w : jW} {a0 a1 a2 a3 a4 a5 a6 a7 : Option Value} {x : Int32} (h : j_cp a6) : Wp d 161 98 [a0, a1, a2, a3, a4, a5, a6, a7] (.int x :: st) w Q = Wp d 161 100 [a0, a1, a2, a3, a4, a5, a6, some (.int x)] (st) w Q := Wp.loc e161_98 rfl rfl (v_stI (ls := [a0, a1, a2, a3, a4, a5, a6, a7]) (k := 7) (show 7 < 8 by decide) h)
theorem e161_100 : decode (j_co 161) 100 = .ok (.iload 6, 2) := by decide +kernel
set_option maxRecDepth 20000 in
theorem w161_100 {d : Nat} {st : List Value} {Q : Option Value × jW → Prop} {w : jW} {a0 a1 a2 a3 a4 a5 a7 : Option Value} {x : Int32} : Wp d 161 100 [a0, a1, a2, a3, a4, a5, some (.int x), a7] (st) w Q = Wp d 161 102 [a0, a1, a2, a3, a4, a5, some (.int x), a7] (.int x :: st) w Q := Wp.loc e161_100 rfl rfl rfl
theorem e161_102 : decode (j_co 161) 102 = .ok (.aload_n 0, 1) := by decide +kernel
set_option maxRecDepth 20000 in
theorem w161_102 {d : Nat} {st : List Value} {Q : Option Value × jW → Prop} {w : jW} {a1 a2 a3 a4 a5 a6 a7 : Option Value} {x : Nat} : Wp d 161 102 [some (.ref x), a1, a2, a3, a4, a5, a6, a7] (st) w Q = Wp d 161 103 [some (.ref x), a1, a2, a3, a4, a5, a6, a7] (.ref x :: st) w Q := Wp.loc e161_102 rfl rfl rfl
theorem e161_103 : decode (j_co 161) 103 = .ok (.getfield 13, 3) := by decide +kernel
set_option maxRecDepth 20000 in
theorem w161_103 {d : Nat} {st : List Value} {Q : Option Value × jW → Prop} {ls : jL} {xs : List Value} {I : fI} {L : fL} {o : Nat} (ht : f_tg o = 11) : Wp d 161 103 ls (.ref o :: st) (f_W xs I L) Q = Wp d 161 106 ls (.ref (f_rf o 2) :: st) (f_W xs I L) Q := Wp.getR (ci := 11) (k := 2) e161_103 rfl (by decide) (by decide) rfl ht
theorem e161_106 : decode (j_co 161) 106 = .ok (.iload 7, 2) := by decide +kernel
set_option maxRecDepth 20000 in
theorem w161_106 {d : Nat} {st : List Value} {Q : Option Value × jW → Prop} {w : jW} {a0 a1 a2 a3 a4 a5 a6 : Option Value} {x : Int32} : Wp d 161 106 [a0, a1, a2, a3, a4, a5, a6, some (.int x)] (st) w Q = Wp d 161 108 [a0, a1, a2, a3, a4, a5, a6, some (.int x)] (.int x :: st) w Q := Wp.loc e161_106 rfl rfl rfl
theorem e161_108 : decode (j_co 161) 108 = .ok (.invokestatic 236, 3) := by decide +kernel
set_option maxRecDepth 20000 in
theorem w161_108 {d : Nat} {st : List Value} {Q : Option Value × jW → Prop} {ls : jL} {w : jW} {x0 : Int32} {x1 : Nat} {x2 : Int32} (hs : j_sumc st ≤ 8) : Wp (d + 1) 161 108 ls (.int x2 :: .ref x1 :: .int x0 :: st) w Q = Wp d 162 0 [some (.int x0), some (.ref x1), some (.int x2)] [] w (fun r1 => Wp (d + 1) 161 111 ls (r1.1.toList ++ st) r1.2 Q) := Wp.cs (kd := 1) (y' := 162) (as := [.int x0, .ref x1, .int x2]) e161_108 rfl (by decide) (by decide) rfl (show 3 ≤ 3 by decide) hs
theorem e161_111 : decode (j_co 161) 111 = .ok (.ifCond .eq 29, 3) := by decide +kernel
set_option maxRecDepth 20000 in
theorem w161_111 {d : Nat} {st : List Value} {Q : Option Value × jW → Prop} {ls : jL} {w : jW} {a : Int32} : Wp d 161 111 ls (.int a :: st) w Q = ((a = nI 0 → Wp d 161 140 ls st w Q) ∧ (¬ a = nI 0 → Wp d 161 114 ls st w Q)) := Wp.if2 (c := a = nI 0) (off := 29) e161_111 rfl rfl rfl rfl rfl
theorem e161_114 : decode (j_co 161) 114 = .ok (.aload_n 0, 1) := by decide +kernel
set_option maxRecDepth 20000 in
theorem w161_114 {d : Nat} {st : List Value} {Q : Option Value × jW → Prop} {w : jW} {a1 a2 a3 a4 a5 a6 a7 : Option Value} {x : Nat} : Wp d 161 114 [some (.ref x), a1, a2, a3, a4, a5, a6, a7] (st) w Q = Wp d 161 115 [some (.ref x), a1, a2, a3, a4, a5, a6, a7] (.ref x :: st) w Q := Wp.loc e161_114 rfl rfl rfl
theorem e161_115 : decode (j_co 161) 115 = .ok (.getfield 78, 3) := by decide +kernel
set_option maxRecDepth 20000 in
theorem w161_115 {d : Nat} {st : List Value} {Q : Option Value × jW → Prop} {ls : jL} {xs : List Value} {I : fI} {L : fL} {o : Nat} (ht : f_tg o = 11) : Wp d 161 115 ls (.ref o :: st) (f_W xs I L) Q = Wp d 161 118 ls (.ref (f_rf o 32) :: st) (f_W xs I L) Q := Wp.getR (ci := 11) (k := 32) e161_115 rfl (by decide) (by decide) rfl ht
theorem e161_118 : decode (j_co 161) 118 = .ok (.iload 5, 2) := by decide +kernel
set_option maxRecDepth 20000 in
theorem w161_118 {d : Nat} {st : List Value} {Q : Option Value × jW → Prop} {w : jW} {a0 a1 a2 a3 a4 a6 a7 : Option Value} {x : Int32} : Wp d 161 118 [a0, a1, a2, a3, a4, some (.int x), a6, a7] (st) w Q = Wp d 161 120 [a0, a1, a2, a3, a4, some (.int x), a6, a7] (.int x :: st) w Q := Wp.loc e161_118 rfl rfl rfl
theorem e161_120 : decode (j_co 161) 120 = .ok (.iaload, 1) := by decide +kernel
set_option maxRecDepth 20000 in
theorem w161_120 {d : Nat} {st : List Value} {Q : Option Value × jW → Prop} {ls : jL} {xs : List Value} {I : fI} {L : fL} {o : Nat} {i : Int32} (ht : f_tg o = 100) (hi : ¬ (i < 0 ∨ f_ln o ≤ i.toNatClampNeg)) : Wp d 161 120 ls (.int i :: .ref o :: st) (f_W xs I L) Q = Wp d 161 121 ls (.int (I o i.toNatClampNeg) :: st) (f_W xs I L) Q := Wp.iald e161_120 ht hi
theorem e161_121 : decode (j_co 161) 121 = .ok (.iload 6, 2) := by decide +kernel
set_option maxRecDepth 20000 in
theorem w161_121 {d : Nat} {st : List Value} {Q : Option Value × jW → Prop} {w : jW} {a0 a1 a2 a3 a4 a5 a7 : Option Value} {x : Int32} : Wp d 161 121 [a0, a1, a2, a3, a4, a5, some (.int x), a7] (st) w Q = Wp d 161 123 [a0, a1, a2, a3, a4, a5, some (.int x), a7] (.int x :: st) w Q := Wp.loc e161_121 rfl rfl rfl
theorem e161_123 : decode (j_co 161) 123 = .ok (.iadd, 1) := by decide +kernel
set_option maxRecDepth 20000 in
theorem w161_123 {d : Nat} {st : List Value} {Q : Option Value × jW → Prop} {ls : jL} {w : jW} {a b : Int32} : Wp d 161 123 ls (.int b :: .int a :: st) w Q = Wp d 161 124 ls (.int (a + b) :: st) w Q := Wp.alu e161_123 rfl rfl
theorem e161_124 : decode (j_co 161) 124 = .ok (.aload_n 0, 1) := by decide +kernel
set_option maxRecDepth 20000 in
theorem w161_124 {d : Nat} {st : List Value} {Q : Option Value × jW → Prop} {w : jW} {a1 a2 a3 a4 a5 a6 a7 : Option Value} {x : Nat} : Wp d 161 124 [some (.ref x), a1, a2, a3, a4, a5, a6, a7] (st) w Q = Wp d 161 125 [some (.ref x), a1, a2, a3, a4, a5, a6, a7] (.ref x :: st) w Q := Wp.loc e161_124 rfl rfl rfl
theorem e161_125 : decode (j_co 161) 125 = .ok (.getfield 7, 3) := by decide +kernel
set_option maxRecDepth 20000 in
theorem w161_125 {d : Nat} {st : List Value} {Q : Option Value × jW → Prop} {ls : jL} {xs : List Value} {I : fI} {L : fL} {o : Nat} (ht : f_tg o = 11) : Wp d 161 125 ls (.ref o :: st) (f_W xs I L) Q = Wp d 161 128 ls (.ref (f_rf o 1) :: st) (f_W xs I L) Q := Wp.getR (ci := 11) (k := 1) e161_125 rfl (by decide) (by decide) rfl ht
theorem e161_128 : decode (j_co 161) 128 = .ok (.iload 7, 2) := by decide +kernel
set_option maxRecDepth 20000 in
theorem w161_128 {d : Nat} {st : List Value} {Q : Option Value × jW → Prop} {w : jW} {a0 a1 a2 a3 a4 a5 a6 : Option Value} {x : Int32} : Wp d 161 128 [a0, a1, a2, a3, a4, a5, a6, some (.int x)] (st) w Q = Wp d 161 130 [a0, a1, a2, a3, a4, a5, a6, some (.int x)] (.int x :: st) w Q := Wp.loc e161_128 rfl rfl rfl
theorem e161_130 : decode (j_co 161) 130 = .ok (.invokestatic 236, 3) := by decide +kernel
set_option maxRecDepth 20000 in
theorem w161_130 {d : Nat} {st : List Value} {Q : Option Value × jW → Prop} {ls : jL} {w : jW} {x0 : Int32} {x1 : Nat} {x2 : Int32} (hs : j_sumc st ≤ 8) : Wp (d + 1) 161 130 ls (.int x2 :: .ref x1 :: .int x0 :: st) w Q = Wp d 162 0 [some (.int x0), some (.ref x1), some (.int x2)] [] w (fun r1 => Wp (d + 1) 161 133 ls (r1.1.toList ++ st) r1.2 Q) := Wp.cs (kd := 1) (y' := 162) (as := [.int x0, .ref x1, .int x2]) e161_130 rfl (by decide) (by decide) rfl (show 3 ≤ 3 by decide) hs
theorem e161_133 : decode (j_co 161) 133 = .ok (.ifCond .eq 7, 3) := by decide +kernel
set_option maxRecDepth 20000 in
theorem w161_133 {d : Nat} {st : List Value} {Q : Option Value × jW → Prop} {ls : jL} {w : jW} {a : Int32} : Wp d 161 133 ls (.int a :: st) w Q = ((a = nI 0 → Wp d 161 140 ls st w Q) ∧ (¬ a = nI 0 → Wp d 161 136 ls st w Q)) := Wp.if2 (c := a = nI 0) (off := 7) e161_133 rfl rfl rfl rfl rfl
theorem e161_136 : decode (j_co 161) 136 = .ok (.iconst 1, 1) := by decide +kernel
set_option maxRecDepth 20000 in
theorem w161_136 {d : Nat} {st : List Value} {Q : Option Value × jW → Prop} {ls : jL} {w : jW} : Wp d 161 136 ls (st) w Q = Wp d 161 137 ls (.int (nI 1) :: st) w Q := Wp.alu e161_136 rfl rfl
theorem e161_137 : decode (j_co 161) 137 = .ok (.goto 4, 3) := by decide +kernel
set_option maxRecDepth 20000 in
theorem w161_137 {d : Nat} {st : List Value} {Q : Option Value × jW → Prop} {ls : jL} {w : jW} : Wp d 161 137 ls (st) w Q = Wp d 161 141 ls (st) w Q := Wp.br e161_137 (Or.inl rfl) rfl rfl rfl rfl
theorem e161_140 : decode (j_co 161) 140 = .ok (.iconst 0, 1) := by decide +kernel
set_option maxRecDepth 20000 in
theorem w161_140 {d : Nat} {st : List Value} {Q : Option Value × jW → Prop} {ls : jL} {w : jW} : Wp d 161 140 ls (st) w Q = Wp d 161 141 ls (.int (nI 0) :: st) w Q := Wp.alu e161_140 rfl rfl
theorem e161_141 : decode (j_co 161) 141 = .ok (.istore 4, 2) := by decide +kernel
set_option maxRecDepth 20000 in
theorem w161_141 {d : Nat} {st : List Value} {Q : Option Value × jW → Prop} {w : jW} {a0 a1 a2 a3 a4 a5 a6 a7 : Option Value} {x : Int32} (h : j_cp a3) : Wp d 161 141 [a0, a1, a2, a3, a4, a5, a6, a7] (.int x :: st) w Q = Wp d 161 143 [a0, a1, a2, a3, some (.int x), a5, a6, a7] (st) w Q := Wp.loc e161_141 rfl rfl (v_stI (ls := [a0, a1, a2, a3, a4, a5, a6, a7]) (k := 4) (show 4 < 8 by decide) h)
theorem e161_143 : decode (j_co 161) 143 = .ok (.iinc 5 1, 3) := by decide +kernel
set_option maxRecDepth 20000 in
theorem w161_143 {d : Nat} {st : List Value} {Q : Option Value × jW → Prop} {w : jW} {a0 a1 a2 a3 a4 a6 a7 : Option Value} {x : Int32} (h : j_cp a4) : Wp d 161 143 [a0, a1, a2, a3, a4, some (.int x), a6, a7] (st) w Q = Wp d 161 146 [a0, a1, a2, a3, a4, some (.int (x + nI 1)), a6, a7] (st) w Q := Wp.loc e161_143 rfl rfl (v_inc (ls := [a0, a1, a2, a3, a4, some (.int x), a6, a7]) (k := 5) (n := 1) rfl (show 5 < 8 by decide) h)
theorem e161_146 : decode (j_co 161) 146 = .ok (.goto (-93), 3) := by decide +kernel
set_option maxRecDepth 20000 in
theorem w161_146 {d : Nat} {st : List Value} {Q : Option Value × jW → Prop} {ls : jL} {w : jW} : Wp d 161 146 ls (st) w Q = Wp d 161 53 ls (st) w Q := Wp.br e161_146 (Or.inl rfl) rfl rfl rfl rfl
theorem e161_149 : decode (j_co 161) 149 = .ok (.iload 4, 2) := by decide +kernel
set_option maxRecDepth 20000 in
theorem w161_149 {d : Nat} {st : List Value} {Q : Option Value × jW → Prop} {w : jW} {a0 a1 a2 a3 a5 a6 a7 : Option Value} {x : Int32} : Wp d 161 149 [a0, a1, a2, a3, some (.int x), a5, a6, a7] (st) w Q = Wp d 161 151 [a0, a1, a2, a3, some (.int x), a5, a6, a7] (.int x :: st) w Q := Wp.loc e161_149 rfl rfl rfl
theorem e161_151 : decode (j_co 161) 151 = .ok (.ifCond .ne 6, 3) := by decide +kernel
set_option maxRecDepth 20000 in
theorem w161_151 {d : Nat} {st : List Value} {Q : Option Value × jW → Prop} {ls : jL} {w : jW} {a : Int32} : Wp d 161 151 ls (.int a :: st) w Q = ((a = nI 0 → Wp d 161 154 ls st w Q) ∧ (¬ a = nI 0 → Wp d 161 157 ls st w Q)) := Wp.if2n (c := a = nI 0) (off := 6) e161_151 rfl rfl rfl rfl rfl
theorem e161_154 : decode (j_co 161) 154 = .ok (.bipush (-2), 2) := by decide +kernel
set_option maxRecDepth 20000 in
theorem w161_154 {d : Nat} {st : List Value} {Q : Option Value × jW → Prop} {ls : jL} {w : jW} : Wp d 161 154 ls (st) w Q = Wp d 161 156 ls (.int (-2) :: st) w Q := Wp.alu e161_154 rfl rfl
theorem e161_156 : decode (j_co 161) 156 = .ok (.ireturn, 1) := by decide +kernel
set_option maxRecDepth 20000 in
theorem w161_156 {d : Nat} {Q : Option Value × jW → Prop} {ls : jL} {w : jW} {x : Int32} : Wp d 161 156 ls [.int x] w Q = Q (some (.int x), w) := Wp.ret e161_156 rfl
theorem e161_157 : decode (j_co 161) 157 = .ok (.aload_n 0, 1) := by decide +kernel
set_option maxRecDepth 20000 in
theorem w161_157 {d : Nat} {st : List Value} {Q : Option Value × jW → Prop} {w : jW} {a1 a2 a3 a4 a5 a6 a7 : Option Value} {x : Nat} : Wp d 161 157 [some (.ref x), a1, a2, a3, a4, a5, a6, a7] (st) w Q = Wp d 161 158 [some (.ref x), a1, a2, a3, a4, a5, a6, a7] (.ref x :: st) w Q := Wp.loc e161_157 rfl rfl rfl
theorem e161_158 : decode (j_co 161) 158 = .ok (.getfield 78, 3) := by decide +kernel
set_option maxRecDepth 20000 in
theorem w161_158 {d : Nat} {st : List Value} {Q : Option Value × jW → Prop} {ls : jL} {xs : List Value} {I : fI} {L : fL} {o : Nat} (ht : f_tg o = 11) : Wp d 161 158 ls (.ref o :: st) (f_W xs I L) Q = Wp d 161 161 ls (.ref (f_rf o 32) :: st) (f_W xs I L) Q := Wp.getR (ci := 11) (k := 32) e161_158 rfl (by decide) (by decide) rfl ht
theorem e161_161 : decode (j_co 161) 161 = .ok (.iconst 0, 1) := by decide +kernel
set_option maxRecDepth 20000 in
theorem w161_161 {d : Nat} {st : List Value} {Q : Option Value × jW → Prop} {ls : jL} {w : jW} : Wp d 161 161 ls (st) w Q = Wp d 161 162 ls (.int (nI 0) :: st) w Q := Wp.alu e161_161 rfl rfl
theorem e161_162 : decode (j_co 161) 162 = .ok (.dup2, 1) := by decide +kernel
set_option maxRecDepth 20000 in
theorem w161_162 {d : Nat} {st : List Value} {Q : Option Value × jW → Prop} {ls : jL} {w : jW} {a : Int32} {b : Nat} : Wp d 161 162 ls (.int a :: .ref b :: st) w Q = Wp d 161 163 ls (.int a :: .ref b :: .int a :: .ref b :: st) w Q := Wp.alu e161_162 rfl rfl
theorem e161_163 : decode (j_co 161) 163 = .ok (.iaload, 1) := by decide +kernel
set_option maxRecDepth 20000 in
theorem w161_163 {d : Nat} {st : List Value} {Q : Option Value × jW → Prop} {ls : jL} {xs : List Value} {I : fI} {L : fL} {o : Nat} {i : Int32} (ht : f_tg o = 100) (hi : ¬ (i < 0 ∨ f_ln o ≤ i.toNatClampNeg)) : Wp d 161 163 ls (.int i :: .ref o :: st) (f_W xs I L) Q = Wp d 161 164 ls (.int (I o i.toNatClampNeg) :: st) (f_W xs I L) Q := Wp.iald e161_163 ht hi
theorem e161_164 : decode (j_co 161) 164 = .ok (.iload_n 1, 1) := by decide +kernel
set_option maxRecDepth 20000 in
theorem w161_164 {d : Nat} {st : List Value} {Q : Option Value × jW → Prop} {w : jW} {a0 a2 a3 a4 a5 a6 a7 : Option Value} {x : Int32} : Wp d 161 164 [a0, some (.int x), a2, a3, a4, a5, a6, a7] (st) w Q = Wp d 161 165 [a0, some (.int x), a2, a3, a4, a5, a6, a7] (.int x :: st) w Q := Wp.loc e161_164 rfl rfl rfl
theorem e161_165 : decode (j_co 161) 165 = .ok (.iadd, 1) := by decide +kernel
set_option maxRecDepth 20000 in
theorem w161_165 {d : Nat} {st : List Value} {Q : Option Value × jW → Prop} {ls : jL} {w : jW} {a b : Int32} : Wp d 161 165 ls (.int b :: .int a :: st) w Q = Wp d 161 166 ls (.int (a + b) :: st) w Q := Wp.alu e161_165 rfl rfl
theorem e161_166 : decode (j_co 161) 166 = .ok (.iastore, 1) := by decide +kernel
set_option maxRecDepth 20000 in
theorem w161_166 {d : Nat} {st : List Value} {Q : Option Value × jW → Prop} {ls : jL} {xs : List Value} {I : fI} {L : fL} {o : Nat} {i x : Int32} (ht : f_tg o = 100) (hi : ¬ (i < 0 ∨ f_ln o ≤ i.toNatClampNeg)) : Wp d 161 166 ls (.int x :: .int i :: .ref o :: st) (f_W xs I L) Q = Wp d 161 167 ls (st) (f_W xs (f_up I o i.toNatClampNeg x) L) Q := Wp.iast e161_166 ht hi
theorem e161_167 : decode (j_co 161) 167 = .ok (.aload_n 0, 1) := by decide +kernel
set_option maxRecDepth 20000 in
theorem w161_167 {d : Nat} {st : List Value} {Q : Option Value × jW → Prop} {w : jW} {a1 a2 a3 a4 a5 a6 a7 : Option Value} {x : Nat} : Wp d 161 167 [some (.ref x), a1, a2, a3, a4, a5, a6, a7] (st) w Q = Wp d 161 168 [some (.ref x), a1, a2, a3, a4, a5, a6, a7] (.ref x :: st) w Q := Wp.loc e161_167 rfl rfl rfl
theorem e161_168 : decode (j_co 161) 168 = .ok (.getfield 78, 3) := by decide +kernel
set_option maxRecDepth 20000 in
theorem w161_168 {d : Nat} {st : List Value} {Q : Option Value × jW → Prop} {ls : jL} {xs : List Value} {I : fI} {L : fL} {o : Nat} (ht : f_tg o = 11) : Wp d 161 168 ls (.ref o :: st) (f_W xs I L) Q = Wp d 161 171 ls (.ref (f_rf o 32) :: st) (f_W xs I L) Q := Wp.getR (ci := 11) (k := 32) e161_168 rfl (by decide) (by decide) rfl ht
theorem e161_171 : decode (j_co 161) 171 = .ok (.iconst 1, 1) := by decide +kernel
set_option maxRecDepth 20000 in
theorem w161_171 {d : Nat} {st : List Value} {Q : Option Value × jW → Prop} {ls : jL} {w : jW} : Wp d 161 171 ls (st) w Q = Wp d 161 172 ls (.int (nI 1) :: st) w Q := Wp.alu e161_171 rfl rfl
theorem e161_172 : decode (j_co 161) 172 = .ok (.dup2, 1) := by decide +kernel
set_option maxRecDepth 20000 in
theorem w161_172 {d : Nat} {st : List Value} {Q : Option Value × jW → Prop} {ls : jL} {w : jW} {a : Int32} {b : Nat} : Wp d 161 172 ls (.int a :: .ref b :: st) w Q = Wp d 161 173 ls (.int a :: .ref b :: .int a :: .ref b :: st) w Q := Wp.alu e161_172 rfl rfl
theorem e161_173 : decode (j_co 161) 173 = .ok (.iaload, 1) := by decide +kernel
set_option maxRecDepth 20000 in
theorem w161_173 {d : Nat} {st : List Value} {Q : Option Value × jW → Prop} {ls : jL} {xs : List Value} {I : fI} {L : fL} {o : Nat} {i : Int32} (ht : f_tg o = 100) (hi : ¬ (i < 0 ∨ f_ln o ≤ i.toNatClampNeg)) : Wp d 161 173 ls (.int i :: .ref o :: st) (f_W xs I L) Q = Wp d 161 174 ls (.int (I o i.toNatClampNeg) :: st) (f_W xs I L) Q := Wp.iald e161_173 ht hi
theorem e161_174 : decode (j_co 161) 174 = .ok (.iload_n 2, 1) := by decide +kernel
set_option maxRecDepth 20000 in
theorem w161_174 {d : Nat} {st : List Value} {Q : Option Value × jW → Prop} {w : jW} {a0 a1 a3 a4 a5 a6 a7 : Option Value} {x : Int32} : Wp d 161 174 [a0, a1, some (.int x), a3, a4, a5, a6, a7] (st) w Q = Wp d 161 175 [a0, a1, some (.int x), a3, a4, a5, a6, a7] (.int x :: st) w Q := Wp.loc e161_174 rfl rfl rfl
theorem e161_175 : decode (j_co 161) 175 = .ok (.iadd, 1) := by decide +kernel
set_option maxRecDepth 20000 in
theorem w161_175 {d : Nat} {st : List Value} {Q : Option Value × jW → Prop} {ls : jL} {w : jW} {a b : Int32} : Wp d 161 175 ls (.int b :: .int a :: st) w Q = Wp d 161 176 ls (.int (a + b) :: st) w Q := Wp.alu e161_175 rfl rfl
theorem e161_176 : decode (j_co 161) 176 = .ok (.iastore, 1) := by decide +kernel
set_option maxRecDepth 20000 in
theorem w161_176 {d : Nat} {st : List Value} {Q : Option Value × jW → Prop} {ls : jL} {xs : List Value} {I : fI} {L : fL} {o : Nat} {i x : Int32} (ht : f_tg o = 100) (hi : ¬ (i < 0 ∨ f_ln o ≤ i.toNatClampNeg)) : Wp d 161 176 ls (.int x :: .int i :: .ref o :: st) (f_W xs I L) Q = Wp d 161 177 ls (st) (f_W xs (f_up I o i.toNatClampNeg x) L) Q := Wp.iast e161_176 ht hi
theorem e161_177 : decode (j_co 161) 177 = .ok (.aload_n 0, 1) := by decide +kernel
set_option maxRecDepth 20000 in
theorem w161_177 {d : Nat} {st : List Value} {Q : Option Value × jW → Prop} {w : jW} {a1 a2 a3 a4 a5 a6 a7 : Option Value} {x : Nat} : Wp d 161 177 [some (.ref x), a1, a2, a3, a4, a5, a6, a7] (st) w Q = Wp d 161 178 [some (.ref x), a1, a2, a3, a4, a5, a6, a7] (.ref x :: st) w Q := Wp.loc e161_177 rfl rfl rfl
theorem e161_178 : decode (j_co 161) 178 = .ok (.getfield 78, 3) := by decide +kernel
set_option maxRecDepth 20000 in
theorem w161_178 {d : Nat} {st : List Value} {Q : Option Value × jW → Prop} {ls : jL} {xs : List Value} {I : fI} {L : fL} {o : Nat} (ht : f_tg o = 11) : Wp d 161 178 ls (.ref o :: st) (f_W xs I L) Q = Wp d 161 181 ls (.ref (f_rf o 32) :: st) (f_W xs I L) Q := Wp.getR (ci := 11) (k := 32) e161_178 rfl (by decide) (by decide) rfl ht
theorem e161_181 : decode (j_co 161) 181 = .ok (.iconst 2, 1) := by decide +kernel
set_option maxRecDepth 20000 in
theorem w161_181 {d : Nat} {st : List Value} {Q : Option Value × jW → Prop} {ls : jL} {w : jW} : Wp d 161 181 ls (st) w Q = Wp d 161 182 ls (.int (nI 2) :: st) w Q := Wp.alu e161_181 rfl rfl
theorem e161_182 : decode (j_co 161) 182 = .ok (.dup2, 1) := by decide +kernel
set_option maxRecDepth 20000 in
theorem w161_182 {d : Nat} {st : List Value} {Q : Option Value × jW → Prop} {ls : jL} {w : jW} {a : Int32} {b : Nat} : Wp d 161 182 ls (.int a :: .ref b :: st) w Q = Wp d 161 183 ls (.int a :: .ref b :: .int a :: .ref b :: st) w Q := Wp.alu e161_182 rfl rfl
theorem e161_183 : decode (j_co 161) 183 = .ok (.iaload, 1) := by decide +kernel
set_option maxRecDepth 20000 in
theorem w161_183 {d : Nat} {st : List Value} {Q : Option Value × jW → Prop} {ls : jL} {xs : List Value} {I : fI} {L : fL} {o : Nat} {i : Int32} (ht : f_tg o = 100) (hi : ¬ (i < 0 ∨ f_ln o ≤ i.toNatClampNeg)) : Wp d 161 183 ls (.int i :: .ref o :: st) (f_W xs I L) Q = Wp d 161 184 ls (.int (I o i.toNatClampNeg) :: st) (f_W xs I L) Q := Wp.iald e161_183 ht hi
theorem e161_184 : decode (j_co 161) 184 = .ok (.iload_n 3, 1) := by decide +kernel
set_option maxRecDepth 20000 in
theorem w161_184 {d : Nat} {st : List Value} {Q : Option Value × jW → Prop} {w : jW} {a0 a1 a2 a4 a5 a6 a7 : Option Value} {x : Int32} : Wp d 161 184 [a0, a1, a2, some (.int x), a4, a5, a6, a7] (st) w Q = Wp d 161 185 [a0, a1, a2, some (.int x), a4, a5, a6, a7] (.int x :: st) w Q := Wp.loc e161_184 rfl rfl rfl
theorem e161_185 : decode (j_co 161) 185 = .ok (.iadd, 1) := by decide +kernel
set_option maxRecDepth 20000 in
theorem w161_185 {d : Nat} {st : List Value} {Q : Option Value × jW → Prop} {ls : jL} {w : jW} {a b : Int32} : Wp d 161 185 ls (.int b :: .int a :: st) w Q = Wp d 161 186 ls (.int (a + b) :: st) w Q := Wp.alu e161_185 rfl rfl
theorem e161_186 : decode (j_co 161) 186 = .ok (.iastore, 1) := by decide +kernel
set_option maxRecDepth 20000 in
theorem w161_186 {d : Nat} {st : List Value} {Q : Option Value × jW → Prop} {ls : jL} {xs : List Value} {I : fI} {L : fL} {o : Nat} {i x : Int32} (ht : f_tg o = 100) (hi : ¬ (i < 0 ∨ f_ln o ≤ i.toNatClampNeg)) : Wp d 161 186 ls (.int x :: .int i :: .ref o :: st) (f_W xs I L) Q = Wp d 161 187 ls (st) (f_W xs (f_up I o i.toNatClampNeg x) L) Q := Wp.iast e161_186 ht hi
theorem e161_187 : decode (j_co 161) 187 = .ok (.aload_n 0, 1) := by decide +kernel
set_option maxRecDepth 20000 in
theorem w161_187 {d : Nat} {st : List Value} {Q : Option Value × jW → Prop} {w : jW} {a1 a2 a3 a4 a5 a6 a7 : Option Value} {x : Nat} : Wp d 161 187 [some (.ref x), a1, a2, a3, a4, a5, a6, a7] (st) w Q = Wp d 161 188 [some (.ref x), a1, a2, a3, a4, a5, a6, a7] (.ref x :: st) w Q := Wp.loc e161_187 rfl rfl rfl
theorem e161_188 : decode (j_co 161) 188 = .ok (.dup, 1) := by decide +kernel
set_option maxRecDepth 20000 in
theorem w161_188 {d : Nat} {st : List Value} {Q : Option Value × jW → Prop} {ls : jL} {w : jW} {a : Int32} : Wp d 161 188 ls (.int a :: st) w Q = Wp d 161 189 ls (.int a :: .int a :: st) w Q := Wp.alu e161_188 rfl rfl
set_option maxRecDepth 20000 in
theorem w161_188r {d : Nat} {st : List Value} {Q : Option Value × jW → Prop} {ls : jL} {w : jW} {a : Nat} : Wp d 161 188 ls (.ref a :: st) w Q = Wp d 161 189 ls (.ref a :: .ref a :: st) w Q := Wp.alu e161_188 rfl rfl
theorem e161_189 : decode (j_co 161) 189 = .ok (.getfield 231, 3) := by decide +kernel
set_option maxRecDepth 20000 in
theorem w161_189 {d : Nat} {st : List Value} {Q : Option Value × jW → Prop} {ls : jL} {xs : List Value} {I : fI} {L : fL} {o : Nat} (ht : f_tg o = 11) : Wp d 161 189 ls (.ref o :: st) (f_W xs I L) Q = Wp d 161 192 ls (.int (I o 33) :: st) (f_W xs I L) Q := Wp.getI (ci := 11) (k := 33) e161_189 rfl (by decide) (by decide) (by decide) ht
theorem e161_192 : decode (j_co 161) 192 = .ok (.iconst 1, 1) := by decide +kernel
set_option maxRecDepth 20000 in
theorem w161_192 {d : Nat} {st : List Value} {Q : Option Value × jW → Prop} {ls : jL} {w : jW} : Wp d 161 192 ls (st) w Q = Wp d 161 193 ls (.int (nI 1) :: st) w Q := Wp.alu e161_192 rfl rfl
theorem e161_193 : decode (j_co 161) 193 = .ok (.iadd, 1) := by decide +kernel
set_option maxRecDepth 20000 in
theorem w161_193 {d : Nat} {st : List Value} {Q : Option Value × jW → Prop} {ls : jL} {w : jW} {a b : Int32} : Wp d 161 193 ls (.int b :: .int a :: st) w Q = Wp d 161 194 ls (.int (a + b) :: st) w Q := Wp.alu e161_193 rfl rfl
theorem e161_194 : decode (j_co 161) 194 = .ok (.putfield 231, 3) := by decide +kernel
set_option maxRecDepth 20000 in
theorem w161_194 {d : Nat} {st : List Value} {Q : Option Value × jW → Prop} {ls : jL} {xs : List Value} {I : fI} {L : fL} {o : Nat} {x : Int32} (ht : f_tg o = 11) : Wp d 161 194 ls (.int x :: .ref o :: st) (f_W xs I L) Q = Wp d 161 197 ls (st) (f_W xs (f_up I o 33 x) L) Q := Wp.putI (ci := 11) (k := 33) e161_194 rfl (by decide) (by decide) rfl (by decide) ht
theorem e161_197 : decode (j_co 161) 197 = .ok (.aload_n 0, 1) := by decide +kernel
set_option maxRecDepth 20000 in
theorem w161_197 {d : Nat} {st : List Value} {Q : Option Value × jW → Prop} {w : jW} {a1 a2 a3 a4 a5 a6 a7 : Option Value} {x : Nat} : Wp d 161 197 [some (.ref x), a1, a2, a3, a4, a5, a6, a7] (st) w Q = Wp d 161 198 [some (.ref x), a1, a2, a3, a4, a5, a6, a7] (.ref x :: st) w Q := Wp.loc e161_197 rfl rfl rfl
theorem e161_198 : decode (j_co 161) 198 = .ok (.getfield 231, 3) := by decide +kernel
set_option maxRecDepth 20000 in
theorem w161_198 {d : Nat} {st : List Value} {Q : Option Value × jW → Prop} {ls : jL} {xs : List Value} {I : fI} {L : fL} {o : Nat} (ht : f_tg o = 11) : Wp d 161 198 ls (.ref o :: st) (f_W xs I L) Q = Wp d 161 201 ls (.int (I o 33) :: st) (f_W xs I L) Q := Wp.getI (ci := 11) (k := 33) e161_198 rfl (by decide) (by decide) (by decide) ht
theorem e161_201 : decode (j_co 161) 201 = .ok (.ireturn, 1) := by decide +kernel
set_option maxRecDepth 20000 in
theorem w161_201 {d : Nat} {Q : Option Value × jW → Prop} {ls : jL} {w : jW} {x : Int32} : Wp d 161 201 ls [.int x] w Q = Q (some (.int x), w) := Wp.ret e161_201 rfl
/-! M.fits -/
theorem e162_0 : decode (j_co 162) 0 = .ok (.iload_n 0, 1) := by decide +kernel
set_option maxRecDepth 20000 in
theorem w162_0 {d : Nat} {st : List Value} {Q : Option Value × jW → Prop} {w : jW} {a1 a2 : Option Value} {x : Int32} : Wp d 162 0 [some (.int x), a1, a2] (st) w Q = Wp d 162 1 [some (.int x), a1, a2] (.int x :: st) w Q := Wp.loc e162_0 rfl rfl rfl
theorem e162_1 : decode (j_co 162) 1 = .ok (.i2l, 1) := by decide +kernel
set_option maxRecDepth 20000 in
theorem w162_1 {d : Nat} {st : List Value} {Q : Option Value × jW → Prop} {ls : jL} {w : jW} {a : Int32} : Wp d 162 1 ls (.int a :: st) w Q = Wp d 162 2 ls (.long a.toInt64 :: st) w Q := Wp.alu e162_1 rfl rfl
theorem e162_2 : decode (j_co 162) 2 = .ok (.aload_n 1, 1) := by decide +kernel
set_option maxRecDepth 20000 in
theorem w162_2 {d : Nat} {st : List Value} {Q : Option Value × jW → Prop} {w : jW} {a0 a2 : Option Value} {x : Nat} : Wp d 162 2 [a0, some (.ref x), a2] (st) w Q = Wp d 162 3 [a0, some (.ref x), a2] (.ref x :: st) w Q := Wp.loc e162_2 rfl rfl rfl
theorem e162_3 : decode (j_co 162) 3 = .ok (.iload_n 2, 1) := by decide +kernel
set_option maxRecDepth 20000 in
theorem w162_3 {d : Nat} {st : List Value} {Q : Option Value × jW → Prop} {w : jW} {a0 a1 : Option Value} {x : Int32} : Wp d 162 3 [a0, a1, some (.int x)] (st) w Q = Wp d 162 4 [a0, a1, some (.int x)] (.int x :: st) w Q := Wp.loc e162_3 rfl rfl rfl
theorem e162_4 : decode (j_co 162) 4 = .ok (.iaload, 1) := by decide +kernel
set_option maxRecDepth 20000 in
theorem w162_4 {d : Nat} {st : List Value} {Q : Option Value × jW → Prop} {ls : jL} {xs : List Value} {I : fI} {L : fL} {o : Nat} {i : Int32} (ht : f_tg o = 100) (hi : ¬ (i < 0 ∨ f_ln o ≤ i.toNatClampNeg)) : Wp d 162 4 ls (.int i :: .ref o :: st) (f_W xs I L) Q = Wp d 162 5 ls (.int (I o i.toNatClampNeg) :: st) (f_W xs I L) Q := Wp.iald e162_4 ht hi
theorem e162_5 : decode (j_co 162) 5 = .ok (.i2l, 1) := by decide +kernel
set_option maxRecDepth 20000 in
theorem w162_5 {d : Nat} {st : List Value} {Q : Option Value × jW → Prop} {ls : jL} {w : jW} {a : Int32} : Wp d 162 5 ls (.int a :: st) w Q = Wp d 162 6 ls (.long a.toInt64 :: st) w Q := Wp.alu e162_5 rfl rfl
theorem e162_6 : decode (j_co 162) 6 = .ok (.aload_n 1, 1) := by decide +kernel
set_option maxRecDepth 20000 in
theorem w162_6 {d : Nat} {st : List Value} {Q : Option Value × jW → Prop} {w : jW} {a0 a2 : Option Value} {x : Nat} : Wp d 162 6 [a0, some (.ref x), a2] (st) w Q = Wp d 162 7 [a0, some (.ref x), a2] (.ref x :: st) w Q := Wp.loc e162_6 rfl rfl rfl
theorem e162_7 : decode (j_co 162) 7 = .ok (.iload_n 2, 1) := by decide +kernel
set_option maxRecDepth 20000 in
theorem w162_7 {d : Nat} {st : List Value} {Q : Option Value × jW → Prop} {w : jW} {a0 a1 : Option Value} {x : Int32} : Wp d 162 7 [a0, a1, some (.int x)] (st) w Q = Wp d 162 8 [a0, a1, some (.int x)] (.int x :: st) w Q := Wp.loc e162_7 rfl rfl rfl
theorem e162_8 : decode (j_co 162) 8 = .ok (.iconst 1, 1) := by decide +kernel
set_option maxRecDepth 20000 in
theorem w162_8 {d : Nat} {st : List Value} {Q : Option Value × jW → Prop} {ls : jL} {w : jW} : Wp d 162 8 ls (st) w Q = Wp d 162 9 ls (.int (nI 1) :: st) w Q := Wp.alu e162_8 rfl rfl
theorem e162_9 : decode (j_co 162) 9 = .ok (.iadd, 1) := by decide +kernel
set_option maxRecDepth 20000 in
theorem w162_9 {d : Nat} {st : List Value} {Q : Option Value × jW → Prop} {ls : jL} {w : jW} {a b : Int32} : Wp d 162 9 ls (.int b :: .int a :: st) w Q = Wp d 162 10 ls (.int (a + b) :: st) w Q := Wp.alu e162_9 rfl rfl
theorem e162_10 : decode (j_co 162) 10 = .ok (.iaload, 1) := by decide +kernel
set_option maxRecDepth 20000 in
theorem w162_10 {d : Nat} {st : List Value} {Q : Option Value × jW → Prop} {ls : jL} {xs : List Value} {I : fI} {L : fL} {o : Nat} {i : Int32} (ht : f_tg o = 100) (hi : ¬ (i < 0 ∨ f_ln o ≤ i.toNatClampNeg)) : Wp d 162 10 ls (.int i :: .ref o :: st) (f_W xs I L) Q = Wp d 162 11 ls (.int (I o i.toNatClampNeg) :: st) (f_W xs I L) Q := Wp.iald e162_10 ht hi
theorem e162_11 : decode (j_co 162) 11 = .ok (.i2l, 1) := by decide +kernel
set_option maxRecDepth 20000 in
theorem w162_11 {d : Nat} {st : List Value} {Q : Option Value × jW → Prop} {ls : jL} {w : jW} {a : Int32} : Wp d 162 11 ls (.int a :: st) w Q = Wp d 162 12 ls (.long a.toInt64 :: st) w Q := Wp.alu e162_11 rfl rfl
theorem e162_12 : decode (j_co 162) 12 = .ok (.invokestatic 93, 3) := by decide +kernel
set_option maxRecDepth 20000 in
theorem w162_12 {d : Nat} {st : List Value} {Q : Option Value × jW → Prop} {ls : jL} {w : jW} {x0 : Int64} {x1 : Int64} {x2 : Int64} (hs : j_sumc st ≤ 8) : Wp (d + 1) 162 12 ls (.long x2 :: .long x1 :: .long x0 :: st) w Q = Wp d 115 0 [some (.long x0), none, some (.long x1), none, some (.long x2), none] [] w (fun r1 => Wp (d + 1) 162 15 ls (r1.1.toList ++ st) r1.2 Q) := Wp.cs (kd := 1) (y' := 115) (as := [.long x0, .long x1, .long x2]) e162_12 rfl (by decide) (by decide) rfl (show 6 ≤ 6 by decide) hs
theorem e162_15 : decode (j_co 162) 15 = .ok (.ireturn, 1) := by decide +kernel
set_option maxRecDepth 20000 in
theorem w162_15 {d : Nat} {Q : Option Value × jW → Prop} {ls : jL} {w : jW} {x : Int32} (hx : x = 0 ∨ x = 1) : Wp d 162 15 ls [.int x] w Q = Q (some (.int x), w) := Wp.ret e162_15 (by rcases hx with rfl | rfl <;> rfl)
/-! M.leap -/
theorem e163_0 : decode (j_co 163) 0 = .ok (.aload_n 0, 1) := by decide +kernel
set_option maxRecDepth 20000 in
theorem w163_0 {d : Nat} {st : List Value} {Q : Option Value × jW → Prop} {w : jW} {a1 a2 a3 a4 a5 a6 a7 : Option Value} {x : Nat} : Wp d 163 0 [some (.ref x), a1, a2, a3, a4, a5, a6, a7] (st) w Q = Wp d 163 1 [some (.ref x), a1, a2, a3, a4, a5, a6, a7] (.ref x :: st) w Q := Wp.loc e163_0 rfl rfl rfl
theorem e163_1 : decode (j_co 163) 1 = .ok (.iload_n 1, 1) := by decide +kernel
set_option maxRecDepth 20000 in
theorem w163_1 {d : Nat} {st : List Value} {Q : Option Value × jW → Prop} {w : jW} {a0 a2 a3 a4 a5 a6 a7 : Option Value} {x : Int32} : Wp d 163 1 [a0, some (.int x), a2, a3, a4, a5, a6, a7] (st) w Q = Wp d 163 2 [a0, some (.int x), a2, a3, a4, a5, a6, a7] (.int x :: st) w Q := Wp.loc e163_1 rfl rfl rfl
theorem e163_2 : decode (j_co 163) 2 = .ok (.invokevirtual 118, 3) := by decide +kernel
set_option maxRecDepth 20000 in
theorem w163_2 {d : Nat} {st : List Value} {Q : Option Value × jW → Prop} {ls : jL} {xs : List Value} {I : fI} {L : fL} {r : Nat} {x0 : Int32} (hs : j_sumc st ≤ 8) (ht : f_tg r = 11) : Wp (d + 1) 163 2 ls (.int x0 :: .ref r :: st) (f_W xs I L) Q = Wp d 121 0 [some (.ref r), some (.int x0)] [] (f_W xs I L) (fun r1 => Wp (d + 1) 163 5 ls (r1.1.toList ++ st) r1.2 Q) := Wp.cv (y' := 121) (as := [.int x0]) e163_2 rfl (by decide) rfl (show 2 ≤ 2 by decide) (by decide) hs ht
theorem e163_5 : decode (j_co 163) 5 = .ok (.ifCond .ne 5, 3) := by decide +kernel
set_option maxRecDepth 20000 in
theorem w163_5 {d : Nat} {st : List Value} {Q : Option Value × jW → Prop} {ls : jL} {w : jW} {a : Int32} : Wp d 163 5 ls (.int a :: st) w Q = ((a = nI 0 → Wp d 163 8 ls st w Q) ∧ (¬ a = nI 0 → Wp d 163 10 ls st w Q)) := Wp.if2n (c := a = nI 0) (off := 5) e163_5 rfl rfl rfl rfl rfl
theorem e163_8 : decode (j_co 163) 8 = .ok (.iconst (-1), 1) := by decide +kernel
set_option maxRecDepth 20000 in
theorem w163_8 {d : Nat} {st : List Value} {Q : Option Value × jW → Prop} {ls : jL} {w : jW} : Wp d 163 8 ls (st) w Q = Wp d 163 9 ls (.int (-1) :: st) w Q := Wp.alu e163_8 rfl rfl
theorem e163_9 : decode (j_co 163) 9 = .ok (.ireturn, 1) := by decide +kernel
set_option maxRecDepth 20000 in
theorem w163_9 {d : Nat} {Q : Option Value × jW → Prop} {ls : jL} {w : jW} {x : Int32} : Wp d 163 9 ls [.int x] w Q = Q (some (.int x), w) := Wp.ret e163_9 rfl
theorem e163_10 : decode (j_co 163) 10 = .ok (.aload_n 0, 1) := by decide +kernel
set_option maxRecDepth 20000 in
theorem w163_10 {d : Nat} {st : List Value} {Q : Option Value × jW → Prop} {w : jW} {a1 a2 a3 a4 a5 a6 a7 : Option Value} {x : Nat} : Wp d 163 10 [some (.ref x), a1, a2, a3, a4, a5, a6, a7] (st) w Q = Wp d 163 11 [some (.ref x), a1, a2, a3, a4, a5, a6, a7] (.ref x :: st) w Q := Wp.loc e163_10 rfl rfl rfl
theorem e163_11 : decode (j_co 163) 11 = .ok (.getfield 225, 3) := by decide +kernel
set_option maxRecDepth 20000 in
theorem w163_11 {d : Nat} {st : List Value} {Q : Option Value × jW → Prop} {ls : jL} {xs : List Value} {I : fI} {L : fL} {o : Nat} (ht : f_tg o = 11) : Wp d 163 11 ls (.ref o :: st) (f_W xs I L) Q = Wp d 163 14 ls (.int (I o 30) :: st) (f_W xs I L) Q := Wp.getI (ci := 11) (k := 30) e163_11 rfl (by decide) (by decide) (by decide) ht
theorem e163_14 : decode (j_co 163) 14 = .ok (.ifCond .eq 15, 3) := by decide +kernel
set_option maxRecDepth 20000 in
theorem w163_14 {d : Nat} {st : List Value} {Q : Option Value × jW → Prop} {ls : jL} {w : jW} {a : Int32} : Wp d 163 14 ls (.int a :: st) w Q = ((a = nI 0 → Wp d 163 29 ls st w Q) ∧ (¬ a = nI 0 → Wp d 163 17 ls st w Q)) := Wp.if2 (c := a = nI 0) (off := 15) e163_14 rfl rfl rfl rfl rfl
theorem e163_17 : decode (j_co 163) 17 = .ok (.aload_n 0, 1) := by decide +kernel
set_option maxRecDepth 20000 in
theorem w163_17 {d : Nat} {st : List Value} {Q : Option Value × jW → Prop} {w : jW} {a1 a2 a3 a4 a5 a6 a7 : Option Value} {x : Nat} : Wp d 163 17 [some (.ref x), a1, a2, a3, a4, a5, a6, a7] (st) w Q = Wp d 163 18 [some (.ref x), a1, a2, a3, a4, a5, a6, a7] (.ref x :: st) w Q := Wp.loc e163_17 rfl rfl rfl
theorem e163_18 : decode (j_co 163) 18 = .ok (.iload_n 1, 1) := by decide +kernel
set_option maxRecDepth 20000 in
theorem w163_18 {d : Nat} {st : List Value} {Q : Option Value × jW → Prop} {w : jW} {a0 a2 a3 a4 a5 a6 a7 : Option Value} {x : Int32} : Wp d 163 18 [a0, some (.int x), a2, a3, a4, a5, a6, a7] (st) w Q = Wp d 163 19 [a0, some (.int x), a2, a3, a4, a5, a6, a7] (.int x :: st) w Q := Wp.loc e163_18 rfl rfl rfl
theorem e163_19 : decode (j_co 163) 19 = .ok (.invokevirtual 240, 3) := by decide +kernel
set_option maxRecDepth 20000 in
theorem w163_19 {d : Nat} {st : List Value} {Q : Option Value × jW → Prop} {ls : jL} {xs : List Value} {I : fI} {L : fL} {r : Nat} {x0 : Int32} (hs : j_sumc st ≤ 8) (ht : f_tg r = 11) : Wp (d + 1) 163 19 ls (.int x0 :: .ref r :: st) (f_W xs I L) Q = Wp d 164 0 [some (.ref r), some (.int x0), none, none] [] (f_W xs I L) (fun r1 => Wp (d + 1) 163 22 ls (r1.1.toList ++ st) r1.2 Q) := Wp.cv (y' := 164) (as := [.int x0]) e163_19 rfl (by decide) rfl (show 2 ≤ 4 by decide) (by decide) hs ht
theorem e163_22 : decode (j_co 163) 22 = .ok (.ifCond .eq 7, 3) := by decide +kernel
set_option maxRecDepth 20000 in
theorem w163_22 {d : Nat} {st : List Value} {Q : Option Value × jW → Prop} {ls : jL} {w : jW} {a : Int32} : Wp d 163 22 ls (.int a :: st) w Q = ((a = nI 0 → Wp d 163 29 ls st w Q) ∧ (¬ a = nI 0 → Wp d 163 25 ls st w Q)) := Wp.if2 (c := a = nI 0) (off := 7) e163_22 rfl rfl rfl rfl rfl
theorem e163_25 : decode (j_co 163) 25 = .ok (.iconst 1, 1) := by decide +kernel
set_option maxRecDepth 20000 in
theorem w163_25 {d : Nat} {st : List Value} {Q : Option Value × jW → Prop} {ls : jL} {w : jW} : Wp d 163 25 ls (st) w Q = Wp d 163 26 ls (.int (nI 1) :: st) w Q := Wp.alu e163_25 rfl rfl
theorem e163_26 : decode (j_co 163) 26 = .ok (.goto 4, 3) := by decide +kernel
set_option maxRecDepth 20000 in
theorem w163_26 {d : Nat} {st : List Value} {Q : Option Value × jW → Prop} {ls : jL} {w : jW} : Wp d 163 26 ls (st) w Q = Wp d 163 30 ls (st) w Q := Wp.br e163_26 (Or.inl rfl) rfl rfl rfl rfl
theorem e163_29 : decode (j_co 163) 29 = .ok (.iconst 0, 1) := by decide +kernel
set_option maxRecDepth 20000 in
theorem w163_29 {d : Nat} {st : List Value} {Q : Option Value × jW → Prop} {ls : jL} {w : jW} : Wp d 163 29 ls (st) w Q = Wp d 163 30 ls (.int (nI 0) :: st) w Q := Wp.alu e163_29 rfl rfl
theorem e163_30 : decode (j_co 163) 30 = .ok (.istore 5, 2) := by decide +kernel
set_option maxRecDepth 20000 in
theorem w163_30 {d : Nat} {st : List Value} {Q : Option Value × jW → Prop} {w : jW} {a0 a1 a2 a3 a4 a5 a6 a7 : Option Value} {x : Int32} (h : j_cp a4) : Wp d 163 30 [a0, a1, a2, a3, a4, a5, a6, a7] (.int x :: st) w Q = Wp d 163 32 [a0, a1, a2, a3, a4, some (.int x), a6, a7] (st) w Q := Wp.loc e163_30 rfl rfl (v_stI (ls := [a0, a1, a2, a3, a4, a5, a6, a7]) (k := 5) (show 5 < 8 by decide) h)
theorem e163_32 : decode (j_co 163) 32 = .ok (.iconst 0, 1) := by decide +kernel
set_option maxRecDepth 20000 in
theorem w163_32 {d : Nat} {st : List Value} {Q : Option Value × jW → Prop} {ls : jL} {w : jW} : Wp d 163 32 ls (st) w Q = Wp d 163 33 ls (.int (nI 0) :: st) w Q := Wp.alu e163_32 rfl rfl
theorem e163_33 : decode (j_co 163) 33 = .ok (.istore 6, 2) := by decide +kernel
set_option maxRecDepth 20000 in
theorem w163_33 {d : Nat} {st : List Value} {Q : Option Value × jW → Prop} {w : jW} {a0 a1 a2 a3 a4 a5 a6 a7 : Option Value} {x : Int32} (h : j_cp a5) : Wp d 163 33 [a0, a1, a2, a3, a4, a5, a6, a7] (.int x :: st) w Q = Wp d 163 35 [a0, a1, a2, a3, a4, a5, some (.int x), a7] (st) w Q := Wp.loc e163_33 rfl rfl (v_stI (ls := [a0, a1, a2, a3, a4, a5, a6, a7]) (k := 6) (show 6 < 8 by decide) h)
theorem e163_35 : decode (j_co 163) 35 = .ok (.iload 6, 2) := by decide +kernel
set_option maxRecDepth 20000 in
theorem w163_35 {d : Nat} {st : List Value} {Q : Option Value × jW → Prop} {w : jW} {a0 a1 a2 a3 a4 a5 a7 : Option Value} {x : Int32} : Wp d 163 35 [a0, a1, a2, a3, a4, a5, some (.int x), a7] (st) w Q = Wp d 163 37 [a0, a1, a2, a3, a4, a5, some (.int x), a7] (.int x :: st) w Q := Wp.loc e163_35 rfl rfl rfl
theorem e163_37 : decode (j_co 163) 37 = .ok (.iconst 3, 1) := by decide +kernel
set_option maxRecDepth 20000 in
theorem w163_37 {d : Nat} {st : List Value} {Q : Option Value × jW → Prop} {ls : jL} {w : jW} : Wp d 163 37 ls (st) w Q = Wp d 163 38 ls (.int (nI 3) :: st) w Q := Wp.alu e163_37 rfl rfl
theorem e163_38 : decode (j_co 163) 38 = .ok (.if_icmp .ge 138, 3) := by decide +kernel
set_option maxRecDepth 20000 in
theorem w163_38 {d : Nat} {st : List Value} {Q : Option Value × jW → Prop} {ls : jL} {w : jW} {a b : Int32} : Wp d 163 38 ls (.int b :: .int a :: st) w Q = ((b ≤ a → Wp d 163 176 ls st w Q) ∧ (¬ b ≤ a → Wp d 163 41 ls st w Q)) := Wp.if2 (c := b ≤ a) (off := 138) e163_38 rfl rfl rfl rfl rfl
theorem e163_41 : decode (j_co 163) 41 = .ok (.iload 5, 2) := by decide +kernel
set_option maxRecDepth 20000 in
theorem w163_41 {d : Nat} {st : List Value} {Q : Option Value × jW → Prop} {w : jW} {a0 a1 a2 a3 a4 a6 a7 : Option Value} {x : Int32} : Wp d 163 41 [a0, a1, a2, a3, a4, some (.int x), a6, a7] (st) w Q = Wp d 163 43 [a0, a1, a2, a3, a4, some (.int x), a6, a7] (.int x :: st) w Q := Wp.loc e163_41 rfl rfl rfl
theorem e163_43 : decode (j_co 163) 43 = .ok (.ifCond .eq 133, 3) := by decide +kernel
set_option maxRecDepth 20000 in
theorem w163_43 {d : Nat} {st : List Value} {Q : Option Value × jW → Prop} {ls : jL} {w : jW} {a : Int32} : Wp d 163 43 ls (.int a :: st) w Q = ((a = nI 0 → Wp d 163 176 ls st w Q) ∧ (¬ a = nI 0 → Wp d 163 46 ls st w Q)) := Wp.if2 (c := a = nI 0) (off := 133) e163_43 rfl rfl rfl rfl rfl
theorem e163_46 : decode (j_co 163) 46 = .ok (.aload_n 0, 1) := by decide +kernel
set_option maxRecDepth 20000 in
theorem w163_46 {d : Nat} {st : List Value} {Q : Option Value × jW → Prop} {w : jW} {a1 a2 a3 a4 a5 a6 a7 : Option Value} {x : Nat} : Wp d 163 46 [some (.ref x), a1, a2, a3, a4, a5, a6, a7] (st) w Q = Wp d 163 47 [some (.ref x), a1, a2, a3, a4, a5, a6, a7] (.ref x :: st) w Q := Wp.loc e163_46 rfl rfl rfl
theorem e163_47 : decode (j_co 163) 47 = .ok (.getfield 28, 3) := by decide +kernel
set_option maxRecDepth 20000 in
theorem w163_47 {d : Nat} {st : List Value} {Q : Option Value × jW → Prop} {ls : jL} {xs : List Value} {I : fI} {L : fL} {o : Nat} (ht : f_tg o = 11) : Wp d 163 47 ls (.ref o :: st) (f_W xs I L) Q = Wp d 163 50 ls (.ref (f_rf o 8) :: st) (f_W xs I L) Q := Wp.getR (ci := 11) (k := 8) e163_47 rfl (by decide) (by decide) rfl ht
theorem e163_50 : decode (j_co 163) 50 = .ok (.iconst 3, 1) := by decide +kernel
set_option maxRecDepth 20000 in
theorem w163_50 {d : Nat} {st : List Value} {Q : Option Value × jW → Prop} {ls : jL} {w : jW} : Wp d 163 50 ls (st) w Q = Wp d 163 51 ls (.int (nI 3) :: st) w Q := Wp.alu e163_50 rfl rfl
theorem e163_51 : decode (j_co 163) 51 = .ok (.iload_n 1, 1) := by decide +kernel
set_option maxRecDepth 20000 in
theorem w163_51 {d : Nat} {st : List Value} {Q : Option Value × jW → Prop} {w : jW} {a0 a2 a3 a4 a5 a6 a7 : Option Value} {x : Int32} : Wp d 163 51 [a0, some (.int x), a2, a3, a4, a5, a6, a7] (st) w Q = Wp d 163 52 [a0, some (.int x), a2, a3, a4, a5, a6, a7] (.int x :: st) w Q := Wp.loc e163_51 rfl rfl rfl
theorem e163_52 : decode (j_co 163) 52 = .ok (.imul, 1) := by decide +kernel
set_option maxRecDepth 20000 in
theorem w163_52 {d : Nat} {st : List Value} {Q : Option Value × jW → Prop} {ls : jL} {w : jW} {a b : Int32} : Wp d 163 52 ls (.int b :: .int a :: st) w Q = Wp d 163 53 ls (.int (a * b) :: st) w Q := Wp.alu e163_52 rfl rfl
theorem e163_53 : decode (j_co 163) 53 = .ok (.iload 6, 2) := by decide +kernel
set_option maxRecDepth 20000 in
theorem w163_53 {d : Nat} {st : List Value} {Q : Option Value × jW → Prop} {w : jW} {a0 a1 a2 a3 a4 a5 a7 : Option Value} {x : Int32} : Wp d 163 53 [a0, a1, a2, a3, a4, a5, some (.int x), a7] (st) w Q = Wp d 163 55 [a0, a1, a2, a3, a4, a5, some (.int x), a7] (.int x :: st) w Q := Wp.loc e163_53 rfl rfl rfl
theorem e163_55 : decode (j_co 163) 55 = .ok (.iadd, 1) := by decide +kernel
set_option maxRecDepth 20000 in
theorem w163_55 {d : Nat} {st : List Value} {Q : Option Value × jW → Prop} {ls : jL} {w : jW} {a b : Int32} : Wp d 163 55 ls (.int b :: .int a :: st) w Q = Wp d 163 56 ls (.int (a + b) :: st) w Q := Wp.alu e163_55 rfl rfl
theorem e163_56 : decode (j_co 163) 56 = .ok (.baload, 1) := by decide +kernel
set_option maxRecDepth 20000 in
theorem w163_56 {d : Nat} {st : List Value} {Q : Option Value × jW → Prop} {ls : jL} {xs : List Value} {I : fI} {L : fL} {o : Nat} {i : Int32} (ht : f_tg o = 101) (hi : ¬ (i < 0 ∨ f_ln o ≤ i.toNatClampNeg)) : Wp d 163 56 ls (.int i :: .ref o :: st) (f_W xs I L) Q = Wp d 163 57 ls (.int (I o i.toNatClampNeg) :: st) (f_W xs I L) Q := Wp.zald e163_56 ht hi
theorem e163_57 : decode (j_co 163) 57 = .ok (.ifCond .eq 27, 3) := by decide +kernel
set_option maxRecDepth 20000 in
theorem w163_57 {d : Nat} {st : List Value} {Q : Option Value × jW → Prop} {ls : jL} {w : jW} {a : Int32} : Wp d 163 57 ls (.int a :: st) w Q = ((a = nI 0 → Wp d 163 84 ls st w Q) ∧ (¬ a = nI 0 → Wp d 163 60 ls st w Q)) := Wp.if2 (c := a = nI 0) (off := 27) e163_57 rfl rfl rfl rfl rfl
theorem e163_60 : decode (j_co 163) 60 = .ok (.iload 6, 2) := by decide +kernel
set_option maxRecDepth 20000 in
theorem w163_60 {d : Nat} {st : List Value} {Q : Option Value × jW → Prop} {w : jW} {a0 a1 a2 a3 a4 a5 a7 : Option Value} {x : Int32} : Wp d 163 60 [a0, a1, a2, a3, a4, a5, some (.int x), a7] (st) w Q = Wp d 163 62 [a0, a1, a2, a3, a4, a5, some (.int x), a7] (.int x :: st) w Q := Wp.loc e163_60 rfl rfl rfl
theorem e163_62 : decode (j_co 163) 62 = .ok (.ifCond .ne 7, 3) := by decide +kernel
set_option maxRecDepth 20000 in
theorem w163_62 {d : Nat} {st : List Value} {Q : Option Value × jW → Prop} {ls : jL} {w : jW} {a : Int32} : Wp d 163 62 ls (.int a :: st) w Q = ((a = nI 0 → Wp d 163 65 ls st w Q) ∧ (¬ a = nI 0 → Wp d 163 69 ls st w Q)) := Wp.if2n (c := a = nI 0) (off := 7) e163_62 rfl rfl rfl rfl rfl
theorem e163_65 : decode (j_co 163) 65 = .ok (.iload_n 2, 1) := by decide +kernel
set_option maxRecDepth 20000 in
theorem w163_65 {d : Nat} {st : List Value} {Q : Option Value × jW → Prop} {w : jW} {a0 a1 a3 a4 a5 a6 a7 : Option Value} {x : Int32} : Wp d 163 65 [a0, a1, some (.int x), a3, a4, a5, a6, a7] (st) w Q = Wp d 163 66 [a0, a1, some (.int x), a3, a4, a5, a6, a7] (.int x :: st) w Q := Wp.loc e163_65 rfl rfl rfl
theorem e163_66 : decode (j_co 163) 66 = .ok (.goto 25, 3) := by decide +kernel
set_option maxRecDepth 20000 in
theorem w163_66 {d : Nat} {st : List Value} {Q : Option Value × jW → Prop} {ls : jL} {w : jW} : Wp d 163 66 ls (st) w Q = Wp d 163 91 ls (st) w Q := Wp.br e163_66 (Or.inl rfl) rfl rfl rfl rfl
theorem e163_69 : decode (j_co 163) 69 = .ok (.iload 6, 2) := by decide +kernel
set_option maxRecDepth 20000 in
theorem w163_69 {d : Nat} {st : List Value} {Q : Option Value × jW → Prop} {w : jW} {a0 a1 a2 a3 a4 a5 a7 : Option Value} {x : Int32} : Wp d 163 69 [a0, a1, a2, a3, a4, a5, some (.int x), a7] (st) w Q = Wp d 163 71 [a0, a1, a2, a3, a4, a5, some (.int x), a7] (.int x :: st) w Q := Wp.loc e163_69 rfl rfl rfl
theorem e163_71 : decode (j_co 163) 71 = .ok (.iconst 1, 1) := by decide +kernel
set_option maxRecDepth 20000 in
theorem w163_71 {d : Nat} {st : List Value} {Q : Option Value × jW → Prop} {ls : jL} {w : jW} : Wp d 163 71 ls (st) w Q = Wp d 163 72 ls (.int (nI 1) :: st) w Q := Wp.alu e163_71 rfl rfl
theorem e163_72 : decode (j_co 163) 72 = .ok (.if_icmp .ne 7, 3) := by decide +kernel
set_option maxRecDepth 20000 in
theorem w163_72 {d : Nat} {st : List Value} {Q : Option Value × jW → Prop} {ls : jL} {w : jW} {a b : Int32} : Wp d 163 72 ls (.int b :: .int a :: st) w Q = ((a = b → Wp d 163 75 ls st w Q) ∧ (¬ a = b → Wp d 163 79 ls st w Q)) := Wp.if2n (c := a = b) (off := 7) e163_72 rfl rfl rfl rfl rfl
theorem e163_75 : decode (j_co 163) 75 = .ok (.iload_n 3, 1) := by decide +kernel
set_option maxRecDepth 20000 in
theorem w163_75 {d : Nat} {st : List Value} {Q : Option Value × jW → Prop} {w : jW} {a0 a1 a2 a4 a5 a6 a7 : Option Value} {x : Int32} : Wp d 163 75 [a0, a1, a2, some (.int x), a4, a5, a6, a7] (st) w Q = Wp d 163 76 [a0, a1, a2, some (.int x), a4, a5, a6, a7] (.int x :: st) w Q := Wp.loc e163_75 rfl rfl rfl
theorem e163_76 : decode (j_co 163) 76 = .ok (.goto 15, 3) := by decide +kernel
set_option maxRecDepth 20000 in
theorem w163_76 {d : Nat} {st : List Value} {Q : Option Value × jW → Prop} {ls : jL} {w : jW} : Wp d 163 76 ls (st) w Q = Wp d 163 91 ls (st) w Q := Wp.br e163_76 (Or.inl rfl) rfl rfl rfl rfl
theorem e163_79 : decode (j_co 163) 79 = .ok (.iload 4, 2) := by decide +kernel
set_option maxRecDepth 20000 in
theorem w163_79 {d : Nat} {st : List Value} {Q : Option Value × jW → Prop} {w : jW} {a0 a1 a2 a3 a5 a6 a7 : Option Value} {x : Int32} : Wp d 163 79 [a0, a1, a2, a3, some (.int x), a5, a6, a7] (st) w Q = Wp d 163 81 [a0, a1, a2, a3, some (.int x), a5, a6, a7] (.int x :: st) w Q := Wp.loc e163_79 rfl rfl rfl
theorem e163_81 : decode (j_co 163) 81 = .ok (.goto 10, 3) := by decide +kernel
set_option maxRecDepth 20000 in
theorem w163_81 {d : Nat} {st : List Value} {Q : Option Value × jW → Prop} {ls : jL} {w : jW} : Wp d 163 81 ls (st) w Q = Wp d 163 91 ls (st) w Q := Wp.br e163_81 (Or.inl rfl) rfl rfl rfl rfl
theorem e163_84 : decode (j_co 163) 84 = .ok (.aload_n 0, 1) := by decide +kernel
set_option maxRecDepth 20000 in
theorem w163_84 {d : Nat} {st : List Value} {Q : Option Value × jW → Prop} {w : jW} {a1 a2 a3 a4 a5 a6 a7 : Option Value} {x : Nat} : Wp d 163 84 [some (.ref x), a1, a2, a3, a4, a5, a6, a7] (st) w Q = Wp d 163 85 [some (.ref x), a1, a2, a3, a4, a5, a6, a7] (.ref x :: st) w Q := Wp.loc e163_84 rfl rfl rfl
theorem e163_85 : decode (j_co 163) 85 = .ok (.getfield 78, 3) := by decide +kernel
set_option maxRecDepth 20000 in
theorem w163_85 {d : Nat} {st : List Value} {Q : Option Value × jW → Prop} {ls : jL} {xs : List Value} {I : fI} {L : fL} {o : Nat} (ht : f_tg o = 11) : Wp d 163 85 ls (.ref o :: st) (f_W xs I L) Q = Wp d 163 88 ls (.ref (f_rf o 32) :: st) (f_W xs I L) Q := Wp.getR (ci := 11) (k := 32) e163_85 rfl (by decide) (by decide) rfl ht
theorem e163_88 : decode (j_co 163) 88 = .ok (.iload 6, 2) := by decide +kernel
set_option maxRecDepth 20000 in
theorem w163_88 {d : Nat} {st : List Value} {Q : Option Value × jW → Prop} {w : jW} {a0 a1 a2 a3 a4 a5 a7 : Option Value} {x : Int32} : Wp d 163 88 [a0, a1, a2, a3, a4, a5, some (.int x), a7] (st) w Q = Wp d 163 90 [a0, a1, a2, a3, a4, a5, some (.int x), a7] (.int x :: st) w Q := Wp.loc e163_88 rfl rfl rfl
theorem e163_90 : decode (j_co 163) 90 = .ok (.iaload, 1) := by decide +kernel
set_option maxRecDepth 20000 in
theorem w163_90 {d : Nat} {st : List Value} {Q : Option Value × jW → Prop} {ls : jL} {xs : List Value} {I : fI} {L : fL} {o : Nat} {i : Int32} (ht : f_tg o = 100) (hi : ¬ (i < 0 ∨ f_ln o ≤ i.toNatClampNeg)) : Wp d 163 90 ls (.int i :: .ref o :: st) (f_W xs I L) Q = Wp d 163 91 ls (.int (I o i.toNatClampNeg) :: st) (f_W xs I L) Q := Wp.iald e163_90 ht hi
theorem e163_91 : decode (j_co 163) 91 = .ok (.istore 7, 2) := by decide +kernel
set_option maxRecDepth 20000 in
theorem w163_91 {d : Nat} {st : List Value} {Q : Option Value × jW → Prop} {w : jW} {a0 a1 a2 a3 a4 a5 a6 a7 : Option Value} {x : Int32} (h : j_cp a6) : Wp d 163 91 [a0, a1, a2, a3, a4, a5, a6, a7] (.int x :: st) w Q = Wp d 163 93 [a0, a1, a2, a3, a4, a5, a6, some (.int x)] (st) w Q := Wp.loc e163_91 rfl rfl (v_stI (ls := [a0, a1, a2, a3, a4, a5, a6, a7]) (k := 7) (show 7 < 8 by decide) h)
theorem e163_93 : decode (j_co 163) 93 = .ok (.aload_n 0, 1) := by decide +kernel
set_option maxRecDepth 20000 in
theorem w163_93 {d : Nat} {st : List Value} {Q : Option Value × jW → Prop} {w : jW} {a1 a2 a3 a4 a5 a6 a7 : Option Value} {x : Nat} : Wp d 163 93 [some (.ref x), a1, a2, a3, a4, a5, a6, a7] (st) w Q = Wp d 163 94 [some (.ref x), a1, a2, a3, a4, a5, a6, a7] (.ref x :: st) w Q := Wp.loc e163_93 rfl rfl rfl
theorem e163_94 : decode (j_co 163) 94 = .ok (.getfield 28, 3) := by decide +kernel
set_option maxRecDepth 20000 in
theorem w163_94 {d : Nat} {st : List Value} {Q : Option Value × jW → Prop} {ls : jL} {xs : List Value} {I : fI} {L : fL} {o : Nat} (ht : f_tg o = 11) : Wp d 163 94 ls (.ref o :: st) (f_W xs I L) Q = Wp d 163 97 ls (.ref (f_rf o 8) :: st) (f_W xs I L) Q := Wp.getR (ci := 11) (k := 8) e163_94 rfl (by decide) (by decide) rfl ht
theorem e163_97 : decode (j_co 163) 97 = .ok (.iconst 3, 1) := by decide +kernel
set_option maxRecDepth 20000 in
theorem w163_97 {d : Nat} {st : List Value} {Q : Option Value × jW → Prop} {ls : jL} {w : jW} : Wp d 163 97 ls (st) w Q = Wp d 163 98 ls (.int (nI 3) :: st) w Q := Wp.alu e163_97 rfl rfl
theorem e163_98 : decode (j_co 163) 98 = .ok (.iload_n 1, 1) := by decide +kernel
set_option maxRecDepth 20000 in
theorem w163_98 {d : Nat} {st : List Value} {Q : Option Value × jW → Prop} {w : jW} {a0 a2 a3 a4 a5 a6 a7 : Option Value} {x : Int32} : Wp d 163 98 [a0, some (.int x), a2, a3, a4, a5, a6, a7] (st) w Q = Wp d 163 99 [a0, some (.int x), a2, a3, a4, a5, a6, a7] (.int x :: st) w Q := Wp.loc e163_98 rfl rfl rfl
theorem e163_99 : decode (j_co 163) 99 = .ok (.imul, 1) := by decide +kernel
set_option maxRecDepth 20000 in
theorem w163_99 {d : Nat} {st : List Value} {Q : Option Value × jW → Prop} {ls : jL} {w : jW} {a b : Int32} : Wp d 163 99 ls (.int b :: .int a :: st) w Q = Wp d 163 100 ls (.int (a * b) :: st) w Q := Wp.alu e163_99 rfl rfl
theorem e163_100 : decode (j_co 163) 100 = .ok (.iload 6, 2) := by decide +kernel
set_option maxRecDepth 20000 in
theorem w163_100 {d : Nat} {st : List Value} {Q : Option Value × jW → Prop} {w : jW} {a0 a1 a2 a3 a4 a5 a7 : Option Value} {x : Int32} : Wp d 163 100 [a0, a1, a2, a3, a4, a5, some (.int x), a7] (st) w Q = Wp d 163 102 [a0, a1, a2, a3, a4, a5, some (.int x), a7] (.int x :: st) w Q := Wp.loc e163_100 rfl rfl rfl
theorem e163_102 : decode (j_co 163) 102 = .ok (.iadd, 1) := by decide +kernel
set_option maxRecDepth 20000 in
theorem w163_102 {d : Nat} {st : List Value} {Q : Option Value × jW → Prop} {ls : jL} {w : jW} {a b : Int32} : Wp d 163 102 ls (.int b :: .int a :: st) w Q = Wp d 163 103 ls (.int (a + b) :: st) w Q := Wp.alu e163_102 rfl rfl
theorem e163_103 : decode (j_co 163) 103 = .ok (.baload, 1) := by decide +kernel
set_option maxRecDepth 20000 in
theorem w163_103 {d : Nat} {st : List Value} {Q : Option Value × jW → Prop} {ls : jL} {xs : List Value} {I : fI} {L : fL} {o : Nat} {i : Int32} (ht : f_tg o = 101) (hi : ¬ (i < 0 ∨ f_ln o ≤ i.toNatClampNeg)) : Wp d 163 103 ls (.int i :: .ref o :: st) (f_W xs I L) Q = Wp d 163 104 ls (.int (I o i.toNatClampNeg) :: st) (f_W xs I L) Q := Wp.zald e163_103 ht hi
theorem e163_104 : decode (j_co 163) 104 = .ok (.ifCond .eq 24, 3) := by decide +kernel
set_option maxRecDepth 20000 in
theorem w163_104 {d : Nat} {st : List Value} {Q : Option Value × jW → Prop} {ls : jL} {w : jW} {a : Int32} : Wp d 163 104 ls (.int a :: st) w Q = ((a = nI 0 → Wp d 163 128 ls st w Q) ∧ (¬ a = nI 0 → Wp d 163 107 ls st w Q)) := Wp.if2 (c := a = nI 0) (off := 24) e163_104 rfl rfl rfl rfl rfl
theorem e163_107 : decode (j_co 163) 107 = .ok (.iload 7, 2) := by decide +kernel
set_option maxRecDepth 20000 in
theorem w163_107 {d : Nat} {st : List Value} {Q : Option Value × jW → Prop} {w : jW} {a0 a1 a2 a3 a4 a5 a6 : Option Value} {x : Int32} : Wp d 163 107 [a0, a1, a2, a3, a4, a5, a6, some (.int x)] (st) w Q = Wp d 163 109 [a0, a1, a2, a3, a4, a5, a6, some (.int x)] (.int x :: st) w Q := Wp.loc e163_107 rfl rfl rfl
theorem e163_109 : decode (j_co 163) 109 = .ok (.aload_n 0, 1) := by decide +kernel
set_option maxRecDepth 20000 in
theorem w163_109 {d : Nat} {st : List Value} {Q : Option Value × jW → Prop} {w : jW} {a1 a2 a3 a4 a5 a6 a7 : Option Value} {x : Nat} : Wp d 163 109 [some (.ref x), a1, a2, a3, a4, a5, a6, a7] (st) w Q = Wp d 163 110 [some (.ref x), a1, a2, a3, a4, a5, a6, a7] (.ref x :: st) w Q := Wp.loc e163_109 rfl rfl rfl
theorem e163_110 : decode (j_co 163) 110 = .ok (.getfield 25, 3) := by decide +kernel
set_option maxRecDepth 20000 in
theorem w163_110 {d : Nat} {st : List Value} {Q : Option Value × jW → Prop} {ls : jL} {xs : List Value} {I : fI} {L : fL} {o : Nat} (ht : f_tg o = 11) : Wp d 163 110 ls (.ref o :: st) (f_W xs I L) Q = Wp d 163 113 ls (.ref (f_rf o 7) :: st) (f_W xs I L) Q := Wp.getR (ci := 11) (k := 7) e163_110 rfl (by decide) (by decide) rfl ht
theorem e163_113 : decode (j_co 163) 113 = .ok (.bipush 6, 2) := by decide +kernel
set_option maxRecDepth 20000 in
theorem w163_113 {d : Nat} {st : List Value} {Q : Option Value × jW → Prop} {ls : jL} {w : jW} : Wp d 163 113 ls (st) w Q = Wp d 163 115 ls (.int (nI 6) :: st) w Q := Wp.alu e163_113 rfl rfl
theorem e163_115 : decode (j_co 163) 115 = .ok (.iload_n 1, 1) := by decide +kernel
set_option maxRecDepth 20000 in
theorem w163_115 {d : Nat} {st : List Value} {Q : Option Value × jW → Prop} {w : jW} {a0 a2 a3 a4 a5 a6 a7 : Option Value} {x : Int32} : Wp d 163 115 [a0, some (.int x), a2, a3, a4, a5, a6, a7] (st) w Q = Wp d 163 116 [a0, some (.int x), a2, a3, a4, a5, a6, a7] (.int x :: st) w Q := Wp.loc e163_115 rfl rfl rfl
theorem e163_116 : decode (j_co 163) 116 = .ok (.imul, 1) := by decide +kernel
set_option maxRecDepth 20000 in
theorem w163_116 {d : Nat} {st : List Value} {Q : Option Value × jW → Prop} {ls : jL} {w : jW} {a b : Int32} : Wp d 163 116 ls (.int b :: .int a :: st) w Q = Wp d 163 117 ls (.int (a * b) :: st) w Q := Wp.alu e163_116 rfl rfl
theorem e163_117 : decode (j_co 163) 117 = .ok (.iconst 2, 1) := by decide +kernel
set_option maxRecDepth 20000 in
theorem w163_117 {d : Nat} {st : List Value} {Q : Option Value × jW → Prop} {ls : jL} {w : jW} : Wp d 163 117 ls (st) w Q = Wp d 163 118 ls (.int (nI 2) :: st) w Q := Wp.alu e163_117 rfl rfl
theorem e163_118 : decode (j_co 163) 118 = .ok (.iload 6, 2) := by decide +kernel
set_option maxRecDepth 20000 in
theorem w163_118 {d : Nat} {st : List Value} {Q : Option Value × jW → Prop} {w : jW} {a0 a1 a2 a3 a4 a5 a7 : Option Value} {x : Int32} : Wp d 163 118 [a0, a1, a2, a3, a4, a5, some (.int x), a7] (st) w Q = Wp d 163 120 [a0, a1, a2, a3, a4, a5, some (.int x), a7] (.int x :: st) w Q := Wp.loc e163_118 rfl rfl rfl
theorem e163_120 : decode (j_co 163) 120 = .ok (.imul, 1) := by decide +kernel
set_option maxRecDepth 20000 in
theorem w163_120 {d : Nat} {st : List Value} {Q : Option Value × jW → Prop} {ls : jL} {w : jW} {a b : Int32} : Wp d 163 120 ls (.int b :: .int a :: st) w Q = Wp d 163 121 ls (.int (a * b) :: st) w Q := Wp.alu e163_120 rfl rfl
theorem e163_121 : decode (j_co 163) 121 = .ok (.iadd, 1) := by decide +kernel
set_option maxRecDepth 20000 in
theorem w163_121 {d : Nat} {st : List Value} {Q : Option Value × jW → Prop} {ls : jL} {w : jW} {a b : Int32} : Wp d 163 121 ls (.int b :: .int a :: st) w Q = Wp d 163 122 ls (.int (a + b) :: st) w Q := Wp.alu e163_121 rfl rfl
theorem e163_122 : decode (j_co 163) 122 = .ok (.invokestatic 236, 3) := by decide +kernel
set_option maxRecDepth 20000 in
theorem w163_122 {d : Nat} {st : List Value} {Q : Option Value × jW → Prop} {ls : jL} {w : jW} {x0 : Int32} {x1 : Nat} {x2 : Int32} (hs : j_sumc st ≤ 8) : Wp (d + 1) 163 122 ls (.int x2 :: .ref x1 :: .int x0 :: st) w Q = Wp d 162 0 [some (.int x0), some (.ref x1), some (.int x2)] [] w (fun r1 => Wp (d + 1) 163 125 ls (r1.1.toList ++ st) r1.2 Q) := Wp.cs (kd := 1) (y' := 162) (as := [.int x0, .ref x1, .int x2]) e163_122 rfl (by decide) (by decide) rfl (show 3 ≤ 3 by decide) hs
theorem e163_125 : decode (j_co 163) 125 = .ok (.ifCond .eq 33, 3) := by decide +kernel
set_option maxRecDepth 20000 in
theorem w163_125 {d : Nat} {st : List Value} {Q : Option Value × jW → Prop} {ls : jL} {w : jW} {a : Int32} : Wp d 163 125 ls (.int a :: st) w Q = ((a = nI 0 → Wp d 163 158 ls st w Q) ∧ (¬ a = nI 0 → Wp d 163 128 ls st w Q)) := Wp.if2 (c := a = nI 0) (off := 33) e163_125 rfl rfl rfl rfl rfl
theorem e163_128 : decode (j_co 163) 128 = .ok (.iload 7, 2) := by decide +kernel
set_option maxRecDepth 20000 in
theorem w163_128 {d : Nat} {st : List Value} {Q : Option Value × jW → Prop} {w : jW} {a0 a1 a2 a3 a4 a5 a6 : Option Value} {x : Int32} : Wp d 163 128 [a0, a1, a2, a3, a4, a5, a6, some (.int x)] (st) w Q = Wp d 163 130 [a0, a1, a2, a3, a4, a5, a6, some (.int x)] (.int x :: st) w Q := Wp.loc e163_128 rfl rfl rfl
theorem e163_130 : decode (j_co 163) 130 = .ok (.aload_n 0, 1) := by decide +kernel
set_option maxRecDepth 20000 in
theorem w163_130 {d : Nat} {st : List Value} {Q : Option Value × jW → Prop} {w : jW} {a1 a2 a3 a4 a5 a6 a7 : Option Value} {x : Nat} : Wp d 163 130 [some (.ref x), a1, a2, a3, a4, a5, a6, a7] (st) w Q = Wp d 163 131 [some (.ref x), a1, a2, a3, a4, a5, a6, a7] (.ref x :: st) w Q := Wp.loc e163_130 rfl rfl rfl
theorem e163_131 : decode (j_co 163) 131 = .ok (.getfield 7, 3) := by decide +kernel
set_option maxRecDepth 20000 in
theorem w163_131 {d : Nat} {st : List Value} {Q : Option Value × jW → Prop} {ls : jL} {xs : List Value} {I : fI} {L : fL} {o : Nat} (ht : f_tg o = 11) : Wp d 163 131 ls (.ref o :: st) (f_W xs I L) Q = Wp d 163 134 ls (.ref (f_rf o 1) :: st) (f_W xs I L) Q := Wp.getR (ci := 11) (k := 1) e163_131 rfl (by decide) (by decide) rfl ht
theorem e163_134 : decode (j_co 163) 134 = .ok (.bipush 6, 2) := by decide +kernel
set_option maxRecDepth 20000 in
theorem w163_134 {d : Nat} {st : List Value} {Q : Option Value × jW → Prop} {ls : jL} {w : jW} : Wp d 163 134 ls (st) w Q = Wp d 163 136 ls (.int (nI 6) :: st) w Q := Wp.alu e163_134 rfl rfl
theorem e163_136 : decode (j_co 163) 136 = .ok (.aload_n 0, 1) := by decide +kernel
set_option maxRecDepth 20000 in
theorem w163_136 {d : Nat} {st : List Value} {Q : Option Value × jW → Prop} {w : jW} {a1 a2 a3 a4 a5 a6 a7 : Option Value} {x : Nat} : Wp d 163 136 [some (.ref x), a1, a2, a3, a4, a5, a6, a7] (st) w Q = Wp d 163 137 [some (.ref x), a1, a2, a3, a4, a5, a6, a7] (.ref x :: st) w Q := Wp.loc e163_136 rfl rfl rfl
theorem e163_137 : decode (j_co 163) 137 = .ok (.getfield 19, 3) := by decide +kernel
set_option maxRecDepth 20000 in
theorem w163_137 {d : Nat} {st : List Value} {Q : Option Value × jW → Prop} {ls : jL} {xs : List Value} {I : fI} {L : fL} {o : Nat} (ht : f_tg o = 11) : Wp d 163 137 ls (.ref o :: st) (f_W xs I L) Q = Wp d 163 140 ls (.ref (f_rf o 5) :: st) (f_W xs I L) Q := Wp.getR (ci := 11) (k := 5) e163_137 rfl (by decide) (by decide) rfl ht
theorem e163_140 : decode (j_co 163) 140 = .ok (.iload_n 1, 1) := by decide +kernel
set_option maxRecDepth 20000 in
theorem w163_140 {d : Nat} {st : List Value} {Q : Option Value × jW → Prop} {w : jW} {a0 a2 a3 a4 a5 a6 a7 : Option Value} {x : Int32} : Wp d 163 140 [a0, some (.int x), a2, a3, a4, a5, a6, a7] (st) w Q = Wp d 163 141 [a0, some (.int x), a2, a3, a4, a5, a6, a7] (.int x :: st) w Q := Wp.loc e163_140 rfl rfl rfl
theorem e163_141 : decode (j_co 163) 141 = .ok (.iaload, 1) := by decide +kernel
set_option maxRecDepth 20000 in
theorem w163_141 {d : Nat} {st : List Value} {Q : Option Value × jW → Prop} {ls : jL} {xs : List Value} {I : fI} {L : fL} {o : Nat} {i : Int32} (ht : f_tg o = 100) (hi : ¬ (i < 0 ∨ f_ln o ≤ i.toNatClampNeg)) : Wp d 163 141 ls (.int i :: .ref o :: st) (f_W xs I L) Q = Wp d 163 142 ls (.int (I o i.toNatClampNeg) :: st) (f_W xs I L) Q := Wp.iald e163_141 ht hi
theorem e163_142 : decode (j_co 163) 142 = .ok (.imul, 1) := by decide +kernel
set_option maxRecDepth 20000 in
theorem w163_142 {d : Nat} {st : List Value} {Q : Option Value × jW → Prop} {ls : jL} {w : jW} {a b : Int32} : Wp d 163 142 ls (.int b :: .int a :: st) w Q = Wp d 163 143 ls (.int (a * b) :: st) w Q := Wp.alu e163_142 rfl rfl
theorem e163_143 : decode (j_co 163) 143 = .ok (.iconst 2, 1) := by decide +kernel
set_option maxRecDepth 20000 in
theorem w163_143 {d : Nat} {st : List Value} {Q : Option Value × jW → Prop} {ls : jL} {w : jW} : Wp d 163 143 ls (st) w Q = Wp d 163 144 ls (.int (nI 2) :: st) w Q := Wp.alu e163_143 rfl rfl
theorem e163_144 : decode (j_co 163) 144 = .ok (.iload 6, 2) := by decide +kernel
set_option maxRecDepth 20000 in
theorem w163_144 {d : Nat} {st : List Value} {Q : Option Value × jW → Prop} {w : jW} {a0 a1 a2 a3 a4 a5 a7 : Option Value} {x : Int32} : Wp d 163 144 [a0, a1, a2, a3, a4, a5, some (.int x), a7] (st) w Q = Wp d 163 146 [a0, a1, a2, a3, a4, a5, some (.int x), a7] (.int x :: st) w Q := Wp.loc e163_144 rfl rfl rfl
theorem e163_146 : decode (j_co 163) 146 = .ok (.imul, 1) := by decide +kernel
set_option maxRecDepth 20000 in
theorem w163_146 {d : Nat} {st : List Value} {Q : Option Value × jW → Prop} {ls : jL} {w : jW} {a b : Int32} : Wp d 163 146 ls (.int b :: .int a :: st) w Q = Wp d 163 147 ls (.int (a * b) :: st) w Q := Wp.alu e163_146 rfl rfl
theorem e163_147 : decode (j_co 163) 147 = .ok (.iadd, 1) := by decide +kernel
set_option maxRecDepth 20000 in
theorem w163_147 {d : Nat} {st : List Value} {Q : Option Value × jW → Prop} {ls : jL} {w : jW} {a b : Int32} : Wp d 163 147 ls (.int b :: .int a :: st) w Q = Wp d 163 148 ls (.int (a + b) :: st) w Q := Wp.alu e163_147 rfl rfl
theorem e163_148 : decode (j_co 163) 148 = .ok (.invokestatic 236, 3) := by decide +kernel
set_option maxRecDepth 20000 in
theorem w163_148 {d : Nat} {st : List Value} {Q : Option Value × jW → Prop} {ls : jL} {w : jW} {x0 : Int32} {x1 : Nat} {x2 : Int32} (hs : j_sumc st ≤ 8) : Wp (d + 1) 163 148 ls (.int x2 :: .ref x1 :: .int x0 :: st) w Q = Wp d 162 0 [some (.int x0), some (.ref x1), some (.int x2)] [] w (fun r1 => Wp (d + 1) 163 151 ls (r1.1.toList ++ st) r1.2 Q) := Wp.cs (kd := 1) (y' := 162) (as := [.int x0, .ref x1, .int x2]) e163_148 rfl (by decide) (by decide) rfl (show 3 ≤ 3 by decide) hs
theorem e163_151 : decode (j_co 163) 151 = .ok (.ifCond .eq 7, 3) := by decide +kernel
set_option maxRecDepth 20000 in
theorem w163_151 {d : Nat} {st : List Value} {Q : Option Value × jW → Prop} {ls : jL} {w : jW} {a : Int32} : Wp d 163 151 ls (.int a :: st) w Q = ((a = nI 0 → Wp d 163 158 ls st w Q) ∧ (¬ a = nI 0 → Wp d 163 154 ls st w Q)) := Wp.if2 (c := a = nI 0) (off := 7) e163_151 rfl rfl rfl rfl rfl
theorem e163_154 : decode (j_co 163) 154 = .ok (.iconst 1, 1) := by decide +kernel
set_option maxRecDepth 20000 in
theorem w163_154 {d : Nat} {st : List Value} {Q : Option Value × jW → Prop} {ls : jL} {w : jW} : Wp d 163 154 ls (st) w Q = Wp d 163 155 ls (.int (nI 1) :: st) w Q := Wp.alu e163_154 rfl rfl
theorem e163_155 : decode (j_co 163) 155 = .ok (.goto 4, 3) := by decide +kernel
set_option maxRecDepth 20000 in
theorem w163_155 {d : Nat} {st : List Value} {Q : Option Value × jW → Prop} {ls : jL} {w : jW} : Wp d 163 155 ls (st) w Q = Wp d 163 159 ls (st) w Q := Wp.br e163_155 (Or.inl rfl) rfl rfl rfl rfl
theorem e163_158 : decode (j_co 163) 158 = .ok (.iconst 0, 1) := by decide +kernel
set_option maxRecDepth 20000 in
theorem w163_158 {d : Nat} {st : List Value} {Q : Option Value × jW → Prop} {ls : jL} {w : jW} : Wp d 163 158 ls (st) w Q = Wp d 163 159 ls (.int (nI 0) :: st) w Q := Wp.alu e163_158 rfl rfl
theorem e163_159 : decode (j_co 163) 159 = .ok (.istore 5, 2) := by decide +kernel
set_option maxRecDepth 20000 in
theorem w163_159 {d : Nat} {st : List Value} {Q : Option Value × jW → Prop} {w : jW} {a0 a1 a2 a3 a4 a5 a6 a7 : Option Value} {x : Int32} (h : j_cp a4) : Wp d 163 159 [a0, a1, a2, a3, a4, a5, a6, a7] (.int x :: st) w Q = Wp d 163 161 [a0, a1, a2, a3, a4, some (.int x), a6, a7] (st) w Q := Wp.loc e163_159 rfl rfl (v_stI (ls := [a0, a1, a2, a3, a4, a5, a6, a7]) (k := 5) (show 5 < 8 by decide) h)
theorem e163_161 : decode (j_co 163) 161 = .ok (.aload_n 0, 1) := by decide +kernel
set_option maxRecDepth 20000 in
theorem w163_161 {d : Nat} {st : List Value} {Q : Option Value × jW → Prop} {w : jW} {a1 a2 a3 a4 a5 a6 a7 : Option Value} {x : Nat} : Wp d 163 161 [some (.ref x), a1, a2, a3, a4, a5, a6, a7] (st) w Q = Wp d 163 162 [some (.ref x), a1, a2, a3, a4, a5, a6, a7] (.ref x :: st) w Q := Wp.loc e163_161 rfl rfl rfl
theorem e163_162 : decode (j_co 163) 162 = .ok (.getfield 69, 3) := by decide +kernel
set_option maxRecDepth 20000 in
theorem w163_162 {d : Nat} {st : List Value} {Q : Option Value × jW → Prop} {ls : jL} {xs : List Value} {I : fI} {L : fL} {o : Nat} (ht : f_tg o = 11) : Wp d 163 162 ls (.ref o :: st) (f_W xs I L) Q = Wp d 163 165 ls (.ref (f_rf o 26) :: st) (f_W xs I L) Q := Wp.getR (ci := 11) (k := 26) e163_162 rfl (by decide) (by decide) rfl ht
theorem e163_165 : decode (j_co 163) 165 = .ok (.iload 6, 2) := by decide +kernel
set_option maxRecDepth 20000 in
theorem w163_165 {d : Nat} {st : List Value} {Q : Option Value × jW → Prop} {w : jW} {a0 a1 a2 a3 a4 a5 a7 : Option Value} {x : Int32} : Wp d 163 165 [a0, a1, a2, a3, a4, a5, some (.int x), a7] (st) w Q = Wp d 163 167 [a0, a1, a2, a3, a4, a5, some (.int x), a7] (.int x :: st) w Q := Wp.loc e163_165 rfl rfl rfl
theorem e163_167 : decode (j_co 163) 167 = .ok (.iload 7, 2) := by decide +kernel
set_option maxRecDepth 20000 in
theorem w163_167 {d : Nat} {st : List Value} {Q : Option Value × jW → Prop} {w : jW} {a0 a1 a2 a3 a4 a5 a6 : Option Value} {x : Int32} : Wp d 163 167 [a0, a1, a2, a3, a4, a5, a6, some (.int x)] (st) w Q = Wp d 163 169 [a0, a1, a2, a3, a4, a5, a6, some (.int x)] (.int x :: st) w Q := Wp.loc e163_167 rfl rfl rfl
theorem e163_169 : decode (j_co 163) 169 = .ok (.iastore, 1) := by decide +kernel
set_option maxRecDepth 20000 in
theorem w163_169 {d : Nat} {st : List Value} {Q : Option Value × jW → Prop} {ls : jL} {xs : List Value} {I : fI} {L : fL} {o : Nat} {i x : Int32} (ht : f_tg o = 100) (hi : ¬ (i < 0 ∨ f_ln o ≤ i.toNatClampNeg)) : Wp d 163 169 ls (.int x :: .int i :: .ref o :: st) (f_W xs I L) Q = Wp d 163 170 ls (st) (f_W xs (f_up I o i.toNatClampNeg x) L) Q := Wp.iast e163_169 ht hi
theorem e163_170 : decode (j_co 163) 170 = .ok (.iinc 6 1, 3) := by decide +kernel
set_option maxRecDepth 20000 in
theorem w163_170 {d : Nat} {st : List Value} {Q : Option Value × jW → Prop} {w : jW} {a0 a1 a2 a3 a4 a5 a7 : Option Value} {x : Int32} (h : j_cp a5) : Wp d 163 170 [a0, a1, a2, a3, a4, a5, some (.int x), a7] (st) w Q = Wp d 163 173 [a0, a1, a2, a3, a4, a5, some (.int (x + nI 1)), a7] (st) w Q := Wp.loc e163_170 rfl rfl (v_inc (ls := [a0, a1, a2, a3, a4, a5, some (.int x), a7]) (k := 6) (n := 1) rfl (show 6 < 8 by decide) h)
theorem e163_173 : decode (j_co 163) 173 = .ok (.goto (-138), 3) := by decide +kernel
set_option maxRecDepth 20000 in
theorem w163_173 {d : Nat} {st : List Value} {Q : Option Value × jW → Prop} {ls : jL} {w : jW} : Wp d 163 173 ls (st) w Q = Wp d 163 35 ls (st) w Q := Wp.br e163_173 (Or.inl rfl) rfl rfl rfl rfl
theorem e163_176 : decode (j_co 163) 176 = .ok (.iload 5, 2) := by decide +kernel
set_option maxRecDepth 20000 in
theorem w163_176 {d : Nat} {st : List Value} {Q : Option Value × jW → Prop} {w : jW} {a0 a1 a2 a3 a4 a6 a7 : Option Value} {x : Int32} : Wp d 163 176 [a0, a1, a2, a3, a4, some (.int x), a6, a7] (st) w Q = Wp d 163 178 [a0, a1, a2, a3, a4, some (.int x), a6, a7] (.int x :: st) w Q := Wp.loc e163_176 rfl rfl rfl
theorem e163_178 : decode (j_co 163) 178 = .ok (.ifCond .ne 6, 3) := by decide +kernel
set_option maxRecDepth 20000 in
theorem w163_178 {d : Nat} {st : List Value} {Q : Option Value × jW → Prop} {ls : jL} {w : jW} {a : Int32} : Wp d 163 178 ls (.int a :: st) w Q = ((a = nI 0 → Wp d 163 181 ls st w Q) ∧ (¬ a = nI 0 → Wp d 163 184 ls st w Q)) := Wp.if2n (c := a = nI 0) (off := 6) e163_178 rfl rfl rfl rfl rfl
theorem e163_181 : decode (j_co 163) 181 = .ok (.bipush (-2), 2) := by decide +kernel
set_option maxRecDepth 20000 in
theorem w163_181 {d : Nat} {st : List Value} {Q : Option Value × jW → Prop} {ls : jL} {w : jW} : Wp d 163 181 ls (st) w Q = Wp d 163 183 ls (.int (-2) :: st) w Q := Wp.alu e163_181 rfl rfl
theorem e163_183 : decode (j_co 163) 183 = .ok (.ireturn, 1) := by decide +kernel
set_option maxRecDepth 20000 in
theorem w163_183 {d : Nat} {Q : Option Value × jW → Prop} {ls : jL} {w : jW} {x : Int32} : Wp d 163 183 ls [.int x] w Q = Q (some (.int x), w) := Wp.ret e163_183 rfl
theorem e163_184 : decode (j_co 163) 184 = .ok (.aload_n 0, 1) := by decide +kernel
set_option maxRecDepth 20000 in
theorem w163_184 {d : Nat} {st : List Value} {Q : Option Value × jW → Prop} {w : jW} {a1 a2 a3 a4 a5 a6 a7 : Option Value} {x : Nat} : Wp d 163 184 [some (.ref x), a1, a2, a3, a4, a5, a6, a7] (st) w Q = Wp d 163 185 [some (.ref x), a1, a2, a3, a4, a5, a6, a7] (.ref x :: st) w Q := Wp.loc e163_184 rfl rfl rfl
theorem e163_185 : decode (j_co 163) 185 = .ok (.aload_n 0, 1) := by decide +kernel
set_option maxRecDepth 20000 in
theorem w163_185 {d : Nat} {st : List Value} {Q : Option Value × jW → Prop} {w : jW} {a1 a2 a3 a4 a5 a6 a7 : Option Value} {x : Nat} : Wp d 163 185 [some (.ref x), a1, a2, a3, a4, a5, a6, a7] (st) w Q = Wp d 163 186 [some (.ref x), a1, a2, a3, a4, a5, a6, a7] (.ref x :: st) w Q := Wp.loc e163_185 rfl rfl rfl
theorem e163_186 : decode (j_co 163) 186 = .ok (.getfield 19, 3) := by decide +kernel
set_option maxRecDepth 20000 in
theorem w163_186 {d : Nat} {st : List Value} {Q : Option Value × jW → Prop} {ls : jL} {xs : List Value} {I : fI} {L : fL} {o : Nat} (ht : f_tg o = 11) : Wp d 163 186 ls (.ref o :: st) (f_W xs I L) Q = Wp d 163 189 ls (.ref (f_rf o 5) :: st) (f_W xs I L) Q := Wp.getR (ci := 11) (k := 5) e163_186 rfl (by decide) (by decide) rfl ht
theorem e163_189 : decode (j_co 163) 189 = .ok (.iload_n 1, 1) := by decide +kernel
set_option maxRecDepth 20000 in
theorem w163_189 {d : Nat} {st : List Value} {Q : Option Value × jW → Prop} {w : jW} {a0 a2 a3 a4 a5 a6 a7 : Option Value} {x : Int32} : Wp d 163 189 [a0, some (.int x), a2, a3, a4, a5, a6, a7] (st) w Q = Wp d 163 190 [a0, some (.int x), a2, a3, a4, a5, a6, a7] (.int x :: st) w Q := Wp.loc e163_189 rfl rfl rfl
theorem e163_190 : decode (j_co 163) 190 = .ok (.iaload, 1) := by decide +kernel
set_option maxRecDepth 20000 in
theorem w163_190 {d : Nat} {st : List Value} {Q : Option Value × jW → Prop} {ls : jL} {xs : List Value} {I : fI} {L : fL} {o : Nat} {i : Int32} (ht : f_tg o = 100) (hi : ¬ (i < 0 ∨ f_ln o ≤ i.toNatClampNeg)) : Wp d 163 190 ls (.int i :: .ref o :: st) (f_W xs I L) Q = Wp d 163 191 ls (.int (I o i.toNatClampNeg) :: st) (f_W xs I L) Q := Wp.iald e163_190 ht hi
theorem e163_191 : decode (j_co 163) 191 = .ok (.putfield 228, 3) := by decide +kernel
set_option maxRecDepth 20000 in
theorem w163_191 {d : Nat} {st : List Value} {Q : Option Value × jW → Prop} {ls : jL} {xs : List Value} {I : fI} {L : fL} {o : Nat} {x : Int32} (ht : f_tg o = 11) : Wp d 163 191 ls (.int x :: .ref o :: st) (f_W xs I L) Q = Wp d 163 194 ls (st) (f_W xs (f_up I o 31 x) L) Q := Wp.putI (ci := 11) (k := 31) e163_191 rfl (by decide) (by decide) rfl (by decide) ht
theorem e163_194 : decode (j_co 163) 194 = .ok (.iconst 0, 1) := by decide +kernel
set_option maxRecDepth 20000 in
theorem w163_194 {d : Nat} {st : List Value} {Q : Option Value × jW → Prop} {ls : jL} {w : jW} : Wp d 163 194 ls (st) w Q = Wp d 163 195 ls (.int (nI 0) :: st) w Q := Wp.alu e163_194 rfl rfl
theorem e163_195 : decode (j_co 163) 195 = .ok (.istore 6, 2) := by decide +kernel
set_option maxRecDepth 20000 in
theorem w163_195 {d : Nat} {st : List Value} {Q : Option Value × jW → Prop} {w : jW} {a0 a1 a2 a3 a4 a5 a6 a7 : Option Value} {x : Int32} (h : j_cp a5) : Wp d 163 195 [a0, a1, a2, a3, a4, a5, a6, a7] (.int x :: st) w Q = Wp d 163 197 [a0, a1, a2, a3, a4, a5, some (.int x), a7] (st) w Q := Wp.loc e163_195 rfl rfl (v_stI (ls := [a0, a1, a2, a3, a4, a5, a6, a7]) (k := 6) (show 6 < 8 by decide) h)
theorem e163_197 : decode (j_co 163) 197 = .ok (.iload 6, 2) := by decide +kernel
set_option maxRecDepth 20000 in
theorem w163_197 {d : Nat} {st : List Value} {Q : Option Value × jW → Prop} {w : jW} {a0 a1 a2 a3 a4 a5 a7 : Option Value} {x : Int32} : Wp d 163 197 [a0, a1, a2, a3, a4, a5, some (.int x), a7] (st) w Q = Wp d 163 199 [a0, a1, a2, a3, a4, a5, some (.int x), a7] (.int x :: st) w Q := Wp.loc e163_197 rfl rfl rfl
theorem e163_199 : decode (j_co 163) 199 = .ok (.iconst 3, 1) := by decide +kernel
set_option maxRecDepth 20000 in
theorem w163_199 {d : Nat} {st : List Value} {Q : Option Value × jW → Prop} {ls : jL} {w : jW} : Wp d 163 199 ls (st) w Q = Wp d 163 200 ls (.int (nI 3) :: st) w Q := Wp.alu e163_199 rfl rfl
theorem e163_200 : decode (j_co 163) 200 = .ok (.if_icmp .ge 23, 3) := by decide +kernel
set_option maxRecDepth 20000 in
theorem w163_200 {d : Nat} {st : List Value} {Q : Option Value × jW → Prop} {ls : jL} {w : jW} {a b : Int32} : Wp d 163 200 ls (.int b :: .int a :: st) w Q = ((b ≤ a → Wp d 163 223 ls st w Q) ∧ (¬ b ≤ a → Wp d 163 203 ls st w Q)) := Wp.if2 (c := b ≤ a) (off := 23) e163_200 rfl rfl rfl rfl rfl
theorem e163_203 : decode (j_co 163) 203 = .ok (.aload_n 0, 1) := by decide +kernel
set_option maxRecDepth 20000 in
theorem w163_203 {d : Nat} {st : List Value} {Q : Option Value × jW → Prop} {w : jW} {a1 a2 a3 a4 a5 a6 a7 : Option Value} {x : Nat} : Wp d 163 203 [some (.ref x), a1, a2, a3, a4, a5, a6, a7] (st) w Q = Wp d 163 204 [some (.ref x), a1, a2, a3, a4, a5, a6, a7] (.ref x :: st) w Q := Wp.loc e163_203 rfl rfl rfl
theorem e163_204 : decode (j_co 163) 204 = .ok (.getfield 78, 3) := by decide +kernel
set_option maxRecDepth 20000 in
theorem w163_204 {d : Nat} {st : List Value} {Q : Option Value × jW → Prop} {ls : jL} {xs : List Value} {I : fI} {L : fL} {o : Nat} (ht : f_tg o = 11) : Wp d 163 204 ls (.ref o :: st) (f_W xs I L) Q = Wp d 163 207 ls (.ref (f_rf o 32) :: st) (f_W xs I L) Q := Wp.getR (ci := 11) (k := 32) e163_204 rfl (by decide) (by decide) rfl ht
theorem e163_207 : decode (j_co 163) 207 = .ok (.iload 6, 2) := by decide +kernel
set_option maxRecDepth 20000 in
theorem w163_207 {d : Nat} {st : List Value} {Q : Option Value × jW → Prop} {w : jW} {a0 a1 a2 a3 a4 a5 a7 : Option Value} {x : Int32} : Wp d 163 207 [a0, a1, a2, a3, a4, a5, some (.int x), a7] (st) w Q = Wp d 163 209 [a0, a1, a2, a3, a4, a5, some (.int x), a7] (.int x :: st) w Q := Wp.loc e163_207 rfl rfl rfl
theorem e163_209 : decode (j_co 163) 209 = .ok (.aload_n 0, 1) := by decide +kernel
set_option maxRecDepth 20000 in
theorem w163_209 {d : Nat} {st : List Value} {Q : Option Value × jW → Prop} {w : jW} {a1 a2 a3 a4 a5 a6 a7 : Option Value} {x : Nat} : Wp d 163 209 [some (.ref x), a1, a2, a3, a4, a5, a6, a7] (st) w Q = Wp d 163 210 [some (.ref x), a1, a2, a3, a4, a5, a6, a7] (.ref x :: st) w Q := Wp.loc e163_209 rfl rfl rfl
theorem e163_210 : decode (j_co 163) 210 = .ok (.getfield 69, 3) := by decide +kernel
set_option maxRecDepth 20000 in
theorem w163_210 {d : Nat} {st : List Value} {Q : Option Value × jW → Prop} {ls : jL} {xs : List Value} {I : fI} {L : fL} {o : Nat} (ht : f_tg o = 11) : Wp d 163 210 ls (.ref o :: st) (f_W xs I L) Q = Wp d 163 213 ls (.ref (f_rf o 26) :: st) (f_W xs I L) Q := Wp.getR (ci := 11) (k := 26) e163_210 rfl (by decide) (by decide) rfl ht
theorem e163_213 : decode (j_co 163) 213 = .ok (.iload 6, 2) := by decide +kernel
set_option maxRecDepth 20000 in
theorem w163_213 {d : Nat} {st : List Value} {Q : Option Value × jW → Prop} {w : jW} {a0 a1 a2 a3 a4 a5 a7 : Option Value} {x : Int32} : Wp d 163 213 [a0, a1, a2, a3, a4, a5, some (.int x), a7] (st) w Q = Wp d 163 215 [a0, a1, a2, a3, a4, a5, some (.int x), a7] (.int x :: st) w Q := Wp.loc e163_213 rfl rfl rfl
theorem e163_215 : decode (j_co 163) 215 = .ok (.iaload, 1) := by decide +kernel
set_option maxRecDepth 20000 in
theorem w163_215 {d : Nat} {st : List Value} {Q : Option Value × jW → Prop} {ls : jL} {xs : List Value} {I : fI} {L : fL} {o : Nat} {i : Int32} (ht : f_tg o = 100) (hi : ¬ (i < 0 ∨ f_ln o ≤ i.toNatClampNeg)) : Wp d 163 215 ls (.int i :: .ref o :: st) (f_W xs I L) Q = Wp d 163 216 ls (.int (I o i.toNatClampNeg) :: st) (f_W xs I L) Q := Wp.iald e163_215 ht hi
theorem e163_216 : decode (j_co 163) 216 = .ok (.iastore, 1) := by decide +kernel
set_option maxRecDepth 20000 in
theorem w163_216 {d : Nat} {st : List Value} {Q : Option Value × jW → Prop} {ls : jL} {xs : List Value} {I : fI} {L : fL} {o : Nat} {i x : Int32} (ht : f_tg o = 100) (hi : ¬ (i < 0 ∨ f_ln o ≤ i.toNatClampNeg)) : Wp d 163 216 ls (.int x :: .int i :: .ref o :: st) (f_W xs I L) Q = Wp d 163 217 ls (st) (f_W xs (f_up I o i.toNatClampNeg x) L) Q := Wp.iast e163_216 ht hi
theorem e163_217 : decode (j_co 163) 217 = .ok (.iinc 6 1, 3) := by decide +kernel
set_option maxRecDepth 20000 in
theorem w163_217 {d : Nat} {st : List Value} {Q : Option Value × jW → Prop} {w : jW} {a0 a1 a2 a3 a4 a5 a7 : Option Value} {x : Int32} (h : j_cp a5) : Wp d 163 217 [a0, a1, a2, a3, a4, a5, some (.int x), a7] (st) w Q = Wp d 163 220 [a0, a1, a2, a3, a4, a5, some (.int (x + nI 1)), a7] (st) w Q := Wp.loc e163_217 rfl rfl (v_inc (ls := [a0, a1, a2, a3, a4, a5, some (.int x), a7]) (k := 6) (n := 1) rfl (show 6 < 8 by decide) h)
theorem e163_220 : decode (j_co 163) 220 = .ok (.goto (-23), 3) := by decide +kernel
set_option maxRecDepth 20000 in
theorem w163_220 {d : Nat} {st : List Value} {Q : Option Value × jW → Prop} {ls : jL} {w : jW} : Wp d 163 220 ls (st) w Q = Wp d 163 197 ls (st) w Q := Wp.br e163_220 (Or.inl rfl) rfl rfl rfl rfl
theorem e163_223 : decode (j_co 163) 223 = .ok (.aload_n 0, 1) := by decide +kernel
set_option maxRecDepth 20000 in
theorem w163_223 {d : Nat} {st : List Value} {Q : Option Value × jW → Prop} {w : jW} {a1 a2 a3 a4 a5 a6 a7 : Option Value} {x : Nat} : Wp d 163 223 [some (.ref x), a1, a2, a3, a4, a5, a6, a7] (st) w Q = Wp d 163 224 [some (.ref x), a1, a2, a3, a4, a5, a6, a7] (.ref x :: st) w Q := Wp.loc e163_223 rfl rfl rfl
theorem e163_224 : decode (j_co 163) 224 = .ok (.dup, 1) := by decide +kernel
set_option maxRecDepth 20000 in
theorem w163_224 {d : Nat} {st : List Value} {Q : Option Value × jW → Prop} {ls : jL} {w : jW} {a : Int32} : Wp d 163 224 ls (.int a :: st) w Q = Wp d 163 225 ls (.int a :: .int a :: st) w Q := Wp.alu e163_224 rfl rfl
set_option maxRecDepth 20000 in
theorem w163_224r {d : Nat} {st : List Value} {Q : Option Value × jW → Prop} {ls : jL} {w : jW} {a : Nat} : Wp d 163 224 ls (.ref a :: st) w Q = Wp d 163 225 ls (.ref a :: .ref a :: st) w Q := Wp.alu e163_224 rfl rfl
theorem e163_225 : decode (j_co 163) 225 = .ok (.getfield 231, 3) := by decide +kernel
set_option maxRecDepth 20000 in
theorem w163_225 {d : Nat} {st : List Value} {Q : Option Value × jW → Prop} {ls : jL} {xs : List Value} {I : fI} {L : fL} {o : Nat} (ht : f_tg o = 11) : Wp d 163 225 ls (.ref o :: st) (f_W xs I L) Q = Wp d 163 228 ls (.int (I o 33) :: st) (f_W xs I L) Q := Wp.getI (ci := 11) (k := 33) e163_225 rfl (by decide) (by decide) (by decide) ht
theorem e163_228 : decode (j_co 163) 228 = .ok (.iconst 1, 1) := by decide +kernel
set_option maxRecDepth 20000 in
theorem w163_228 {d : Nat} {st : List Value} {Q : Option Value × jW → Prop} {ls : jL} {w : jW} : Wp d 163 228 ls (st) w Q = Wp d 163 229 ls (.int (nI 1) :: st) w Q := Wp.alu e163_228 rfl rfl
theorem e163_229 : decode (j_co 163) 229 = .ok (.iadd, 1) := by decide +kernel
set_option maxRecDepth 20000 in
theorem w163_229 {d : Nat} {st : List Value} {Q : Option Value × jW → Prop} {ls : jL} {w : jW} {a b : Int32} : Wp d 163 229 ls (.int b :: .int a :: st) w Q = Wp d 163 230 ls (.int (a + b) :: st) w Q := Wp.alu e163_229 rfl rfl
theorem e163_230 : decode (j_co 163) 230 = .ok (.putfield 231, 3) := by decide +kernel
set_option maxRecDepth 20000 in
theorem w163_230 {d : Nat} {st : List Value} {Q : Option Value × jW → Prop} {ls : jL} {xs : List Value} {I : fI} {L : fL} {o : Nat} {x : Int32} (ht : f_tg o = 11) : Wp d 163 230 ls (.int x :: .ref o :: st) (f_W xs I L) Q = Wp d 163 233 ls (st) (f_W xs (f_up I o 33 x) L) Q := Wp.putI (ci := 11) (k := 33) e163_230 rfl (by decide) (by decide) rfl (by decide) ht
theorem e163_233 : decode (j_co 163) 233 = .ok (.aload_n 0, 1) := by decide +kernel
set_option maxRecDepth 20000 in
theorem w163_233 {d : Nat} {st : List Value} {Q : Option Value × jW → Prop} {w : jW} {a1 a2 a3 a4 a5 a6 a7 : Option Value} {x : Nat} : Wp d 163 233 [some (.ref x), a1, a2, a3, a4, a5, a6, a7] (st) w Q = Wp d 163 234 [some (.ref x), a1, a2, a3, a4, a5, a6, a7] (.ref x :: st) w Q := Wp.loc e163_233 rfl rfl rfl
theorem e163_234 : decode (j_co 163) 234 = .ok (.getfield 231, 3) := by decide +kernel
set_option maxRecDepth 20000 in
theorem w163_234 {d : Nat} {st : List Value} {Q : Option Value × jW → Prop} {ls : jL} {xs : List Value} {I : fI} {L : fL} {o : Nat} (ht : f_tg o = 11) : Wp d 163 234 ls (.ref o :: st) (f_W xs I L) Q = Wp d 163 237 ls (.int (I o 33) :: st) (f_W xs I L) Q := Wp.getI (ci := 11) (k := 33) e163_234 rfl (by decide) (by decide) (by decide) ht
theorem e163_237 : decode (j_co 163) 237 = .ok (.ireturn, 1) := by decide +kernel
set_option maxRecDepth 20000 in
theorem w163_237 {d : Nat} {Q : Option Value × jW → Prop} {ls : jL} {w : jW} {x : Int32} : Wp d 163 237 ls [.int x] w Q = Q (some (.int x), w) := Wp.ret e163_237 rfl
/-! M.isGuarded -/
theorem e164_0 : decode (j_co 164) 0 = .ok (.aload_n 0, 1) := by decide +kernel
set_option maxRecDepth 20000 in
theorem w164_0 {d : Nat} {st : List Value} {Q : Option Value × jW → Prop} {w : jW} {a1 a2 a3 : Option Value} {x : Nat} : Wp d 164 0 [some (.ref x), a1, a2, a3] (st) w Q = Wp d 164 1 [some (.ref x), a1, a2, a3] (.ref x :: st) w Q := Wp.loc e164_0 rfl rfl rfl
theorem e164_1 : decode (j_co 164) 1 = .ok (.getfield 16, 3) := by decide +kernel
set_option maxRecDepth 20000 in
theorem w164_1 {d : Nat} {st : List Value} {Q : Option Value × jW → Prop} {ls : jL} {xs : List Value} {I : fI} {L : fL} {o : Nat} (ht : f_tg o = 11) : Wp d 164 1 ls (.ref o :: st) (f_W xs I L) Q = Wp d 164 4 ls (.ref (f_rf o 4) :: st) (f_W xs I L) Q := Wp.getR (ci := 11) (k := 4) e164_1 rfl (by decide) (by decide) rfl ht
theorem e164_4 : decode (j_co 164) 4 = .ok (.iload_n 1, 1) := by decide +kernel
set_option maxRecDepth 20000 in
theorem w164_4 {d : Nat} {st : List Value} {Q : Option Value × jW → Prop} {w : jW} {a0 a2 a3 : Option Value} {x : Int32} : Wp d 164 4 [a0, some (.int x), a2, a3] (st) w Q = Wp d 164 5 [a0, some (.int x), a2, a3] (.int x :: st) w Q := Wp.loc e164_4 rfl rfl rfl
theorem e164_5 : decode (j_co 164) 5 = .ok (.iaload, 1) := by decide +kernel
set_option maxRecDepth 20000 in
theorem w164_5 {d : Nat} {st : List Value} {Q : Option Value × jW → Prop} {ls : jL} {xs : List Value} {I : fI} {L : fL} {o : Nat} {i : Int32} (ht : f_tg o = 100) (hi : ¬ (i < 0 ∨ f_ln o ≤ i.toNatClampNeg)) : Wp d 164 5 ls (.int i :: .ref o :: st) (f_W xs I L) Q = Wp d 164 6 ls (.int (I o i.toNatClampNeg) :: st) (f_W xs I L) Q := Wp.iald e164_5 ht hi
theorem e164_6 : decode (j_co 164) 6 = .ok (.aload_n 0, 1) := by decide +kernel
set_option maxRecDepth 20000 in
theorem w164_6 {d : Nat} {st : List Value} {Q : Option Value × jW → Prop} {w : jW} {a1 a2 a3 : Option Value} {x : Nat} : Wp d 164 6 [some (.ref x), a1, a2, a3] (st) w Q = Wp d 164 7 [some (.ref x), a1, a2, a3] (.ref x :: st) w Q := Wp.loc e164_6 rfl rfl rfl
theorem e164_7 : decode (j_co 164) 7 = .ok (.getfield 228, 3) := by decide +kernel
set_option maxRecDepth 20000 in
theorem w164_7 {d : Nat} {st : List Value} {Q : Option Value × jW → Prop} {ls : jL} {xs : List Value} {I : fI} {L : fL} {o : Nat} (ht : f_tg o = 11) : Wp d 164 7 ls (.ref o :: st) (f_W xs I L) Q = Wp d 164 10 ls (.int (I o 31) :: st) (f_W xs I L) Q := Wp.getI (ci := 11) (k := 31) e164_7 rfl (by decide) (by decide) (by decide) ht
theorem e164_10 : decode (j_co 164) 10 = .ok (.if_icmp .ne 7, 3) := by decide +kernel
set_option maxRecDepth 20000 in
theorem w164_10 {d : Nat} {st : List Value} {Q : Option Value × jW → Prop} {ls : jL} {w : jW} {a b : Int32} : Wp d 164 10 ls (.int b :: .int a :: st) w Q = ((a = b → Wp d 164 13 ls st w Q) ∧ (¬ a = b → Wp d 164 17 ls st w Q)) := Wp.if2n (c := a = b) (off := 7) e164_10 rfl rfl rfl rfl rfl
theorem e164_13 : decode (j_co 164) 13 = .ok (.iconst 1, 1) := by decide +kernel
set_option maxRecDepth 20000 in
theorem w164_13 {d : Nat} {st : List Value} {Q : Option Value × jW → Prop} {ls : jL} {w : jW} : Wp d 164 13 ls (st) w Q = Wp d 164 14 ls (.int (nI 1) :: st) w Q := Wp.alu e164_13 rfl rfl
theorem e164_14 : decode (j_co 164) 14 = .ok (.goto 4, 3) := by decide +kernel
set_option maxRecDepth 20000 in
theorem w164_14 {d : Nat} {st : List Value} {Q : Option Value × jW → Prop} {ls : jL} {w : jW} : Wp d 164 14 ls (st) w Q = Wp d 164 18 ls (st) w Q := Wp.br e164_14 (Or.inl rfl) rfl rfl rfl rfl
theorem e164_17 : decode (j_co 164) 17 = .ok (.iconst 0, 1) := by decide +kernel
set_option maxRecDepth 20000 in
theorem w164_17 {d : Nat} {st : List Value} {Q : Option Value × jW → Prop} {ls : jL} {w : jW} : Wp d 164 17 ls (st) w Q = Wp d 164 18 ls (.int (nI 0) :: st) w Q := Wp.alu e164_17 rfl rfl
theorem e164_18 : decode (j_co 164) 18 = .ok (.istore_n 2, 1) := by decide +kernel
set_option maxRecDepth 20000 in
theorem w164_18 {d : Nat} {st : List Value} {Q : Option Value × jW → Prop} {w : jW} {a0 a1 a2 a3 : Option Value} {x : Int32} (h : j_cp a1) : Wp d 164 18 [a0, a1, a2, a3] (.int x :: st) w Q = Wp d 164 19 [a0, a1, some (.int x), a3] (st) w Q := Wp.loc e164_18 rfl rfl (v_stI (ls := [a0, a1, a2, a3]) (k := 2) (show 2 < 4 by decide) h)
theorem e164_19 : decode (j_co 164) 19 = .ok (.iconst 0, 1) := by decide +kernel
set_option maxRecDepth 20000 in
theorem w164_19 {d : Nat} {st : List Value} {Q : Option Value × jW → Prop} {ls : jL} {w : jW} : Wp d 164 19 ls (st) w Q = Wp d 164 20 ls (.int (nI 0) :: st) w Q := Wp.alu e164_19 rfl rfl
theorem e164_20 : decode (j_co 164) 20 = .ok (.istore_n 3, 1) := by decide +kernel
set_option maxRecDepth 20000 in
theorem w164_20 {d : Nat} {st : List Value} {Q : Option Value × jW → Prop} {w : jW} {a0 a1 a2 a3 : Option Value} {x : Int32} (h : j_cp a2) : Wp d 164 20 [a0, a1, a2, a3] (.int x :: st) w Q = Wp d 164 21 [a0, a1, a2, some (.int x)] (st) w Q := Wp.loc e164_20 rfl rfl (v_stI (ls := [a0, a1, a2, a3]) (k := 3) (show 3 < 4 by decide) h)
theorem e164_21 : decode (j_co 164) 21 = .ok (.iload_n 3, 1) := by decide +kernel
set_option maxRecDepth 20000 in
theorem w164_21 {d : Nat} {st : List Value} {Q : Option Value × jW → Prop} {w : jW} {a0 a1 a2 : Option Value} {x : Int32} : Wp d 164 21 [a0, a1, a2, some (.int x)] (st) w Q = Wp d 164 22 [a0, a1, a2, some (.int x)] (.int x :: st) w Q := Wp.loc e164_21 rfl rfl rfl
theorem e164_22 : decode (j_co 164) 22 = .ok (.iconst 3, 1) := by decide +kernel
set_option maxRecDepth 20000 in
theorem w164_22 {d : Nat} {st : List Value} {Q : Option Value × jW → Prop} {ls : jL} {w : jW} : Wp d 164 22 ls (st) w Q = Wp d 164 23 ls (.int (nI 3) :: st) w Q := Wp.alu e164_22 rfl rfl
theorem e164_23 : decode (j_co 164) 23 = .ok (.if_icmp .ge 43, 3) := by decide +kernel
set_option maxRecDepth 20000 in
theorem w164_23 {d : Nat} {st : List Value} {Q : Option Value × jW → Prop} {ls : jL} {w : jW} {a b : Int32} : Wp d 164 23 ls (.int b :: .int a :: st) w Q = ((b ≤ a → Wp d 164 66 ls st w Q) ∧ (¬ b ≤ a → Wp d 164 26 ls st w Q)) := Wp.if2 (c := b ≤ a) (off := 43) e164_23 rfl rfl rfl rfl rfl
theorem e164_26 : decode (j_co 164) 26 = .ok (.iload_n 2, 1) := by decide +kernel
set_option maxRecDepth 20000 in
theorem w164_26 {d : Nat} {st : List Value} {Q : Option Value × jW → Prop} {w : jW} {a0 a1 a3 : Option Value} {x : Int32} : Wp d 164 26 [a0, a1, some (.int x), a3] (st) w Q = Wp d 164 27 [a0, a1, some (.int x), a3] (.int x :: st) w Q := Wp.loc e164_26 rfl rfl rfl
theorem e164_27 : decode (j_co 164) 27 = .ok (.ifCond .eq 31, 3) := by decide +kernel
set_option maxRecDepth 20000 in
theorem w164_27 {d : Nat} {st : List Value} {Q : Option Value × jW → Prop} {ls : jL} {w : jW} {a : Int32} : Wp d 164 27 ls (.int a :: st) w Q = ((a = nI 0 → Wp d 164 58 ls st w Q) ∧ (¬ a = nI 0 → Wp d 164 30 ls st w Q)) := Wp.if2 (c := a = nI 0) (off := 31) e164_27 rfl rfl rfl rfl rfl
theorem e164_30 : decode (j_co 164) 30 = .ok (.aload_n 0, 1) := by decide +kernel
set_option maxRecDepth 20000 in
theorem w164_30 {d : Nat} {st : List Value} {Q : Option Value × jW → Prop} {w : jW} {a1 a2 a3 : Option Value} {x : Nat} : Wp d 164 30 [some (.ref x), a1, a2, a3] (st) w Q = Wp d 164 31 [some (.ref x), a1, a2, a3] (.ref x :: st) w Q := Wp.loc e164_30 rfl rfl rfl
theorem e164_31 : decode (j_co 164) 31 = .ok (.getfield 78, 3) := by decide +kernel
set_option maxRecDepth 20000 in
theorem w164_31 {d : Nat} {st : List Value} {Q : Option Value × jW → Prop} {ls : jL} {xs : List Value} {I : fI} {L : fL} {o : Nat} (ht : f_tg o = 11) : Wp d 164 31 ls (.ref o :: st) (f_W xs I L) Q = Wp d 164 34 ls (.ref (f_rf o 32) :: st) (f_W xs I L) Q := Wp.getR (ci := 11) (k := 32) e164_31 rfl (by decide) (by decide) rfl ht
theorem e164_34 : decode (j_co 164) 34 = .ok (.iload_n 3, 1) := by decide +kernel
set_option maxRecDepth 20000 in
theorem w164_34 {d : Nat} {st : List Value} {Q : Option Value × jW → Prop} {w : jW} {a0 a1 a2 : Option Value} {x : Int32} : Wp d 164 34 [a0, a1, a2, some (.int x)] (st) w Q = Wp d 164 35 [a0, a1, a2, some (.int x)] (.int x :: st) w Q := Wp.loc e164_34 rfl rfl rfl
theorem e164_35 : decode (j_co 164) 35 = .ok (.iaload, 1) := by decide +kernel
set_option maxRecDepth 20000 in
theorem w164_35 {d : Nat} {st : List Value} {Q : Option Value × jW → Prop} {ls : jL} {xs : List Value} {I : fI} {L : fL} {o : Nat} {i : Int32} (ht : f_tg o = 100) (hi : ¬ (i < 0 ∨ f_ln o ≤ i.toNatClampNeg)) : Wp d 164 35 ls (.int i :: .ref o :: st) (f_W xs I L) Q = Wp d 164 36 ls (.int (I o i.toNatClampNeg) :: st) (f_W xs I L) Q := Wp.iald e164_35 ht hi
theorem e164_36 : decode (j_co 164) 36 = .ok (.aload_n 0, 1) := by decide +kernel
set_option maxRecDepth 20000 in
theorem w164_36 {d : Nat} {st : List Value} {Q : Option Value × jW → Prop} {w : jW} {a1 a2 a3 : Option Value} {x : Nat} : Wp d 164 36 [some (.ref x), a1, a2, a3] (st) w Q = Wp d 164 37 [some (.ref x), a1, a2, a3] (.ref x :: st) w Q := Wp.loc e164_36 rfl rfl rfl
theorem e164_37 : decode (j_co 164) 37 = .ok (.getfield 22, 3) := by decide +kernel
set_option maxRecDepth 20000 in
theorem w164_37 {d : Nat} {st : List Value} {Q : Option Value × jW → Prop} {ls : jL} {xs : List Value} {I : fI} {L : fL} {o : Nat} (ht : f_tg o = 11) : Wp d 164 37 ls (.ref o :: st) (f_W xs I L) Q = Wp d 164 40 ls (.ref (f_rf o 6) :: st) (f_W xs I L) Q := Wp.getR (ci := 11) (k := 6) e164_37 rfl (by decide) (by decide) rfl ht
theorem e164_40 : decode (j_co 164) 40 = .ok (.bipush 6, 2) := by decide +kernel
set_option maxRecDepth 20000 in
theorem w164_40 {d : Nat} {st : List Value} {Q : Option Value × jW → Prop} {ls : jL} {w : jW} : Wp d 164 40 ls (st) w Q = Wp d 164 42 ls (.int (nI 6) :: st) w Q := Wp.alu e164_40 rfl rfl
theorem e164_42 : decode (j_co 164) 42 = .ok (.iload_n 1, 1) := by decide +kernel
set_option maxRecDepth 20000 in
theorem w164_42 {d : Nat} {st : List Value} {Q : Option Value × jW → Prop} {w : jW} {a0 a2 a3 : Option Value} {x : Int32} : Wp d 164 42 [a0, some (.int x), a2, a3] (st) w Q = Wp d 164 43 [a0, some (.int x), a2, a3] (.int x :: st) w Q := Wp.loc e164_42 rfl rfl rfl
theorem e164_43 : decode (j_co 164) 43 = .ok (.imul, 1) := by decide +kernel
set_option maxRecDepth 20000 in
theorem w164_43 {d : Nat} {st : List Value} {Q : Option Value × jW → Prop} {ls : jL} {w : jW} {a b : Int32} : Wp d 164 43 ls (.int b :: .int a :: st) w Q = Wp d 164 44 ls (.int (a * b) :: st) w Q := Wp.alu e164_43 rfl rfl
theorem e164_44 : decode (j_co 164) 44 = .ok (.iconst 2, 1) := by decide +kernel
set_option maxRecDepth 20000 in
theorem w164_44 {d : Nat} {st : List Value} {Q : Option Value × jW → Prop} {ls : jL} {w : jW} : Wp d 164 44 ls (st) w Q = Wp d 164 45 ls (.int (nI 2) :: st) w Q := Wp.alu e164_44 rfl rfl
theorem e164_45 : decode (j_co 164) 45 = .ok (.iload_n 3, 1) := by decide +kernel
set_option maxRecDepth 20000 in
theorem w164_45 {d : Nat} {st : List Value} {Q : Option Value × jW → Prop} {w : jW} {a0 a1 a2 : Option Value} {x : Int32} : Wp d 164 45 [a0, a1, a2, some (.int x)] (st) w Q = Wp d 164 46 [a0, a1, a2, some (.int x)] (.int x :: st) w Q := Wp.loc e164_45 rfl rfl rfl
theorem e164_46 : decode (j_co 164) 46 = .ok (.imul, 1) := by decide +kernel
set_option maxRecDepth 20000 in
theorem w164_46 {d : Nat} {st : List Value} {Q : Option Value × jW → Prop} {ls : jL} {w : jW} {a b : Int32} : Wp d 164 46 ls (.int b :: .int a :: st) w Q = Wp d 164 47 ls (.int (a * b) :: st) w Q := Wp.alu e164_46 rfl rfl
theorem e164_47 : decode (j_co 164) 47 = .ok (.iadd, 1) := by decide +kernel
set_option maxRecDepth 20000 in
theorem w164_47 {d : Nat} {st : List Value} {Q : Option Value × jW → Prop} {ls : jL} {w : jW} {a b : Int32} : Wp d 164 47 ls (.int b :: .int a :: st) w Q = Wp d 164 48 ls (.int (a + b) :: st) w Q := Wp.alu e164_47 rfl rfl
theorem e164_48 : decode (j_co 164) 48 = .ok (.invokestatic 236, 3) := by decide +kernel
set_option maxRecDepth 20000 in
theorem w164_48 {d : Nat} {st : List Value} {Q : Option Value × jW → Prop} {ls : jL} {w : jW} {x0 : Int32} {x1 : Nat} {x2 : Int32} (hs : j_sumc st ≤ 8) : Wp (d + 1) 164 48 ls (.int x2 :: .ref x1 :: .int x0 :: st) w Q = Wp d 162 0 [some (.int x0), some (.ref x1), some (.int x2)] [] w (fun r1 => Wp (d + 1) 164 51 ls (r1.1.toList ++ st) r1.2 Q) := Wp.cs (kd := 1) (y' := 162) (as := [.int x0, .ref x1, .int x2]) e164_48 rfl (by decide) (by decide) rfl (show 3 ≤ 3 by decide) hs
theorem e164_51 : decode (j_co 164) 51 = .ok (.ifCond .eq 7, 3) := by decide +kernel
set_option maxRecDepth 20000 in
theorem w164_51 {d : Nat} {st : List Value} {Q : Option Value × jW → Prop} {ls : jL} {w : jW} {a : Int32} : Wp d 164 51 ls (.int a :: st) w Q = ((a = nI 0 → Wp d 164 58 ls st w Q) ∧ (¬ a = nI 0 → Wp d 164 54 ls st w Q)) := Wp.if2 (c := a = nI 0) (off := 7) e164_51 rfl rfl rfl rfl rfl
theorem e164_54 : decode (j_co 164) 54 = .ok (.iconst 1, 1) := by decide +kernel
set_option maxRecDepth 20000 in
theorem w164_54 {d : Nat} {st : List Value} {Q : Option Value × jW → Prop} {ls : jL} {w : jW} : Wp d 164 54 ls (st) w Q = Wp d 164 55 ls (.int (nI 1) :: st) w Q := Wp.alu e164_54 rfl rfl
theorem e164_55 : decode (j_co 164) 55 = .ok (.goto 4, 3) := by decide +kernel
set_option maxRecDepth 20000 in
theorem w164_55 {d : Nat} {st : List Value} {Q : Option Value × jW → Prop} {ls : jL} {w : jW} : Wp d 164 55 ls (st) w Q = Wp d 164 59 ls (st) w Q := Wp.br e164_55 (Or.inl rfl) rfl rfl rfl rfl
theorem e164_58 : decode (j_co 164) 58 = .ok (.iconst 0, 1) := by decide +kernel
set_option maxRecDepth 20000 in
theorem w164_58 {d : Nat} {st : List Value} {Q : Option Value × jW → Prop} {ls : jL} {w : jW} : Wp d 164 58 ls (st) w Q = Wp d 164 59 ls (.int (nI 0) :: st) w Q := Wp.alu e164_58 rfl rfl
theorem e164_59 : decode (j_co 164) 59 = .ok (.istore_n 2, 1) := by decide +kernel
set_option maxRecDepth 20000 in
theorem w164_59 {d : Nat} {st : List Value} {Q : Option Value × jW → Prop} {w : jW} {a0 a1 a2 a3 : Option Value} {x : Int32} (h : j_cp a1) : Wp d 164 59 [a0, a1, a2, a3] (.int x :: st) w Q = Wp d 164 60 [a0, a1, some (.int x), a3] (st) w Q := Wp.loc e164_59 rfl rfl (v_stI (ls := [a0, a1, a2, a3]) (k := 2) (show 2 < 4 by decide) h)
theorem e164_60 : decode (j_co 164) 60 = .ok (.iinc 3 1, 3) := by decide +kernel
set_option maxRecDepth 20000 in
theorem w164_60 {d : Nat} {st : List Value} {Q : Option Value × jW → Prop} {w : jW} {a0 a1 a2 : Option Value} {x : Int32} (h : j_cp a2) : Wp d 164 60 [a0, a1, a2, some (.int x)] (st) w Q = Wp d 164 63 [a0, a1, a2, some (.int (x + nI 1))] (st) w Q := Wp.loc e164_60 rfl rfl (v_inc (ls := [a0, a1, a2, some (.int x)]) (k := 3) (n := 1) rfl (show 3 < 4 by decide) h)
theorem e164_63 : decode (j_co 164) 63 = .ok (.goto (-42), 3) := by decide +kernel
set_option maxRecDepth 20000 in
theorem w164_63 {d : Nat} {st : List Value} {Q : Option Value × jW → Prop} {ls : jL} {w : jW} : Wp d 164 63 ls (st) w Q = Wp d 164 21 ls (st) w Q := Wp.br e164_63 (Or.inl rfl) rfl rfl rfl rfl
theorem e164_66 : decode (j_co 164) 66 = .ok (.iload_n 2, 1) := by decide +kernel
set_option maxRecDepth 20000 in
theorem w164_66 {d : Nat} {st : List Value} {Q : Option Value × jW → Prop} {w : jW} {a0 a1 a3 : Option Value} {x : Int32} : Wp d 164 66 [a0, a1, some (.int x), a3] (st) w Q = Wp d 164 67 [a0, a1, some (.int x), a3] (.int x :: st) w Q := Wp.loc e164_66 rfl rfl rfl
theorem e164_67 : decode (j_co 164) 67 = .ok (.ireturn, 1) := by decide +kernel
set_option maxRecDepth 20000 in
theorem w164_67 {d : Nat} {Q : Option Value × jW → Prop} {ls : jL} {w : jW} {x : Int32} (hx : x = 0 ∨ x = 1) : Wp d 164 67 ls [.int x] w Q = Q (some (.int x), w) := Wp.ret e164_67 (by rcases hx with rfl | rfl <;> rfl)
/-! M.now -/
theorem e165_0 : decode (j_co 165) 0 = .ok (.iload_n 1, 1) := by decide +kernel
set_option maxRecDepth 20000 in
theorem w165_0 {d : Nat} {st : List Value} {Q : Option Value × jW → Prop} {w : jW} {a0 a2 a3 : Option Value} {x : Int32} : Wp d 165 0 [a0, some (.int x), a2, a3] (st) w Q = Wp d 165 1 [a0, some (.int x), a2, a3] (.int x :: st) w Q := Wp.loc e165_0 rfl rfl rfl
theorem e165_1 : decode (j_co 165) 1 = .ok (.i2l, 1) := by decide +kernel
set_option maxRecDepth 20000 in
theorem w165_1 {d : Nat} {st : List Value} {Q : Option Value × jW → Prop} {ls : jL} {w : jW} {a : Int32} : Wp d 165 1 ls (.int a :: st) w Q = Wp d 165 2 ls (.long a.toInt64 :: st) w Q := Wp.alu e165_1 rfl rfl
theorem e165_2 : decode (j_co 165) 2 = .ok (.lconst 0, 1) := by decide +kernel
set_option maxRecDepth 20000 in
theorem w165_2 {d : Nat} {st : List Value} {Q : Option Value × jW → Prop} {ls : jL} {w : jW} : Wp d 165 2 ls (st) w Q = Wp d 165 3 ls (.long (lN 0) :: st) w Q := Wp.alu e165_2 rfl rfl
theorem e165_3 : decode (j_co 165) 3 = .ok (.ldc2_w 243, 3) := by decide +kernel
set_option maxRecDepth 20000 in
theorem w165_3 {d : Nat} {st : List Value} {Q : Option Value × jW → Prop} {ls : jL} {w : jW} : Wp d 165 3 ls (st) w Q = Wp d 165 6 ls (.long (lN 7) :: st) w Q := Wp.ldc2 e165_3 rfl
theorem e165_6 : decode (j_co 165) 6 = .ok (.invokestatic 93, 3) := by decide +kernel
set_option maxRecDepth 20000 in
theorem w165_6 {d : Nat} {st : List Value} {Q : Option Value × jW → Prop} {ls : jL} {w : jW} {x0 : Int64} {x1 : Int64} {x2 : Int64} (hs : j_sumc st ≤ 8) : Wp (d + 1) 165 6 ls (.long x2 :: .long x1 :: .long x0 :: st) w Q = Wp d 115 0 [some (.long x0), none, some (.long x1), none, some (.long x2), none] [] w (fun r1 => Wp (d + 1) 165 9 ls (r1.1.toList ++ st) r1.2 Q) := Wp.cs (kd := 1) (y' := 115) (as := [.long x0, .long x1, .long x2]) e165_6 rfl (by decide) (by decide) rfl (show 6 ≤ 6 by decide) hs
theorem e165_9 : decode (j_co 165) 9 = .ok (.ifCond .ne 6, 3) := by decide +kernel
set_option maxRecDepth 20000 in
theorem w165_9 {d : Nat} {st : List Value} {Q : Option Value × jW → Prop} {ls : jL} {w : jW} {a : Int32} : Wp d 165 9 ls (.int a :: st) w Q = ((a = nI 0 → Wp d 165 12 ls st w Q) ∧ (¬ a = nI 0 → Wp d 165 15 ls st w Q)) := Wp.if2n (c := a = nI 0) (off := 6) e165_9 rfl rfl rfl rfl rfl
theorem e165_12 : decode (j_co 165) 12 = .ok (.bipush (-100), 2) := by decide +kernel
set_option maxRecDepth 20000 in
theorem w165_12 {d : Nat} {st : List Value} {Q : Option Value × jW → Prop} {ls : jL} {w : jW} : Wp d 165 12 ls (st) w Q = Wp d 165 14 ls (.int (-100) :: st) w Q := Wp.alu e165_12 rfl rfl
theorem e165_14 : decode (j_co 165) 14 = .ok (.ireturn, 1) := by decide +kernel
set_option maxRecDepth 20000 in
theorem w165_14 {d : Nat} {Q : Option Value × jW → Prop} {ls : jL} {w : jW} {x : Int32} : Wp d 165 14 ls [.int x] w Q = Q (some (.int x), w) := Wp.ret e165_14 rfl
theorem e165_15 : decode (j_co 165) 15 = .ok (.aload_n 0, 1) := by decide +kernel
set_option maxRecDepth 20000 in
theorem w165_15 {d : Nat} {st : List Value} {Q : Option Value × jW → Prop} {w : jW} {a1 a2 a3 : Option Value} {x : Nat} : Wp d 165 15 [some (.ref x), a1, a2, a3] (st) w Q = Wp d 165 16 [some (.ref x), a1, a2, a3] (.ref x :: st) w Q := Wp.loc e165_15 rfl rfl rfl
theorem e165_16 : decode (j_co 165) 16 = .ok (.getfield 225, 3) := by decide +kernel
set_option maxRecDepth 20000 in
theorem w165_16 {d : Nat} {st : List Value} {Q : Option Value × jW → Prop} {ls : jL} {xs : List Value} {I : fI} {L : fL} {o : Nat} (ht : f_tg o = 11) : Wp d 165 16 ls (.ref o :: st) (f_W xs I L) Q = Wp d 165 19 ls (.int (I o 30) :: st) (f_W xs I L) Q := Wp.getI (ci := 11) (k := 30) e165_16 rfl (by decide) (by decide) (by decide) ht
theorem e165_19 : decode (j_co 165) 19 = .ok (.ifCond .ne 6, 3) := by decide +kernel
set_option maxRecDepth 20000 in
theorem w165_19 {d : Nat} {st : List Value} {Q : Option Value × jW → Prop} {ls : jL} {w : jW} {a : Int32} : Wp d 165 19 ls (.int a :: st) w Q = ((a = nI 0 → Wp d 165 22 ls st w Q) ∧ (¬ a = nI 0 → Wp d 165 25 ls st w Q)) := Wp.if2n (c := a = nI 0) (off := 6) e165_19 rfl rfl rfl rfl rfl
theorem e165_22 : decode (j_co 165) 22 = .ok (.bipush (-102), 2) := by decide +kernel
set_option maxRecDepth 20000 in
theorem w165_22 {d : Nat} {st : List Value} {Q : Option Value × jW → Prop} {ls : jL} {w : jW} : Wp d 165 22 ls (st) w Q = Wp d 165 24 ls (.int (-102) :: st) w Q := Wp.alu e165_22 rfl rfl
theorem e165_24 : decode (j_co 165) 24 = .ok (.ireturn, 1) := by decide +kernel
set_option maxRecDepth 20000 in
theorem w165_24 {d : Nat} {Q : Option Value × jW → Prop} {ls : jL} {w : jW} {x : Int32} : Wp d 165 24 ls [.int x] w Q = Q (some (.int x), w) := Wp.ret e165_24 rfl
theorem e165_25 : decode (j_co 165) 25 = .ok (.iconst 0, 1) := by decide +kernel
set_option maxRecDepth 20000 in
theorem w165_25 {d : Nat} {st : List Value} {Q : Option Value × jW → Prop} {ls : jL} {w : jW} : Wp d 165 25 ls (st) w Q = Wp d 165 26 ls (.int (nI 0) :: st) w Q := Wp.alu e165_25 rfl rfl
theorem e165_26 : decode (j_co 165) 26 = .ok (.istore_n 2, 1) := by decide +kernel
set_option maxRecDepth 20000 in
theorem w165_26 {d : Nat} {st : List Value} {Q : Option Value × jW → Prop} {w : jW} {a0 a1 a2 a3 : Option Value} {x : Int32} (h : j_cp a1) : Wp d 165 26 [a0, a1, a2, a3] (.int x :: st) w Q = Wp d 165 27 [a0, a1, some (.int x), a3] (st) w Q := Wp.loc e165_26 rfl rfl (v_stI (ls := [a0, a1, a2, a3]) (k := 2) (show 2 < 4 by decide) h)
theorem e165_27 : decode (j_co 165) 27 = .ok (.iload_n 1, 1) := by decide +kernel
set_option maxRecDepth 20000 in
theorem w165_27 {d : Nat} {st : List Value} {Q : Option Value × jW → Prop} {w : jW} {a0 a2 a3 : Option Value} {x : Int32} : Wp d 165 27 [a0, some (.int x), a2, a3] (st) w Q = Wp d 165 28 [a0, some (.int x), a2, a3] (.int x :: st) w Q := Wp.loc e165_27 rfl rfl rfl
theorem e165_28 : decode (j_co 165) 28 = .ok (.tableswitch 222 0 7 #[48, 222, 222, 222, 53, 58, 110, 153], 48) := by decide +kernel
theorem e165_76 : decode (j_co 165) 76 = .ok (.aload_n 0, 1) := by decide +kernel
set_option maxRecDepth 20000 in
theorem w165_76 {d : Nat} {st : List Value} {Q : Option Value × jW → Prop} {w : jW} {a1 a2 a3 : Option Value} {x : Nat} : Wp d 165 76 [some (.ref x), a1, a2, a3] (st) w Q = Wp d 165 77 [some (.ref x), a1, a2, a3] (.ref x :: st) w Q := Wp.loc e165_76 rfl rfl rfl
theorem e165_77 : decode (j_co 165) 77 = .ok (.getfield 228, 3) := by decide +kernel
set_option maxRecDepth 20000 in
theorem w165_77 {d : Nat} {st : List Value} {Q : Option Value × jW → Prop} {ls : jL} {xs : List Value} {I : fI} {L : fL} {o : Nat} (ht : f_tg o = 11) : Wp d 165 77 ls (.ref o :: st) (f_W xs I L) Q = Wp d 165 80 ls (.int (I o 31) :: st) (f_W xs I L) Q := Wp.getI (ci := 11) (k := 31) e165_77 rfl (by decide) (by decide) (by decide) ht
theorem e165_80 : decode (j_co 165) 80 = .ok (.ireturn, 1) := by decide +kernel
set_option maxRecDepth 20000 in
theorem w165_80 {d : Nat} {Q : Option Value × jW → Prop} {ls : jL} {w : jW} {x : Int32} : Wp d 165 80 ls [.int x] w Q = Q (some (.int x), w) := Wp.ret e165_80 rfl
theorem e165_81 : decode (j_co 165) 81 = .ok (.aload_n 0, 1) := by decide +kernel
set_option maxRecDepth 20000 in
theorem w165_81 {d : Nat} {st : List Value} {Q : Option Value × jW → Prop} {w : jW} {a1 a2 a3 : Option Value} {x : Nat} : Wp d 165 81 [some (.ref x), a1, a2, a3] (st) w Q = Wp d 165 82 [some (.ref x), a1, a2, a3] (.ref x :: st) w Q := Wp.loc e165_81 rfl rfl rfl
theorem e165_82 : decode (j_co 165) 82 = .ok (.getfield 231, 3) := by decide +kernel
set_option maxRecDepth 20000 in
theorem w165_82 {d : Nat} {st : List Value} {Q : Option Value × jW → Prop} {ls : jL} {xs : List Value} {I : fI} {L : fL} {o : Nat} (ht : f_tg o = 11) : Wp d 165 82 ls (.ref o :: st) (f_W xs I L) Q = Wp d 165 85 ls (.int (I o 33) :: st) (f_W xs I L) Q := Wp.getI (ci := 11) (k := 33) e165_82 rfl (by decide) (by decide) (by decide) ht
theorem e165_85 : decode (j_co 165) 85 = .ok (.ireturn, 1) := by decide +kernel
set_option maxRecDepth 20000 in
theorem w165_85 {d : Nat} {Q : Option Value × jW → Prop} {ls : jL} {w : jW} {x : Int32} : Wp d 165 85 ls [.int x] w Q = Q (some (.int x), w) := Wp.ret e165_85 rfl
theorem e165_86 : decode (j_co 165) 86 = .ok (.aload_n 0, 1) := by decide +kernel
set_option maxRecDepth 20000 in
theorem w165_86 {d : Nat} {st : List Value} {Q : Option Value × jW → Prop} {w : jW} {a1 a2 a3 : Option Value} {x : Nat} : Wp d 165 86 [some (.ref x), a1, a2, a3] (st) w Q = Wp d 165 87 [some (.ref x), a1, a2, a3] (.ref x :: st) w Q := Wp.loc e165_86 rfl rfl rfl
theorem e165_87 : decode (j_co 165) 87 = .ok (.aload_n 0, 1) := by decide +kernel
set_option maxRecDepth 20000 in
theorem w165_87 {d : Nat} {st : List Value} {Q : Option Value × jW → Prop} {w : jW} {a1 a2 a3 : Option Value} {x : Nat} : Wp d 165 87 [some (.ref x), a1, a2, a3] (st) w Q = Wp d 165 88 [some (.ref x), a1, a2, a3] (.ref x :: st) w Q := Wp.loc e165_87 rfl rfl rfl
theorem e165_88 : decode (j_co 165) 88 = .ok (.getfield 78, 3) := by decide +kernel
set_option maxRecDepth 20000 in
theorem w165_88 {d : Nat} {st : List Value} {Q : Option Value × jW → Prop} {ls : jL} {xs : List Value} {I : fI} {L : fL} {o : Nat} (ht : f_tg o = 11) : Wp d 165 88 ls (.ref o :: st) (f_W xs I L) Q = Wp d 165 91 ls (.ref (f_rf o 32) :: st) (f_W xs I L) Q := Wp.getR (ci := 11) (k := 32) e165_88 rfl (by decide) (by decide) rfl ht
theorem e165_91 : decode (j_co 165) 91 = .ok (.iconst 0, 1) := by decide +kernel
set_option maxRecDepth 20000 in
theorem w165_91 {d : Nat} {st : List Value} {Q : Option Value × jW → Prop} {ls : jL} {w : jW} : Wp d 165 91 ls (st) w Q = Wp d 165 92 ls (.int (nI 0) :: st) w Q := Wp.alu e165_91 rfl rfl
theorem e165_92 : decode (j_co 165) 92 = .ok (.iaload, 1) := by decide +kernel
set_option maxRecDepth 20000 in
theorem w165_92 {d : Nat} {st : List Value} {Q : Option Value × jW → Prop} {ls : jL} {xs : List Value} {I : fI} {L : fL} {o : Nat} {i : Int32} (ht : f_tg o = 100) (hi : ¬ (i < 0 ∨ f_ln o ≤ i.toNatClampNeg)) : Wp d 165 92 ls (.int i :: .ref o :: st) (f_W xs I L) Q = Wp d 165 93 ls (.int (I o i.toNatClampNeg) :: st) (f_W xs I L) Q := Wp.iald e165_92 ht hi
theorem e165_93 : decode (j_co 165) 93 = .ok (.aload_n 0, 1) := by decide +kernel
set_option maxRecDepth 20000 in
theorem w165_93 {d : Nat} {st : List Value} {Q : Option Value × jW → Prop} {w : jW} {a1 a2 a3 : Option Value} {x : Nat} : Wp d 165 93 [some (.ref x), a1, a2, a3] (st) w Q = Wp d 165 94 [some (.ref x), a1, a2, a3] (.ref x :: st) w Q := Wp.loc e165_93 rfl rfl rfl
theorem e165_94 : decode (j_co 165) 94 = .ok (.getfield 78, 3) := by decide +kernel
set_option maxRecDepth 20000 in
theorem w165_94 {d : Nat} {st : List Value} {Q : Option Value × jW → Prop} {ls : jL} {xs : List Value} {I : fI} {L : fL} {o : Nat} (ht : f_tg o = 11) : Wp d 165 94 ls (.ref o :: st) (f_W xs I L) Q = Wp d 165 97 ls (.ref (f_rf o 32) :: st) (f_W xs I L) Q := Wp.getR (ci := 11) (k := 32) e165_94 rfl (by decide) (by decide) rfl ht
theorem e165_97 : decode (j_co 165) 97 = .ok (.iconst 1, 1) := by decide +kernel
set_option maxRecDepth 20000 in
theorem w165_97 {d : Nat} {st : List Value} {Q : Option Value × jW → Prop} {ls : jL} {w : jW} : Wp d 165 97 ls (st) w Q = Wp d 165 98 ls (.int (nI 1) :: st) w Q := Wp.alu e165_97 rfl rfl
theorem e165_98 : decode (j_co 165) 98 = .ok (.iaload, 1) := by decide +kernel
set_option maxRecDepth 20000 in
theorem w165_98 {d : Nat} {st : List Value} {Q : Option Value × jW → Prop} {ls : jL} {xs : List Value} {I : fI} {L : fL} {o : Nat} {i : Int32} (ht : f_tg o = 100) (hi : ¬ (i < 0 ∨ f_ln o ≤ i.toNatClampNeg)) : Wp d 165 98 ls (.int i :: .ref o :: st) (f_W xs I L) Q = Wp d 165 99 ls (.int (I o i.toNatClampNeg) :: st) (f_W xs I L) Q := Wp.iald e165_98 ht hi
theorem e165_99 : decode (j_co 165) 99 = .ok (.aload_n 0, 1) := by decide +kernel
set_option maxRecDepth 20000 in
theorem w165_99 {d : Nat} {st : List Value} {Q : Option Value × jW → Prop} {w : jW} {a1 a2 a3 : Option Value} {x : Nat} : Wp d 165 99 [some (.ref x), a1, a2, a3] (st) w Q = Wp d 165 100 [some (.ref x), a1, a2, a3] (.ref x :: st) w Q := Wp.loc e165_99 rfl rfl rfl
theorem e165_100 : decode (j_co 165) 100 = .ok (.getfield 78, 3) := by decide +kernel
set_option maxRecDepth 20000 in
theorem w165_100 {d : Nat} {st : List Value} {Q : Option Value × jW → Prop} {ls : jL} {xs : List Value} {I : fI} {L : fL} {o : Nat} (ht : f_tg o = 11) : Wp d 165 100 ls (.ref o :: st) (f_W xs I L) Q = Wp d 165 103 ls (.ref (f_rf o 32) :: st) (f_W xs I L) Q := Wp.getR (ci := 11) (k := 32) e165_100 rfl (by decide) (by decide) rfl ht
theorem e165_103 : decode (j_co 165) 103 = .ok (.iconst 2, 1) := by decide +kernel
set_option maxRecDepth 20000 in
theorem w165_103 {d : Nat} {st : List Value} {Q : Option Value × jW → Prop} {ls : jL} {w : jW} : Wp d 165 103 ls (st) w Q = Wp d 165 104 ls (.int (nI 2) :: st) w Q := Wp.alu e165_103 rfl rfl
theorem e165_104 : decode (j_co 165) 104 = .ok (.iaload, 1) := by decide +kernel
set_option maxRecDepth 20000 in
theorem w165_104 {d : Nat} {st : List Value} {Q : Option Value × jW → Prop} {ls : jL} {xs : List Value} {I : fI} {L : fL} {o : Nat} {i : Int32} (ht : f_tg o = 100) (hi : ¬ (i < 0 ∨ f_ln o ≤ i.toNatClampNeg)) : Wp d 165 104 ls (.int i :: .ref o :: st) (f_W xs I L) Q = Wp d 165 105 ls (.int (I o i.toNatClampNeg) :: st) (f_W xs I L) Q := Wp.iald e165_104 ht hi
theorem e165_105 : decode (j_co 165) 105 = .ok (.invokevirtual 205, 3) := by decide +kernel
set_option maxRecDepth 20000 in
theorem w165_105 {d : Nat} {st : List Value} {Q : Option Value × jW → Prop} {ls : jL} {xs : List Value} {I : fI} {L : fL} {r : Nat} {x0 : Int32} {x1 : Int32} {x2 : Int32} (hs : j_sumc st ≤ 8) (ht : f_tg r = 11) : Wp (d + 1) 165 105 ls (.int x2 :: .int x1 :: .int x0 :: .ref r :: st) (f_W xs I L) Q = Wp d 149 0 [some (.ref r), some (.int x0), some (.int x1), some (.int x2)] [] (f_W xs I L) (fun r1 => Wp (d + 1) 165 108 ls (r1.1.toList ++ st) r1.2 Q) := Wp.cv (y' := 149) (as := [.int x0, .int x1, .int x2]) e165_105 rfl (by decide) rfl (show 4 ≤ 4 by decide) (by decide) hs ht
theorem e165_108 : decode (j_co 165) 108 = .ok (.aload_n 0, 1) := by decide +kernel
set_option maxRecDepth 20000 in
theorem w165_108 {d : Nat} {st : List Value} {Q : Option Value × jW → Prop} {w : jW} {a1 a2 a3 : Option Value} {x : Nat} : Wp d 165 108 [some (.ref x), a1, a2, a3] (st) w Q = Wp d 165 109 [some (.ref x), a1, a2, a3] (.ref x :: st) w Q := Wp.loc e165_108 rfl rfl rfl
theorem e165_109 : decode (j_co 165) 109 = .ok (.getfield 228, 3) := by decide +kernel
set_option maxRecDepth 20000 in
theorem w165_109 {d : Nat} {st : List Value} {Q : Option Value × jW → Prop} {ls : jL} {xs : List Value} {I : fI} {L : fL} {o : Nat} (ht : f_tg o = 11) : Wp d 165 109 ls (.ref o :: st) (f_W xs I L) Q = Wp d 165 112 ls (.int (I o 31) :: st) (f_W xs I L) Q := Wp.getI (ci := 11) (k := 31) e165_109 rfl (by decide) (by decide) (by decide) ht
theorem e165_112 : decode (j_co 165) 112 = .ok (.aload_n 0, 1) := by decide +kernel
set_option maxRecDepth 20000 in
theorem w165_112 {d : Nat} {st : List Value} {Q : Option Value × jW → Prop} {w : jW} {a1 a2 a3 : Option Value} {x : Nat} : Wp d 165 112 [some (.ref x), a1, a2, a3] (st) w Q = Wp d 165 113 [some (.ref x), a1, a2, a3] (.ref x :: st) w Q := Wp.loc e165_112 rfl rfl rfl
theorem e165_113 : decode (j_co 165) 113 = .ok (.getfield 32, 3) := by decide +kernel
set_option maxRecDepth 20000 in
theorem w165_113 {d : Nat} {st : List Value} {Q : Option Value × jW → Prop} {ls : jL} {xs : List Value} {I : fI} {L : fL} {o : Nat} (ht : f_tg o = 11) : Wp d 165 113 ls (.ref o :: st) (f_W xs I L) Q = Wp d 165 116 ls (.int (I o 10) :: st) (f_W xs I L) Q := Wp.getI (ci := 11) (k := 10) e165_113 rfl (by decide) (by decide) (by decide) ht
theorem e165_116 : decode (j_co 165) 116 = .ok (.if_icmp .ne 20, 3) := by decide +kernel
set_option maxRecDepth 20000 in
theorem w165_116 {d : Nat} {st : List Value} {Q : Option Value × jW → Prop} {ls : jL} {w : jW} {a b : Int32} : Wp d 165 116 ls (.int b :: .int a :: st) w Q = ((a = b → Wp d 165 119 ls st w Q) ∧ (¬ a = b → Wp d 165 136 ls st w Q)) := Wp.if2n (c := a = b) (off := 20) e165_116 rfl rfl rfl rfl rfl
theorem e165_119 : decode (j_co 165) 119 = .ok (.aload_n 0, 1) := by decide +kernel
set_option maxRecDepth 20000 in
theorem w165_119 {d : Nat} {st : List Value} {Q : Option Value × jW → Prop} {w : jW} {a1 a2 a3 : Option Value} {x : Nat} : Wp d 165 119 [some (.ref x), a1, a2, a3] (st) w Q = Wp d 165 120 [some (.ref x), a1, a2, a3] (.ref x :: st) w Q := Wp.loc e165_119 rfl rfl rfl
theorem e165_120 : decode (j_co 165) 120 = .ok (.aload_n 0, 1) := by decide +kernel
set_option maxRecDepth 20000 in
theorem w165_120 {d : Nat} {st : List Value} {Q : Option Value × jW → Prop} {w : jW} {a1 a2 a3 : Option Value} {x : Nat} : Wp d 165 120 [some (.ref x), a1, a2, a3] (st) w Q = Wp d 165 121 [some (.ref x), a1, a2, a3] (.ref x :: st) w Q := Wp.loc e165_120 rfl rfl rfl
theorem e165_121 : decode (j_co 165) 121 = .ok (.getfield 36, 3) := by decide +kernel
set_option maxRecDepth 20000 in
theorem w165_121 {d : Nat} {st : List Value} {Q : Option Value × jW → Prop} {ls : jL} {xs : List Value} {I : fI} {L : fL} {o : Nat} (ht : f_tg o = 11) : Wp d 165 121 ls (.ref o :: st) (f_W xs I L) Q = Wp d 165 124 ls (.ref (f_rf o 11) :: st) (f_W xs I L) Q := Wp.getR (ci := 11) (k := 11) e165_121 rfl (by decide) (by decide) rfl ht
theorem e165_124 : decode (j_co 165) 124 = .ok (.bipush 6, 2) := by decide +kernel
set_option maxRecDepth 20000 in
theorem w165_124 {d : Nat} {st : List Value} {Q : Option Value × jW → Prop} {ls : jL} {w : jW} : Wp d 165 124 ls (st) w Q = Wp d 165 126 ls (.int (nI 6) :: st) w Q := Wp.alu e165_124 rfl rfl
theorem e165_126 : decode (j_co 165) 126 = .ok (.invokevirtual 138, 3) := by decide +kernel
set_option maxRecDepth 20000 in
theorem w165_126 {d : Nat} {st : List Value} {Q : Option Value × jW → Prop} {ls : jL} {xs : List Value} {I : fI} {L : fL} {r : Nat} {x0 : Nat} {x1 : Int32} (hs : j_sumc st ≤ 8) (ht : f_tg r = 11) : Wp (d + 1) 165 126 ls (.int x1 :: .ref x0 :: .ref r :: st) (f_W xs I L) Q = Wp d 139 0 [some (.ref r), some (.ref x0), some (.int x1), none, none] [] (f_W xs I L) (fun r1 => Wp (d + 1) 165 129 ls (r1.1.toList ++ st) r1.2 Q) := Wp.cv (y' := 139) (as := [.ref x0, .int x1]) e165_126 rfl (by decide) rfl (show 3 ≤ 5 by decide) (by decide) hs ht
theorem e165_129 : decode (j_co 165) 129 = .ok (.ifCond .eq 7, 3) := by decide +kernel
set_option maxRecDepth 20000 in
theorem w165_129 {d : Nat} {st : List Value} {Q : Option Value × jW → Prop} {ls : jL} {w : jW} {a : Int32} : Wp d 165 129 ls (.int a :: st) w Q = ((a = nI 0 → Wp d 165 136 ls st w Q) ∧ (¬ a = nI 0 → Wp d 165 132 ls st w Q)) := Wp.if2 (c := a = nI 0) (off := 7) e165_129 rfl rfl rfl rfl rfl
theorem e165_132 : decode (j_co 165) 132 = .ok (.iconst 1, 1) := by decide +kernel
set_option maxRecDepth 20000 in
theorem w165_132 {d : Nat} {st : List Value} {Q : Option Value × jW → Prop} {ls : jL} {w : jW} : Wp d 165 132 ls (st) w Q = Wp d 165 133 ls (.int (nI 1) :: st) w Q := Wp.alu e165_132 rfl rfl
theorem e165_133 : decode (j_co 165) 133 = .ok (.goto 4, 3) := by decide +kernel
set_option maxRecDepth 20000 in
theorem w165_133 {d : Nat} {st : List Value} {Q : Option Value × jW → Prop} {ls : jL} {w : jW} : Wp d 165 133 ls (st) w Q = Wp d 165 137 ls (st) w Q := Wp.br e165_133 (Or.inl rfl) rfl rfl rfl rfl
theorem e165_136 : decode (j_co 165) 136 = .ok (.iconst 0, 1) := by decide +kernel
set_option maxRecDepth 20000 in
theorem w165_136 {d : Nat} {st : List Value} {Q : Option Value × jW → Prop} {ls : jL} {w : jW} : Wp d 165 136 ls (st) w Q = Wp d 165 137 ls (.int (nI 0) :: st) w Q := Wp.alu e165_136 rfl rfl
theorem e165_137 : decode (j_co 165) 137 = .ok (.ireturn, 1) := by decide +kernel
set_option maxRecDepth 20000 in
theorem w165_137 {d : Nat} {Q : Option Value × jW → Prop} {ls : jL} {w : jW} {x : Int32} : Wp d 165 137 ls [.int x] w Q = Q (some (.int x), w) := Wp.ret e165_137 rfl
theorem e165_138 : decode (j_co 165) 138 = .ok (.aload_n 0, 1) := by decide +kernel
set_option maxRecDepth 20000 in
theorem w165_138 {d : Nat} {st : List Value} {Q : Option Value × jW → Prop} {w : jW} {a1 a2 a3 : Option Value} {x : Nat} : Wp d 165 138 [some (.ref x), a1, a2, a3] (st) w Q = Wp d 165 139 [some (.ref x), a1, a2, a3] (.ref x :: st) w Q := Wp.loc e165_138 rfl rfl rfl
theorem e165_139 : decode (j_co 165) 139 = .ok (.aload_n 0, 1) := by decide +kernel
set_option maxRecDepth 20000 in
theorem w165_139 {d : Nat} {st : List Value} {Q : Option Value × jW → Prop} {w : jW} {a1 a2 a3 : Option Value} {x : Nat} : Wp d 165 139 [some (.ref x), a1, a2, a3] (st) w Q = Wp d 165 140 [some (.ref x), a1, a2, a3] (.ref x :: st) w Q := Wp.loc e165_139 rfl rfl rfl
theorem e165_140 : decode (j_co 165) 140 = .ok (.getfield 78, 3) := by decide +kernel
set_option maxRecDepth 20000 in
theorem w165_140 {d : Nat} {st : List Value} {Q : Option Value × jW → Prop} {ls : jL} {xs : List Value} {I : fI} {L : fL} {o : Nat} (ht : f_tg o = 11) : Wp d 165 140 ls (.ref o :: st) (f_W xs I L) Q = Wp d 165 143 ls (.ref (f_rf o 32) :: st) (f_W xs I L) Q := Wp.getR (ci := 11) (k := 32) e165_140 rfl (by decide) (by decide) rfl ht
theorem e165_143 : decode (j_co 165) 143 = .ok (.iconst 0, 1) := by decide +kernel
set_option maxRecDepth 20000 in
theorem w165_143 {d : Nat} {st : List Value} {Q : Option Value × jW → Prop} {ls : jL} {w : jW} : Wp d 165 143 ls (st) w Q = Wp d 165 144 ls (.int (nI 0) :: st) w Q := Wp.alu e165_143 rfl rfl
theorem e165_144 : decode (j_co 165) 144 = .ok (.iaload, 1) := by decide +kernel
set_option maxRecDepth 20000 in
theorem w165_144 {d : Nat} {st : List Value} {Q : Option Value × jW → Prop} {ls : jL} {xs : List Value} {I : fI} {L : fL} {o : Nat} {i : Int32} (ht : f_tg o = 100) (hi : ¬ (i < 0 ∨ f_ln o ≤ i.toNatClampNeg)) : Wp d 165 144 ls (.int i :: .ref o :: st) (f_W xs I L) Q = Wp d 165 145 ls (.int (I o i.toNatClampNeg) :: st) (f_W xs I L) Q := Wp.iald e165_144 ht hi
theorem e165_145 : decode (j_co 165) 145 = .ok (.aload_n 0, 1) := by decide +kernel
set_option maxRecDepth 20000 in
theorem w165_145 {d : Nat} {st : List Value} {Q : Option Value × jW → Prop} {w : jW} {a1 a2 a3 : Option Value} {x : Nat} : Wp d 165 145 [some (.ref x), a1, a2, a3] (st) w Q = Wp d 165 146 [some (.ref x), a1, a2, a3] (.ref x :: st) w Q := Wp.loc e165_145 rfl rfl rfl
theorem e165_146 : decode (j_co 165) 146 = .ok (.getfield 78, 3) := by decide +kernel
set_option maxRecDepth 20000 in
theorem w165_146 {d : Nat} {st : List Value} {Q : Option Value × jW → Prop} {ls : jL} {xs : List Value} {I : fI} {L : fL} {o : Nat} (ht : f_tg o = 11) : Wp d 165 146 ls (.ref o :: st) (f_W xs I L) Q = Wp d 165 149 ls (.ref (f_rf o 32) :: st) (f_W xs I L) Q := Wp.getR (ci := 11) (k := 32) e165_146 rfl (by decide) (by decide) rfl ht
theorem e165_149 : decode (j_co 165) 149 = .ok (.iconst 1, 1) := by decide +kernel
set_option maxRecDepth 20000 in
theorem w165_149 {d : Nat} {st : List Value} {Q : Option Value × jW → Prop} {ls : jL} {w : jW} : Wp d 165 149 ls (st) w Q = Wp d 165 150 ls (.int (nI 1) :: st) w Q := Wp.alu e165_149 rfl rfl
theorem e165_150 : decode (j_co 165) 150 = .ok (.iaload, 1) := by decide +kernel
set_option maxRecDepth 20000 in
theorem w165_150 {d : Nat} {st : List Value} {Q : Option Value × jW → Prop} {ls : jL} {xs : List Value} {I : fI} {L : fL} {o : Nat} {i : Int32} (ht : f_tg o = 100) (hi : ¬ (i < 0 ∨ f_ln o ≤ i.toNatClampNeg)) : Wp d 165 150 ls (.int i :: .ref o :: st) (f_W xs I L) Q = Wp d 165 151 ls (.int (I o i.toNatClampNeg) :: st) (f_W xs I L) Q := Wp.iald e165_150 ht hi
theorem e165_151 : decode (j_co 165) 151 = .ok (.aload_n 0, 1) := by decide +kernel
set_option maxRecDepth 20000 in
theorem w165_151 {d : Nat} {st : List Value} {Q : Option Value × jW → Prop} {w : jW} {a1 a2 a3 : Option Value} {x : Nat} : Wp d 165 151 [some (.ref x), a1, a2, a3] (st) w Q = Wp d 165 152 [some (.ref x), a1, a2, a3] (.ref x :: st) w Q := Wp.loc e165_151 rfl rfl rfl
theorem e165_152 : decode (j_co 165) 152 = .ok (.getfield 78, 3) := by decide +kernel
set_option maxRecDepth 20000 in
theorem w165_152 {d : Nat} {st : List Value} {Q : Option Value × jW → Prop} {ls : jL} {xs : List Value} {I : fI} {L : fL} {o : Nat} (ht : f_tg o = 11) : Wp d 165 152 ls (.ref o :: st) (f_W xs I L) Q = Wp d 165 155 ls (.ref (f_rf o 32) :: st) (f_W xs I L) Q := Wp.getR (ci := 11) (k := 32) e165_152 rfl (by decide) (by decide) rfl ht
theorem e165_155 : decode (j_co 165) 155 = .ok (.iconst 2, 1) := by decide +kernel
set_option maxRecDepth 20000 in
theorem w165_155 {d : Nat} {st : List Value} {Q : Option Value × jW → Prop} {ls : jL} {w : jW} : Wp d 165 155 ls (st) w Q = Wp d 165 156 ls (.int (nI 2) :: st) w Q := Wp.alu e165_155 rfl rfl
theorem e165_156 : decode (j_co 165) 156 = .ok (.iaload, 1) := by decide +kernel
set_option maxRecDepth 20000 in
theorem w165_156 {d : Nat} {st : List Value} {Q : Option Value × jW → Prop} {ls : jL} {xs : List Value} {I : fI} {L : fL} {o : Nat} {i : Int32} (ht : f_tg o = 100) (hi : ¬ (i < 0 ∨ f_ln o ≤ i.toNatClampNeg)) : Wp d 165 156 ls (.int i :: .ref o :: st) (f_W xs I L) Q = Wp d 165 157 ls (.int (I o i.toNatClampNeg) :: st) (f_W xs I L) Q := Wp.iald e165_156 ht hi
theorem e165_157 : decode (j_co 165) 157 = .ok (.invokevirtual 205, 3) := by decide +kernel
set_option maxRecDepth 20000 in
theorem w165_157 {d : Nat} {st : List Value} {Q : Option Value × jW → Prop} {ls : jL} {xs : List Value} {I : fI} {L : fL} {r : Nat} {x0 : Int32} {x1 : Int32} {x2 : Int32} (hs : j_sumc st ≤ 8) (ht : f_tg r = 11) : Wp (d + 1) 165 157 ls (.int x2 :: .int x1 :: .int x0 :: .ref r :: st) (f_W xs I L) Q = Wp d 149 0 [some (.ref r), some (.int x0), some (.int x1), some (.int x2)] [] (f_W xs I L) (fun r1 => Wp (d + 1) 165 160 ls (r1.1.toList ++ st) r1.2 Q) := Wp.cv (y' := 149) (as := [.int x0, .int x1, .int x2]) e165_157 rfl (by decide) rfl (show 4 ≤ 4 by decide) (by decide) hs ht
theorem e165_160 : decode (j_co 165) 160 = .ok (.aload_n 0, 1) := by decide +kernel
set_option maxRecDepth 20000 in
theorem w165_160 {d : Nat} {st : List Value} {Q : Option Value × jW → Prop} {w : jW} {a1 a2 a3 : Option Value} {x : Nat} : Wp d 165 160 [some (.ref x), a1, a2, a3] (st) w Q = Wp d 165 161 [some (.ref x), a1, a2, a3] (.ref x :: st) w Q := Wp.loc e165_160 rfl rfl rfl
theorem e165_161 : decode (j_co 165) 161 = .ok (.aload_n 0, 1) := by decide +kernel
set_option maxRecDepth 20000 in
theorem w165_161 {d : Nat} {st : List Value} {Q : Option Value × jW → Prop} {w : jW} {a1 a2 a3 : Option Value} {x : Nat} : Wp d 165 161 [some (.ref x), a1, a2, a3] (st) w Q = Wp d 165 162 [some (.ref x), a1, a2, a3] (.ref x :: st) w Q := Wp.loc e165_161 rfl rfl rfl
theorem e165_162 : decode (j_co 165) 162 = .ok (.getfield 228, 3) := by decide +kernel
set_option maxRecDepth 20000 in
theorem w165_162 {d : Nat} {st : List Value} {Q : Option Value × jW → Prop} {ls : jL} {xs : List Value} {I : fI} {L : fL} {o : Nat} (ht : f_tg o = 11) : Wp d 165 162 ls (.ref o :: st) (f_W xs I L) Q = Wp d 165 165 ls (.int (I o 31) :: st) (f_W xs I L) Q := Wp.getI (ci := 11) (k := 31) e165_162 rfl (by decide) (by decide) (by decide) ht
theorem e165_165 : decode (j_co 165) 165 = .ok (.invokevirtual 162, 3) := by decide +kernel
set_option maxRecDepth 20000 in
theorem w165_165 {d : Nat} {st : List Value} {Q : Option Value × jW → Prop} {ls : jL} {xs : List Value} {I : fI} {L : fL} {r : Nat} {x0 : Int32} (hs : j_sumc st ≤ 8) (ht : f_tg r = 11) : Wp (d + 1) 165 165 ls (.int x0 :: .ref r :: st) (f_W xs I L) Q = Wp d 136 0 [some (.ref r), some (.int x0), none] [] (f_W xs I L) (fun r1 => Wp (d + 1) 165 168 ls (r1.1.toList ++ st) r1.2 Q) := Wp.cv (y' := 136) (as := [.int x0]) e165_165 rfl (by decide) rfl (show 2 ≤ 3 by decide) (by decide) hs ht
theorem e165_168 : decode (j_co 165) 168 = .ok (.aload_n 0, 1) := by decide +kernel
set_option maxRecDepth 20000 in
theorem w165_168 {d : Nat} {st : List Value} {Q : Option Value × jW → Prop} {w : jW} {a1 a2 a3 : Option Value} {x : Nat} : Wp d 165 168 [some (.ref x), a1, a2, a3] (st) w Q = Wp d 165 169 [some (.ref x), a1, a2, a3] (.ref x :: st) w Q := Wp.loc e165_168 rfl rfl rfl
theorem e165_169 : decode (j_co 165) 169 = .ok (.invokevirtual 131, 3) := by decide +kernel
set_option maxRecDepth 20000 in
theorem w165_169 {d : Nat} {st : List Value} {Q : Option Value × jW → Prop} {ls : jL} {xs : List Value} {I : fI} {L : fL} {r : Nat} (hs : j_sumc st ≤ 8) (ht : f_tg r = 11) : Wp (d + 1) 165 169 ls (.ref r :: st) (f_W xs I L) Q = Wp d 132 0 [some (.ref r)] [] (f_W xs I L) (fun r1 => Wp (d + 1) 165 172 ls (r1.1.toList ++ st) r1.2 Q) := Wp.cv (y' := 132) (as := []) e165_169 rfl (by decide) rfl (show 1 ≤ 1 by decide) (by decide) hs ht
theorem e165_172 : decode (j_co 165) 172 = .ok (.ifCond .eq 7, 3) := by decide +kernel
set_option maxRecDepth 20000 in
theorem w165_172 {d : Nat} {st : List Value} {Q : Option Value × jW → Prop} {ls : jL} {w : jW} {a : Int32} : Wp d 165 172 ls (.int a :: st) w Q = ((a = nI 0 → Wp d 165 179 ls st w Q) ∧ (¬ a = nI 0 → Wp d 165 175 ls st w Q)) := Wp.if2 (c := a = nI 0) (off := 7) e165_172 rfl rfl rfl rfl rfl
theorem e165_175 : decode (j_co 165) 175 = .ok (.iconst 1, 1) := by decide +kernel
set_option maxRecDepth 20000 in
theorem w165_175 {d : Nat} {st : List Value} {Q : Option Value × jW → Prop} {ls : jL} {w : jW} : Wp d 165 175 ls (st) w Q = Wp d 165 176 ls (.int (nI 1) :: st) w Q := Wp.alu e165_175 rfl rfl
theorem e165_176 : decode (j_co 165) 176 = .ok (.goto 4, 3) := by decide +kernel
set_option maxRecDepth 20000 in
theorem w165_176 {d : Nat} {st : List Value} {Q : Option Value × jW → Prop} {ls : jL} {w : jW} : Wp d 165 176 ls (st) w Q = Wp d 165 180 ls (st) w Q := Wp.br e165_176 (Or.inl rfl) rfl rfl rfl rfl
theorem e165_179 : decode (j_co 165) 179 = .ok (.iconst 0, 1) := by decide +kernel
set_option maxRecDepth 20000 in
theorem w165_179 {d : Nat} {st : List Value} {Q : Option Value × jW → Prop} {ls : jL} {w : jW} : Wp d 165 179 ls (st) w Q = Wp d 165 180 ls (.int (nI 0) :: st) w Q := Wp.alu e165_179 rfl rfl
theorem e165_180 : decode (j_co 165) 180 = .ok (.ireturn, 1) := by decide +kernel
set_option maxRecDepth 20000 in
theorem w165_180 {d : Nat} {Q : Option Value × jW → Prop} {ls : jL} {w : jW} {x : Int32} : Wp d 165 180 ls [.int x] w Q = Q (some (.int x), w) := Wp.ret e165_180 rfl
theorem e165_181 : decode (j_co 165) 181 = .ok (.iconst 0, 1) := by decide +kernel
set_option maxRecDepth 20000 in
theorem w165_181 {d : Nat} {st : List Value} {Q : Option Value × jW → Prop} {ls : jL} {w : jW} : Wp d 165 181 ls (st) w Q = Wp d 165 182 ls (.int (nI 0) :: st) w Q := Wp.alu e165_181 rfl rfl
theorem e165_182 : decode (j_co 165) 182 = .ok (.istore_n 3, 1) := by decide +kernel
set_option maxRecDepth 20000 in
theorem w165_182 {d : Nat} {st : List Value} {Q : Option Value × jW → Prop} {w : jW} {a0 a1 a2 a3 : Option Value} {x : Int32} (h : j_cp a2) : Wp d 165 182 [a0, a1, a2, a3] (.int x :: st) w Q = Wp d 165 183 [a0, a1, a2, some (.int x)] (st) w Q := Wp.loc e165_182 rfl rfl (v_stI (ls := [a0, a1, a2, a3]) (k := 3) (show 3 < 4 by decide) h)
theorem e165_183 : decode (j_co 165) 183 = .ok (.iload_n 3, 1) := by decide +kernel
set_option maxRecDepth 20000 in
theorem w165_183 {d : Nat} {st : List Value} {Q : Option Value × jW → Prop} {w : jW} {a0 a1 a2 : Option Value} {x : Int32} : Wp d 165 183 [a0, a1, a2, some (.int x)] (st) w Q = Wp d 165 184 [a0, a1, a2, some (.int x)] (.int x :: st) w Q := Wp.loc e165_183 rfl rfl rfl
theorem e165_184 : decode (j_co 165) 184 = .ok (.aload_n 0, 1) := by decide +kernel
set_option maxRecDepth 20000 in
theorem w165_184 {d : Nat} {st : List Value} {Q : Option Value × jW → Prop} {w : jW} {a1 a2 a3 : Option Value} {x : Nat} : Wp d 165 184 [some (.ref x), a1, a2, a3] (st) w Q = Wp d 165 185 [some (.ref x), a1, a2, a3] (.ref x :: st) w Q := Wp.loc e165_184 rfl rfl rfl
theorem e165_185 : decode (j_co 165) 185 = .ok (.getfield 97, 3) := by decide +kernel
set_option maxRecDepth 20000 in
theorem w165_185 {d : Nat} {st : List Value} {Q : Option Value × jW → Prop} {ls : jL} {xs : List Value} {I : fI} {L : fL} {o : Nat} (ht : f_tg o = 11) : Wp d 165 185 ls (.ref o :: st) (f_W xs I L) Q = Wp d 165 188 ls (.int (I o 3) :: st) (f_W xs I L) Q := Wp.getI (ci := 11) (k := 3) e165_185 rfl (by decide) (by decide) (by decide) ht
theorem e165_188 : decode (j_co 165) 188 = .ok (.if_icmp .ge 60, 3) := by decide +kernel
set_option maxRecDepth 20000 in
theorem w165_188 {d : Nat} {st : List Value} {Q : Option Value × jW → Prop} {ls : jL} {w : jW} {a b : Int32} : Wp d 165 188 ls (.int b :: .int a :: st) w Q = ((b ≤ a → Wp d 165 248 ls st w Q) ∧ (¬ b ≤ a → Wp d 165 191 ls st w Q)) := Wp.if2 (c := b ≤ a) (off := 60) e165_188 rfl rfl rfl rfl rfl
theorem e165_191 : decode (j_co 165) 191 = .ok (.aload_n 0, 1) := by decide +kernel
set_option maxRecDepth 20000 in
theorem w165_191 {d : Nat} {st : List Value} {Q : Option Value × jW → Prop} {w : jW} {a1 a2 a3 : Option Value} {x : Nat} : Wp d 165 191 [some (.ref x), a1, a2, a3] (st) w Q = Wp d 165 192 [some (.ref x), a1, a2, a3] (.ref x :: st) w Q := Wp.loc e165_191 rfl rfl rfl
theorem e165_192 : decode (j_co 165) 192 = .ok (.aload_n 0, 1) := by decide +kernel
set_option maxRecDepth 20000 in
theorem w165_192 {d : Nat} {st : List Value} {Q : Option Value × jW → Prop} {w : jW} {a1 a2 a3 : Option Value} {x : Nat} : Wp d 165 192 [some (.ref x), a1, a2, a3] (st) w Q = Wp d 165 193 [some (.ref x), a1, a2, a3] (.ref x :: st) w Q := Wp.loc e165_192 rfl rfl rfl
theorem e165_193 : decode (j_co 165) 193 = .ok (.getfield 78, 3) := by decide +kernel
set_option maxRecDepth 20000 in
theorem w165_193 {d : Nat} {st : List Value} {Q : Option Value × jW → Prop} {ls : jL} {xs : List Value} {I : fI} {L : fL} {o : Nat} (ht : f_tg o = 11) : Wp d 165 193 ls (.ref o :: st) (f_W xs I L) Q = Wp d 165 196 ls (.ref (f_rf o 32) :: st) (f_W xs I L) Q := Wp.getR (ci := 11) (k := 32) e165_193 rfl (by decide) (by decide) rfl ht
theorem e165_196 : decode (j_co 165) 196 = .ok (.iconst 0, 1) := by decide +kernel
set_option maxRecDepth 20000 in
theorem w165_196 {d : Nat} {st : List Value} {Q : Option Value × jW → Prop} {ls : jL} {w : jW} : Wp d 165 196 ls (st) w Q = Wp d 165 197 ls (.int (nI 0) :: st) w Q := Wp.alu e165_196 rfl rfl
theorem e165_197 : decode (j_co 165) 197 = .ok (.iaload, 1) := by decide +kernel
set_option maxRecDepth 20000 in
theorem w165_197 {d : Nat} {st : List Value} {Q : Option Value × jW → Prop} {ls : jL} {xs : List Value} {I : fI} {L : fL} {o : Nat} {i : Int32} (ht : f_tg o = 100) (hi : ¬ (i < 0 ∨ f_ln o ≤ i.toNatClampNeg)) : Wp d 165 197 ls (.int i :: .ref o :: st) (f_W xs I L) Q = Wp d 165 198 ls (.int (I o i.toNatClampNeg) :: st) (f_W xs I L) Q := Wp.iald e165_197 ht hi
theorem e165_198 : decode (j_co 165) 198 = .ok (.aload_n 0, 1) := by decide +kernel
set_option maxRecDepth 20000 in
theorem w165_198 {d : Nat} {st : List Value} {Q : Option Value × jW → Prop} {w : jW} {a1 a2 a3 : Option Value} {x : Nat} : Wp d 165 198 [some (.ref x), a1, a2, a3] (st) w Q = Wp d 165 199 [some (.ref x), a1, a2, a3] (.ref x :: st) w Q := Wp.loc e165_198 rfl rfl rfl
theorem e165_199 : decode (j_co 165) 199 = .ok (.getfield 78, 3) := by decide +kernel
set_option maxRecDepth 20000 in
theorem w165_199 {d : Nat} {st : List Value} {Q : Option Value × jW → Prop} {ls : jL} {xs : List Value} {I : fI} {L : fL} {o : Nat} (ht : f_tg o = 11) : Wp d 165 199 ls (.ref o :: st) (f_W xs I L) Q = Wp d 165 202 ls (.ref (f_rf o 32) :: st) (f_W xs I L) Q := Wp.getR (ci := 11) (k := 32) e165_199 rfl (by decide) (by decide) rfl ht
theorem e165_202 : decode (j_co 165) 202 = .ok (.iconst 1, 1) := by decide +kernel
set_option maxRecDepth 20000 in
theorem w165_202 {d : Nat} {st : List Value} {Q : Option Value × jW → Prop} {ls : jL} {w : jW} : Wp d 165 202 ls (st) w Q = Wp d 165 203 ls (.int (nI 1) :: st) w Q := Wp.alu e165_202 rfl rfl
theorem e165_203 : decode (j_co 165) 203 = .ok (.iaload, 1) := by decide +kernel
set_option maxRecDepth 20000 in
theorem w165_203 {d : Nat} {st : List Value} {Q : Option Value × jW → Prop} {ls : jL} {xs : List Value} {I : fI} {L : fL} {o : Nat} {i : Int32} (ht : f_tg o = 100) (hi : ¬ (i < 0 ∨ f_ln o ≤ i.toNatClampNeg)) : Wp d 165 203 ls (.int i :: .ref o :: st) (f_W xs I L) Q = Wp d 165 204 ls (.int (I o i.toNatClampNeg) :: st) (f_W xs I L) Q := Wp.iald e165_203 ht hi
theorem e165_204 : decode (j_co 165) 204 = .ok (.aload_n 0, 1) := by decide +kernel
set_option maxRecDepth 20000 in
theorem w165_204 {d : Nat} {st : List Value} {Q : Option Value × jW → Prop} {w : jW} {a1 a2 a3 : Option Value} {x : Nat} : Wp d 165 204 [some (.ref x), a1, a2, a3] (st) w Q = Wp d 165 205 [some (.ref x), a1, a2, a3] (.ref x :: st) w Q := Wp.loc e165_204 rfl rfl rfl
theorem e165_205 : decode (j_co 165) 205 = .ok (.getfield 78, 3) := by decide +kernel
set_option maxRecDepth 20000 in
theorem w165_205 {d : Nat} {st : List Value} {Q : Option Value × jW → Prop} {ls : jL} {xs : List Value} {I : fI} {L : fL} {o : Nat} (ht : f_tg o = 11) : Wp d 165 205 ls (.ref o :: st) (f_W xs I L) Q = Wp d 165 208 ls (.ref (f_rf o 32) :: st) (f_W xs I L) Q := Wp.getR (ci := 11) (k := 32) e165_205 rfl (by decide) (by decide) rfl ht
theorem e165_208 : decode (j_co 165) 208 = .ok (.iconst 2, 1) := by decide +kernel
set_option maxRecDepth 20000 in
theorem w165_208 {d : Nat} {st : List Value} {Q : Option Value × jW → Prop} {ls : jL} {w : jW} : Wp d 165 208 ls (st) w Q = Wp d 165 209 ls (.int (nI 2) :: st) w Q := Wp.alu e165_208 rfl rfl
theorem e165_209 : decode (j_co 165) 209 = .ok (.iaload, 1) := by decide +kernel
set_option maxRecDepth 20000 in
theorem w165_209 {d : Nat} {st : List Value} {Q : Option Value × jW → Prop} {ls : jL} {xs : List Value} {I : fI} {L : fL} {o : Nat} {i : Int32} (ht : f_tg o = 100) (hi : ¬ (i < 0 ∨ f_ln o ≤ i.toNatClampNeg)) : Wp d 165 209 ls (.int i :: .ref o :: st) (f_W xs I L) Q = Wp d 165 210 ls (.int (I o i.toNatClampNeg) :: st) (f_W xs I L) Q := Wp.iald e165_209 ht hi
theorem e165_210 : decode (j_co 165) 210 = .ok (.invokevirtual 205, 3) := by decide +kernel
set_option maxRecDepth 20000 in
theorem w165_210 {d : Nat} {st : List Value} {Q : Option Value × jW → Prop} {ls : jL} {xs : List Value} {I : fI} {L : fL} {r : Nat} {x0 : Int32} {x1 : Int32} {x2 : Int32} (hs : j_sumc st ≤ 8) (ht : f_tg r = 11) : Wp (d + 1) 165 210 ls (.int x2 :: .int x1 :: .int x0 :: .ref r :: st) (f_W xs I L) Q = Wp d 149 0 [some (.ref r), some (.int x0), some (.int x1), some (.int x2)] [] (f_W xs I L) (fun r1 => Wp (d + 1) 165 213 ls (r1.1.toList ++ st) r1.2 Q) := Wp.cv (y' := 149) (as := [.int x0, .int x1, .int x2]) e165_210 rfl (by decide) rfl (show 4 ≤ 4 by decide) (by decide) hs ht
theorem e165_213 : decode (j_co 165) 213 = .ok (.iload_n 2, 1) := by decide +kernel
set_option maxRecDepth 20000 in
theorem w165_213 {d : Nat} {st : List Value} {Q : Option Value × jW → Prop} {w : jW} {a0 a1 a3 : Option Value} {x : Int32} : Wp d 165 213 [a0, a1, some (.int x), a3] (st) w Q = Wp d 165 214 [a0, a1, some (.int x), a3] (.int x :: st) w Q := Wp.loc e165_213 rfl rfl rfl
theorem e165_214 : decode (j_co 165) 214 = .ok (.aload_n 0, 1) := by decide +kernel
set_option maxRecDepth 20000 in
theorem w165_214 {d : Nat} {st : List Value} {Q : Option Value × jW → Prop} {w : jW} {a1 a2 a3 : Option Value} {x : Nat} : Wp d 165 214 [some (.ref x), a1, a2, a3] (st) w Q = Wp d 165 215 [some (.ref x), a1, a2, a3] (.ref x :: st) w Q := Wp.loc e165_214 rfl rfl rfl
theorem e165_215 : decode (j_co 165) 215 = .ok (.getfield 16, 3) := by decide +kernel
set_option maxRecDepth 20000 in
theorem w165_215 {d : Nat} {st : List Value} {Q : Option Value × jW → Prop} {ls : jL} {xs : List Value} {I : fI} {L : fL} {o : Nat} (ht : f_tg o = 11) : Wp d 165 215 ls (.ref o :: st) (f_W xs I L) Q = Wp d 165 218 ls (.ref (f_rf o 4) :: st) (f_W xs I L) Q := Wp.getR (ci := 11) (k := 4) e165_215 rfl (by decide) (by decide) rfl ht
theorem e165_218 : decode (j_co 165) 218 = .ok (.iload_n 3, 1) := by decide +kernel
set_option maxRecDepth 20000 in
theorem w165_218 {d : Nat} {st : List Value} {Q : Option Value × jW → Prop} {w : jW} {a0 a1 a2 : Option Value} {x : Int32} : Wp d 165 218 [a0, a1, a2, some (.int x)] (st) w Q = Wp d 165 219 [a0, a1, a2, some (.int x)] (.int x :: st) w Q := Wp.loc e165_218 rfl rfl rfl
theorem e165_219 : decode (j_co 165) 219 = .ok (.iaload, 1) := by decide +kernel
set_option maxRecDepth 20000 in
theorem w165_219 {d : Nat} {st : List Value} {Q : Option Value × jW → Prop} {ls : jL} {xs : List Value} {I : fI} {L : fL} {o : Nat} {i : Int32} (ht : f_tg o = 100) (hi : ¬ (i < 0 ∨ f_ln o ≤ i.toNatClampNeg)) : Wp d 165 219 ls (.int i :: .ref o :: st) (f_W xs I L) Q = Wp d 165 220 ls (.int (I o i.toNatClampNeg) :: st) (f_W xs I L) Q := Wp.iald e165_219 ht hi
theorem e165_220 : decode (j_co 165) 220 = .ok (.aload_n 0, 1) := by decide +kernel
set_option maxRecDepth 20000 in
theorem w165_220 {d : Nat} {st : List Value} {Q : Option Value × jW → Prop} {w : jW} {a1 a2 a3 : Option Value} {x : Nat} : Wp d 165 220 [some (.ref x), a1, a2, a3] (st) w Q = Wp d 165 221 [some (.ref x), a1, a2, a3] (.ref x :: st) w Q := Wp.loc e165_220 rfl rfl rfl
theorem e165_221 : decode (j_co 165) 221 = .ok (.getfield 228, 3) := by decide +kernel
set_option maxRecDepth 20000 in
theorem w165_221 {d : Nat} {st : List Value} {Q : Option Value × jW → Prop} {ls : jL} {xs : List Value} {I : fI} {L : fL} {o : Nat} (ht : f_tg o = 11) : Wp d 165 221 ls (.ref o :: st) (f_W xs I L) Q = Wp d 165 224 ls (.int (I o 31) :: st) (f_W xs I L) Q := Wp.getI (ci := 11) (k := 31) e165_221 rfl (by decide) (by decide) (by decide) ht
theorem e165_224 : decode (j_co 165) 224 = .ok (.if_icmp .ne 15, 3) := by decide +kernel
set_option maxRecDepth 20000 in
theorem w165_224 {d : Nat} {st : List Value} {Q : Option Value × jW → Prop} {ls : jL} {w : jW} {a b : Int32} : Wp d 165 224 ls (.int b :: .int a :: st) w Q = ((a = b → Wp d 165 227 ls st w Q) ∧ (¬ a = b → Wp d 165 239 ls st w Q)) := Wp.if2n (c := a = b) (off := 15) e165_224 rfl rfl rfl rfl rfl
theorem e165_227 : decode (j_co 165) 227 = .ok (.aload_n 0, 1) := by decide +kernel
set_option maxRecDepth 20000 in
theorem w165_227 {d : Nat} {st : List Value} {Q : Option Value × jW → Prop} {w : jW} {a1 a2 a3 : Option Value} {x : Nat} : Wp d 165 227 [some (.ref x), a1, a2, a3] (st) w Q = Wp d 165 228 [some (.ref x), a1, a2, a3] (.ref x :: st) w Q := Wp.loc e165_227 rfl rfl rfl
theorem e165_228 : decode (j_co 165) 228 = .ok (.iload_n 3, 1) := by decide +kernel
set_option maxRecDepth 20000 in
theorem w165_228 {d : Nat} {st : List Value} {Q : Option Value × jW → Prop} {w : jW} {a0 a1 a2 : Option Value} {x : Int32} : Wp d 165 228 [a0, a1, a2, some (.int x)] (st) w Q = Wp d 165 229 [a0, a1, a2, some (.int x)] (.int x :: st) w Q := Wp.loc e165_228 rfl rfl rfl
theorem e165_229 : decode (j_co 165) 229 = .ok (.invokevirtual 169, 3) := by decide +kernel
set_option maxRecDepth 20000 in
theorem w165_229 {d : Nat} {st : List Value} {Q : Option Value × jW → Prop} {ls : jL} {xs : List Value} {I : fI} {L : fL} {r : Nat} {x0 : Int32} (hs : j_sumc st ≤ 8) (ht : f_tg r = 11) : Wp (d + 1) 165 229 ls (.int x0 :: .ref r :: st) (f_W xs I L) Q = Wp d 140 0 [some (.ref r), some (.int x0), none] [] (f_W xs I L) (fun r1 => Wp (d + 1) 165 232 ls (r1.1.toList ++ st) r1.2 Q) := Wp.cv (y' := 140) (as := [.int x0]) e165_229 rfl (by decide) rfl (show 2 ≤ 3 by decide) (by decide) hs ht
theorem e165_232 : decode (j_co 165) 232 = .ok (.ifCond .eq 7, 3) := by decide +kernel
set_option maxRecDepth 20000 in
theorem w165_232 {d : Nat} {st : List Value} {Q : Option Value × jW → Prop} {ls : jL} {w : jW} {a : Int32} : Wp d 165 232 ls (.int a :: st) w Q = ((a = nI 0 → Wp d 165 239 ls st w Q) ∧ (¬ a = nI 0 → Wp d 165 235 ls st w Q)) := Wp.if2 (c := a = nI 0) (off := 7) e165_232 rfl rfl rfl rfl rfl
theorem e165_235 : decode (j_co 165) 235 = .ok (.iconst 1, 1) := by decide +kernel
set_option maxRecDepth 20000 in
theorem w165_235 {d : Nat} {st : List Value} {Q : Option Value × jW → Prop} {ls : jL} {w : jW} : Wp d 165 235 ls (st) w Q = Wp d 165 236 ls (.int (nI 1) :: st) w Q := Wp.alu e165_235 rfl rfl
theorem e165_236 : decode (j_co 165) 236 = .ok (.goto 4, 3) := by decide +kernel
set_option maxRecDepth 20000 in
theorem w165_236 {d : Nat} {st : List Value} {Q : Option Value × jW → Prop} {ls : jL} {w : jW} : Wp d 165 236 ls (st) w Q = Wp d 165 240 ls (st) w Q := Wp.br e165_236 (Or.inl rfl) rfl rfl rfl rfl
theorem e165_239 : decode (j_co 165) 239 = .ok (.iconst 0, 1) := by decide +kernel
set_option maxRecDepth 20000 in
theorem w165_239 {d : Nat} {st : List Value} {Q : Option Value × jW → Prop} {ls : jL} {w : jW} : Wp d 165 239 ls (st) w Q = Wp d 165 240 ls (.int (nI 0) :: st) w Q := Wp.alu e165_239 rfl rfl
theorem e165_240 : decode (j_co 165) 240 = .ok (.iadd, 1) := by decide +kernel
set_option maxRecDepth 20000 in
theorem w165_240 {d : Nat} {st : List Value} {Q : Option Value × jW → Prop} {ls : jL} {w : jW} {a b : Int32} : Wp d 165 240 ls (.int b :: .int a :: st) w Q = Wp d 165 241 ls (.int (a + b) :: st) w Q := Wp.alu e165_240 rfl rfl
theorem e165_241 : decode (j_co 165) 241 = .ok (.istore_n 2, 1) := by decide +kernel
set_option maxRecDepth 20000 in
theorem w165_241 {d : Nat} {st : List Value} {Q : Option Value × jW → Prop} {w : jW} {a0 a1 a2 a3 : Option Value} {x : Int32} (h : j_cp a1) : Wp d 165 241 [a0, a1, a2, a3] (.int x :: st) w Q = Wp d 165 242 [a0, a1, some (.int x), a3] (st) w Q := Wp.loc e165_241 rfl rfl (v_stI (ls := [a0, a1, a2, a3]) (k := 2) (show 2 < 4 by decide) h)
theorem e165_242 : decode (j_co 165) 242 = .ok (.iinc 3 1, 3) := by decide +kernel
set_option maxRecDepth 20000 in
theorem w165_242 {d : Nat} {st : List Value} {Q : Option Value × jW → Prop} {w : jW} {a0 a1 a2 : Option Value} {x : Int32} (h : j_cp a2) : Wp d 165 242 [a0, a1, a2, some (.int x)] (st) w Q = Wp d 165 245 [a0, a1, a2, some (.int (x + nI 1))] (st) w Q := Wp.loc e165_242 rfl rfl (v_inc (ls := [a0, a1, a2, some (.int x)]) (k := 3) (n := 1) rfl (show 3 < 4 by decide) h)
theorem e165_245 : decode (j_co 165) 245 = .ok (.goto (-62), 3) := by decide +kernel
set_option maxRecDepth 20000 in
theorem w165_245 {d : Nat} {st : List Value} {Q : Option Value × jW → Prop} {ls : jL} {w : jW} : Wp d 165 245 ls (st) w Q = Wp d 165 183 ls (st) w Q := Wp.br e165_245 (Or.inl rfl) rfl rfl rfl rfl
theorem e165_248 : decode (j_co 165) 248 = .ok (.iload_n 2, 1) := by decide +kernel
set_option maxRecDepth 20000 in
theorem w165_248 {d : Nat} {st : List Value} {Q : Option Value × jW → Prop} {w : jW} {a0 a1 a3 : Option Value} {x : Int32} : Wp d 165 248 [a0, a1, some (.int x), a3] (st) w Q = Wp d 165 249 [a0, a1, some (.int x), a3] (.int x :: st) w Q := Wp.loc e165_248 rfl rfl rfl
theorem e165_249 : decode (j_co 165) 249 = .ok (.ireturn, 1) := by decide +kernel
set_option maxRecDepth 20000 in
theorem w165_249 {d : Nat} {Q : Option Value × jW → Prop} {ls : jL} {w : jW} {x : Int32} : Wp d 165 249 ls [.int x] w Q = Q (some (.int x), w) := Wp.ret e165_249 rfl
theorem e165_250 : decode (j_co 165) 250 = .ok (.aload_n 0, 1) := by decide +kernel
set_option maxRecDepth 20000 in
theorem w165_250 {d : Nat} {st : List Value} {Q : Option Value × jW → Prop} {w : jW} {a1 a2 a3 : Option Value} {x : Nat} : Wp d 165 250 [some (.ref x), a1, a2, a3] (st) w Q = Wp d 165 251 [some (.ref x), a1, a2, a3] (.ref x :: st) w Q := Wp.loc e165_250 rfl rfl rfl
theorem e165_251 : decode (j_co 165) 251 = .ok (.getfield 78, 3) := by decide +kernel
set_option maxRecDepth 20000 in
theorem w165_251 {d : Nat} {st : List Value} {Q : Option Value × jW → Prop} {ls : jL} {xs : List Value} {I : fI} {L : fL} {o : Nat} (ht : f_tg o = 11) : Wp d 165 251 ls (.ref o :: st) (f_W xs I L) Q = Wp d 165 254 ls (.ref (f_rf o 32) :: st) (f_W xs I L) Q := Wp.getR (ci := 11) (k := 32) e165_251 rfl (by decide) (by decide) rfl ht
theorem e165_254 : decode (j_co 165) 254 = .ok (.iload_n 1, 1) := by decide +kernel
set_option maxRecDepth 20000 in
theorem w165_254 {d : Nat} {st : List Value} {Q : Option Value × jW → Prop} {w : jW} {a0 a2 a3 : Option Value} {x : Int32} : Wp d 165 254 [a0, some (.int x), a2, a3] (st) w Q = Wp d 165 255 [a0, some (.int x), a2, a3] (.int x :: st) w Q := Wp.loc e165_254 rfl rfl rfl
theorem e165_255 : decode (j_co 165) 255 = .ok (.iconst 1, 1) := by decide +kernel
set_option maxRecDepth 20000 in
theorem w165_255 {d : Nat} {st : List Value} {Q : Option Value × jW → Prop} {ls : jL} {w : jW} : Wp d 165 255 ls (st) w Q = Wp d 165 256 ls (.int (nI 1) :: st) w Q := Wp.alu e165_255 rfl rfl
theorem e165_256 : decode (j_co 165) 256 = .ok (.isub, 1) := by decide +kernel
set_option maxRecDepth 20000 in
theorem w165_256 {d : Nat} {st : List Value} {Q : Option Value × jW → Prop} {ls : jL} {w : jW} {a b : Int32} : Wp d 165 256 ls (.int b :: .int a :: st) w Q = Wp d 165 257 ls (.int (a - b) :: st) w Q := Wp.alu e165_256 rfl rfl
theorem e165_257 : decode (j_co 165) 257 = .ok (.iaload, 1) := by decide +kernel
set_option maxRecDepth 20000 in
theorem w165_257 {d : Nat} {st : List Value} {Q : Option Value × jW → Prop} {ls : jL} {xs : List Value} {I : fI} {L : fL} {o : Nat} {i : Int32} (ht : f_tg o = 100) (hi : ¬ (i < 0 ∨ f_ln o ≤ i.toNatClampNeg)) : Wp d 165 257 ls (.int i :: .ref o :: st) (f_W xs I L) Q = Wp d 165 258 ls (.int (I o i.toNatClampNeg) :: st) (f_W xs I L) Q := Wp.iald e165_257 ht hi
theorem e165_258 : decode (j_co 165) 258 = .ok (.ireturn, 1) := by decide +kernel
set_option maxRecDepth 20000 in
theorem w165_258 {d : Nat} {Q : Option Value × jW → Prop} {ls : jL} {w : jW} {x : Int32} : Wp d 165 258 ls [.int x] w Q = Q (some (.int x), w) := Wp.ret e165_258 rfl
/-! M.sheet -/
theorem e166_0 : decode (j_co 166) 0 = .ok (.iload_n 1, 1) := by decide +kernel
set_option maxRecDepth 20000 in
theorem w166_0 {d : Nat} {st : List Value} {Q : Option Value × jW → Prop} {w : jW} {a0 a2 a3 a4 : Option Value} {x : Int32} : Wp d 166 0 [a0, some (.int x), a2, a3, a4] (st) w Q = Wp d 166 1 [a0, some (.int x), a2, a3, a4] (.int x :: st) w Q := Wp.loc e166_0 rfl rfl rfl
theorem e166_1 : decode (j_co 166) 1 = .ok (.i2l, 1) := by decide +kernel
set_option maxRecDepth 20000 in
theorem w166_1 {d : Nat} {st : List Value} {Q : Option Value × jW → Prop} {ls : jL} {w : jW} {a : Int32} : Wp d 166 1 ls (.int a :: st) w Q = Wp d 166 2 ls (.long a.toInt64 :: st) w Q := Wp.alu e166_1 rfl rfl
theorem e166_2 : decode (j_co 166) 2 = .ok (.lconst 0, 1) := by decide +kernel
set_option maxRecDepth 20000 in
theorem w166_2 {d : Nat} {st : List Value} {Q : Option Value × jW → Prop} {ls : jL} {w : jW} : Wp d 166 2 ls (st) w Q = Wp d 166 3 ls (.long (lN 0) :: st) w Q := Wp.alu e166_2 rfl rfl
theorem e166_3 : decode (j_co 166) 3 = .ok (.ldc2_w 245, 3) := by decide +kernel
set_option maxRecDepth 20000 in
theorem w166_3 {d : Nat} {st : List Value} {Q : Option Value × jW → Prop} {ls : jL} {w : jW} : Wp d 166 3 ls (st) w Q = Wp d 166 6 ls (.long (lN 3) :: st) w Q := Wp.ldc2 e166_3 rfl
theorem e166_6 : decode (j_co 166) 6 = .ok (.invokestatic 93, 3) := by decide +kernel
set_option maxRecDepth 20000 in
theorem w166_6 {d : Nat} {st : List Value} {Q : Option Value × jW → Prop} {ls : jL} {w : jW} {x0 : Int64} {x1 : Int64} {x2 : Int64} (hs : j_sumc st ≤ 8) : Wp (d + 1) 166 6 ls (.long x2 :: .long x1 :: .long x0 :: st) w Q = Wp d 115 0 [some (.long x0), none, some (.long x1), none, some (.long x2), none] [] w (fun r1 => Wp (d + 1) 166 9 ls (r1.1.toList ++ st) r1.2 Q) := Wp.cs (kd := 1) (y' := 115) (as := [.long x0, .long x1, .long x2]) e166_6 rfl (by decide) (by decide) rfl (show 6 ≤ 6 by decide) hs
theorem e166_9 : decode (j_co 166) 9 = .ok (.ifCond .eq 21, 3) := by decide +kernel
set_option maxRecDepth 20000 in
theorem w166_9 {d : Nat} {st : List Value} {Q : Option Value × jW → Prop} {ls : jL} {w : jW} {a : Int32} : Wp d 166 9 ls (.int a :: st) w Q = ((a = nI 0 → Wp d 166 30 ls st w Q) ∧ (¬ a = nI 0 → Wp d 166 12 ls st w Q)) := Wp.if2 (c := a = nI 0) (off := 21) e166_9 rfl rfl rfl rfl rfl
theorem e166_12 : decode (j_co 166) 12 = .ok (.iload_n 2, 1) := by decide +kernel
set_option maxRecDepth 20000 in
theorem w166_12 {d : Nat} {st : List Value} {Q : Option Value × jW → Prop} {w : jW} {a0 a1 a3 a4 : Option Value} {x : Int32} : Wp d 166 12 [a0, a1, some (.int x), a3, a4] (st) w Q = Wp d 166 13 [a0, a1, some (.int x), a3, a4] (.int x :: st) w Q := Wp.loc e166_12 rfl rfl rfl
theorem e166_13 : decode (j_co 166) 13 = .ok (.i2l, 1) := by decide +kernel
set_option maxRecDepth 20000 in
theorem w166_13 {d : Nat} {st : List Value} {Q : Option Value × jW → Prop} {ls : jL} {w : jW} {a : Int32} : Wp d 166 13 ls (.int a :: st) w Q = Wp d 166 14 ls (.long a.toInt64 :: st) w Q := Wp.alu e166_13 rfl rfl
theorem e166_14 : decode (j_co 166) 14 = .ok (.lconst 0, 1) := by decide +kernel
set_option maxRecDepth 20000 in
theorem w166_14 {d : Nat} {st : List Value} {Q : Option Value × jW → Prop} {ls : jL} {w : jW} : Wp d 166 14 ls (st) w Q = Wp d 166 15 ls (.long (lN 0) :: st) w Q := Wp.alu e166_14 rfl rfl
theorem e166_15 : decode (j_co 166) 15 = .ok (.ldc2_w 100, 3) := by decide +kernel
set_option maxRecDepth 20000 in
theorem w166_15 {d : Nat} {st : List Value} {Q : Option Value × jW → Prop} {ls : jL} {w : jW} : Wp d 166 15 ls (st) w Q = Wp d 166 18 ls (.long (lN 2) :: st) w Q := Wp.ldc2 e166_15 rfl
theorem e166_18 : decode (j_co 166) 18 = .ok (.invokestatic 93, 3) := by decide +kernel
set_option maxRecDepth 20000 in
theorem w166_18 {d : Nat} {st : List Value} {Q : Option Value × jW → Prop} {ls : jL} {w : jW} {x0 : Int64} {x1 : Int64} {x2 : Int64} (hs : j_sumc st ≤ 8) : Wp (d + 1) 166 18 ls (.long x2 :: .long x1 :: .long x0 :: st) w Q = Wp d 115 0 [some (.long x0), none, some (.long x1), none, some (.long x2), none] [] w (fun r1 => Wp (d + 1) 166 21 ls (r1.1.toList ++ st) r1.2 Q) := Wp.cs (kd := 1) (y' := 115) (as := [.long x0, .long x1, .long x2]) e166_18 rfl (by decide) (by decide) rfl (show 6 ≤ 6 by decide) hs
theorem e166_21 : decode (j_co 166) 21 = .ok (.ifCond .eq 9, 3) := by decide +kernel
set_option maxRecDepth 20000 in
theorem w166_21 {d : Nat} {st : List Value} {Q : Option Value × jW → Prop} {ls : jL} {w : jW} {a : Int32} : Wp d 166 21 ls (.int a :: st) w Q = ((a = nI 0 → Wp d 166 30 ls st w Q) ∧ (¬ a = nI 0 → Wp d 166 24 ls st w Q)) := Wp.if2 (c := a = nI 0) (off := 9) e166_21 rfl rfl rfl rfl rfl
theorem e166_24 : decode (j_co 166) 24 = .ok (.iload_n 3, 1) := by decide +kernel
set_option maxRecDepth 20000 in
theorem w166_24 {d : Nat} {st : List Value} {Q : Option Value × jW → Prop} {w : jW} {a0 a1 a2 a4 : Option Value} {x : Int32} : Wp d 166 24 [a0, a1, a2, some (.int x), a4] (st) w Q = Wp d 166 25 [a0, a1, a2, some (.int x), a4] (.int x :: st) w Q := Wp.loc e166_24 rfl rfl rfl
theorem e166_25 : decode (j_co 166) 25 = .ok (.bipush 60, 2) := by decide +kernel
set_option maxRecDepth 20000 in
theorem w166_25 {d : Nat} {st : List Value} {Q : Option Value × jW → Prop} {ls : jL} {w : jW} : Wp d 166 25 ls (st) w Q = Wp d 166 27 ls (.int (nI 60) :: st) w Q := Wp.alu e166_25 rfl rfl
theorem e166_27 : decode (j_co 166) 27 = .ok (.if_icmp .le 5, 3) := by decide +kernel
set_option maxRecDepth 20000 in
theorem w166_27 {d : Nat} {st : List Value} {Q : Option Value × jW → Prop} {ls : jL} {w : jW} {a b : Int32} : Wp d 166 27 ls (.int b :: .int a :: st) w Q = ((a ≤ b → Wp d 166 32 ls st w Q) ∧ (¬ a ≤ b → Wp d 166 30 ls st w Q)) := Wp.if2 (c := a ≤ b) (off := 5) e166_27 rfl rfl rfl rfl rfl
theorem e166_30 : decode (j_co 166) 30 = .ok (.iconst (-1), 1) := by decide +kernel
set_option maxRecDepth 20000 in
theorem w166_30 {d : Nat} {st : List Value} {Q : Option Value × jW → Prop} {ls : jL} {w : jW} : Wp d 166 30 ls (st) w Q = Wp d 166 31 ls (.int (-1) :: st) w Q := Wp.alu e166_30 rfl rfl
theorem e166_31 : decode (j_co 166) 31 = .ok (.ireturn, 1) := by decide +kernel
set_option maxRecDepth 20000 in
theorem w166_31 {d : Nat} {Q : Option Value × jW → Prop} {ls : jL} {w : jW} {x : Int32} : Wp d 166 31 ls [.int x] w Q = Q (some (.int x), w) := Wp.ret e166_31 rfl
theorem e166_32 : decode (j_co 166) 32 = .ok (.iload_n 3, 1) := by decide +kernel
set_option maxRecDepth 20000 in
theorem w166_32 {d : Nat} {st : List Value} {Q : Option Value × jW → Prop} {w : jW} {a0 a1 a2 a4 : Option Value} {x : Int32} : Wp d 166 32 [a0, a1, a2, some (.int x), a4] (st) w Q = Wp d 166 33 [a0, a1, a2, some (.int x), a4] (.int x :: st) w Q := Wp.loc e166_32 rfl rfl rfl
theorem e166_33 : decode (j_co 166) 33 = .ok (.ifCond .ge 6, 3) := by decide +kernel
set_option maxRecDepth 20000 in
theorem w166_33 {d : Nat} {st : List Value} {Q : Option Value × jW → Prop} {ls : jL} {w : jW} {a : Int32} : Wp d 166 33 ls (.int a :: st) w Q = ((nI 0 ≤ a → Wp d 166 39 ls st w Q) ∧ (¬ nI 0 ≤ a → Wp d 166 36 ls st w Q)) := Wp.if2 (c := nI 0 ≤ a) (off := 6) e166_33 rfl rfl rfl rfl rfl
theorem e166_36 : decode (j_co 166) 36 = .ok (.bipush (-14), 2) := by decide +kernel
set_option maxRecDepth 20000 in
theorem w166_36 {d : Nat} {st : List Value} {Q : Option Value × jW → Prop} {ls : jL} {w : jW} : Wp d 166 36 ls (st) w Q = Wp d 166 38 ls (.int (-14) :: st) w Q := Wp.alu e166_36 rfl rfl
theorem e166_38 : decode (j_co 166) 38 = .ok (.ireturn, 1) := by decide +kernel
set_option maxRecDepth 20000 in
theorem w166_38 {d : Nat} {Q : Option Value × jW → Prop} {ls : jL} {w : jW} {x : Int32} : Wp d 166 38 ls [.int x] w Q = Q (some (.int x), w) := Wp.ret e166_38 rfl
theorem e166_39 : decode (j_co 166) 39 = .ok (.aload_n 0, 1) := by decide +kernel
set_option maxRecDepth 20000 in
theorem w166_39 {d : Nat} {st : List Value} {Q : Option Value × jW → Prop} {w : jW} {a1 a2 a3 a4 : Option Value} {x : Nat} : Wp d 166 39 [some (.ref x), a1, a2, a3, a4] (st) w Q = Wp d 166 40 [some (.ref x), a1, a2, a3, a4] (.ref x :: st) w Q := Wp.loc e166_39 rfl rfl rfl
theorem e166_40 : decode (j_co 166) 40 = .ok (.getfield 81, 3) := by decide +kernel
set_option maxRecDepth 20000 in
theorem w166_40 {d : Nat} {st : List Value} {Q : Option Value × jW → Prop} {ls : jL} {xs : List Value} {I : fI} {L : fL} {o : Nat} (ht : f_tg o = 11) : Wp d 166 40 ls (.ref o :: st) (f_W xs I L) Q = Wp d 166 43 ls (.ref (f_rf o 34) :: st) (f_W xs I L) Q := Wp.getR (ci := 11) (k := 34) e166_40 rfl (by decide) (by decide) rfl ht
theorem e166_43 : decode (j_co 166) 43 = .ok (.iload_n 1, 1) := by decide +kernel
set_option maxRecDepth 20000 in
theorem w166_43 {d : Nat} {st : List Value} {Q : Option Value × jW → Prop} {w : jW} {a0 a2 a3 a4 : Option Value} {x : Int32} : Wp d 166 43 [a0, some (.int x), a2, a3, a4] (st) w Q = Wp d 166 44 [a0, some (.int x), a2, a3, a4] (.int x :: st) w Q := Wp.loc e166_43 rfl rfl rfl
theorem e166_44 : decode (j_co 166) 44 = .ok (.iload_n 2, 1) := by decide +kernel
set_option maxRecDepth 20000 in
theorem w166_44 {d : Nat} {st : List Value} {Q : Option Value × jW → Prop} {w : jW} {a0 a1 a3 a4 : Option Value} {x : Int32} : Wp d 166 44 [a0, a1, some (.int x), a3, a4] (st) w Q = Wp d 166 45 [a0, a1, some (.int x), a3, a4] (.int x :: st) w Q := Wp.loc e166_44 rfl rfl rfl
theorem e166_45 : decode (j_co 166) 45 = .ok (.iastore, 1) := by decide +kernel
set_option maxRecDepth 20000 in
theorem w166_45 {d : Nat} {st : List Value} {Q : Option Value × jW → Prop} {ls : jL} {xs : List Value} {I : fI} {L : fL} {o : Nat} {i x : Int32} (ht : f_tg o = 100) (hi : ¬ (i < 0 ∨ f_ln o ≤ i.toNatClampNeg)) : Wp d 166 45 ls (.int x :: .int i :: .ref o :: st) (f_W xs I L) Q = Wp d 166 46 ls (st) (f_W xs (f_up I o i.toNatClampNeg x) L) Q := Wp.iast e166_45 ht hi
theorem e166_46 : decode (j_co 166) 46 = .ok (.aload_n 0, 1) := by decide +kernel
set_option maxRecDepth 20000 in
theorem w166_46 {d : Nat} {st : List Value} {Q : Option Value × jW → Prop} {w : jW} {a1 a2 a3 a4 : Option Value} {x : Nat} : Wp d 166 46 [some (.ref x), a1, a2, a3, a4] (st) w Q = Wp d 166 47 [some (.ref x), a1, a2, a3, a4] (.ref x :: st) w Q := Wp.loc e166_46 rfl rfl rfl
theorem e166_47 : decode (j_co 166) 47 = .ok (.getfield 84, 3) := by decide +kernel
set_option maxRecDepth 20000 in
theorem w166_47 {d : Nat} {st : List Value} {Q : Option Value × jW → Prop} {ls : jL} {xs : List Value} {I : fI} {L : fL} {o : Nat} (ht : f_tg o = 11) : Wp d 166 47 ls (.ref o :: st) (f_W xs I L) Q = Wp d 166 50 ls (.ref (f_rf o 35) :: st) (f_W xs I L) Q := Wp.getR (ci := 11) (k := 35) e166_47 rfl (by decide) (by decide) rfl ht
theorem e166_50 : decode (j_co 166) 50 = .ok (.iload_n 1, 1) := by decide +kernel
set_option maxRecDepth 20000 in
theorem w166_50 {d : Nat} {st : List Value} {Q : Option Value × jW → Prop} {w : jW} {a0 a2 a3 a4 : Option Value} {x : Int32} : Wp d 166 50 [a0, some (.int x), a2, a3, a4] (st) w Q = Wp d 166 51 [a0, some (.int x), a2, a3, a4] (.int x :: st) w Q := Wp.loc e166_50 rfl rfl rfl
theorem e166_51 : decode (j_co 166) 51 = .ok (.iload_n 3, 1) := by decide +kernel
set_option maxRecDepth 20000 in
theorem w166_51 {d : Nat} {st : List Value} {Q : Option Value × jW → Prop} {w : jW} {a0 a1 a2 a4 : Option Value} {x : Int32} : Wp d 166 51 [a0, a1, a2, some (.int x), a4] (st) w Q = Wp d 166 52 [a0, a1, a2, some (.int x), a4] (.int x :: st) w Q := Wp.loc e166_51 rfl rfl rfl
theorem e166_52 : decode (j_co 166) 52 = .ok (.iastore, 1) := by decide +kernel
set_option maxRecDepth 20000 in
theorem w166_52 {d : Nat} {st : List Value} {Q : Option Value × jW → Prop} {ls : jL} {xs : List Value} {I : fI} {L : fL} {o : Nat} {i x : Int32} (ht : f_tg o = 100) (hi : ¬ (i < 0 ∨ f_ln o ≤ i.toNatClampNeg)) : Wp d 166 52 ls (.int x :: .int i :: .ref o :: st) (f_W xs I L) Q = Wp d 166 53 ls (st) (f_W xs (f_up I o i.toNatClampNeg x) L) Q := Wp.iast e166_52 ht hi
theorem e166_53 : decode (j_co 166) 53 = .ok (.iconst 0, 1) := by decide +kernel
set_option maxRecDepth 20000 in
theorem w166_53 {d : Nat} {st : List Value} {Q : Option Value × jW → Prop} {ls : jL} {w : jW} : Wp d 166 53 ls (st) w Q = Wp d 166 54 ls (.int (nI 0) :: st) w Q := Wp.alu e166_53 rfl rfl
theorem e166_54 : decode (j_co 166) 54 = .ok (.istore 4, 2) := by decide +kernel
set_option maxRecDepth 20000 in
theorem w166_54 {d : Nat} {st : List Value} {Q : Option Value × jW → Prop} {w : jW} {a0 a1 a2 a3 a4 : Option Value} {x : Int32} (h : j_cp a3) : Wp d 166 54 [a0, a1, a2, a3, a4] (.int x :: st) w Q = Wp d 166 56 [a0, a1, a2, a3, some (.int x)] (st) w Q := Wp.loc e166_54 rfl rfl (v_stI (ls := [a0, a1, a2, a3, a4]) (k := 4) (show 4 < 5 by decide) h)
theorem e166_56 : decode (j_co 166) 56 = .ok (.iload 4, 2) := by decide +kernel
set_option maxRecDepth 20000 in
theorem w166_56 {d : Nat} {st : List Value} {Q : Option Value × jW → Prop} {w : jW} {a0 a1 a2 a3 : Option Value} {x : Int32} : Wp d 166 56 [a0, a1, a2, a3, some (.int x)] (st) w Q = Wp d 166 58 [a0, a1, a2, a3, some (.int x)] (.int x :: st) w Q := Wp.loc e166_56 rfl rfl rfl
theorem e166_58 : decode (j_co 166) 58 = .ok (.bipush 60, 2) := by decide +kernel
set_option maxRecDepth 20000 in
theorem w166_58 {d : Nat} {st : List Value} {Q : Option Value × jW → Prop} {ls : jL} {w : jW} : Wp d 166 58 ls (st) w Q = Wp d 166 60 ls (.int (nI 60) :: st) w Q := Wp.alu e166_58 rfl rfl
theorem e166_60 : decode (j_co 166) 60 = .ok (.if_icmp .ge 22, 3) := by decide +kernel
set_option maxRecDepth 20000 in
theorem w166_60 {d : Nat} {st : List Value} {Q : Option Value × jW → Prop} {ls : jL} {w : jW} {a b : Int32} : Wp d 166 60 ls (.int b :: .int a :: st) w Q = ((b ≤ a → Wp d 166 82 ls st w Q) ∧ (¬ b ≤ a → Wp d 166 63 ls st w Q)) := Wp.if2 (c := b ≤ a) (off := 22) e166_60 rfl rfl rfl rfl rfl
theorem e166_63 : decode (j_co 166) 63 = .ok (.aload_n 0, 1) := by decide +kernel
set_option maxRecDepth 20000 in
theorem w166_63 {d : Nat} {st : List Value} {Q : Option Value × jW → Prop} {w : jW} {a1 a2 a3 a4 : Option Value} {x : Nat} : Wp d 166 63 [some (.ref x), a1, a2, a3, a4] (st) w Q = Wp d 166 64 [some (.ref x), a1, a2, a3, a4] (.ref x :: st) w Q := Wp.loc e166_63 rfl rfl rfl
theorem e166_64 : decode (j_co 166) 64 = .ok (.getfield 87, 3) := by decide +kernel
set_option maxRecDepth 20000 in
theorem w166_64 {d : Nat} {st : List Value} {Q : Option Value × jW → Prop} {ls : jL} {xs : List Value} {I : fI} {L : fL} {o : Nat} (ht : f_tg o = 11) : Wp d 166 64 ls (.ref o :: st) (f_W xs I L) Q = Wp d 166 67 ls (.ref (f_rf o 36) :: st) (f_W xs I L) Q := Wp.getR (ci := 11) (k := 36) e166_64 rfl (by decide) (by decide) rfl ht
theorem e166_67 : decode (j_co 166) 67 = .ok (.bipush 60, 2) := by decide +kernel
set_option maxRecDepth 20000 in
theorem w166_67 {d : Nat} {st : List Value} {Q : Option Value × jW → Prop} {ls : jL} {w : jW} : Wp d 166 67 ls (st) w Q = Wp d 166 69 ls (.int (nI 60) :: st) w Q := Wp.alu e166_67 rfl rfl
theorem e166_69 : decode (j_co 166) 69 = .ok (.iload_n 1, 1) := by decide +kernel
set_option maxRecDepth 20000 in
theorem w166_69 {d : Nat} {st : List Value} {Q : Option Value × jW → Prop} {w : jW} {a0 a2 a3 a4 : Option Value} {x : Int32} : Wp d 166 69 [a0, some (.int x), a2, a3, a4] (st) w Q = Wp d 166 70 [a0, some (.int x), a2, a3, a4] (.int x :: st) w Q := Wp.loc e166_69 rfl rfl rfl
theorem e166_70 : decode (j_co 166) 70 = .ok (.imul, 1) := by decide +kernel
set_option maxRecDepth 20000 in
theorem w166_70 {d : Nat} {st : List Value} {Q : Option Value × jW → Prop} {ls : jL} {w : jW} {a b : Int32} : Wp d 166 70 ls (.int b :: .int a :: st) w Q = Wp d 166 71 ls (.int (a * b) :: st) w Q := Wp.alu e166_70 rfl rfl
theorem e166_71 : decode (j_co 166) 71 = .ok (.iload 4, 2) := by decide +kernel
set_option maxRecDepth 20000 in
theorem w166_71 {d : Nat} {st : List Value} {Q : Option Value × jW → Prop} {w : jW} {a0 a1 a2 a3 : Option Value} {x : Int32} : Wp d 166 71 [a0, a1, a2, a3, some (.int x)] (st) w Q = Wp d 166 73 [a0, a1, a2, a3, some (.int x)] (.int x :: st) w Q := Wp.loc e166_71 rfl rfl rfl
theorem e166_73 : decode (j_co 166) 73 = .ok (.iadd, 1) := by decide +kernel
set_option maxRecDepth 20000 in
theorem w166_73 {d : Nat} {st : List Value} {Q : Option Value × jW → Prop} {ls : jL} {w : jW} {a b : Int32} : Wp d 166 73 ls (.int b :: .int a :: st) w Q = Wp d 166 74 ls (.int (a + b) :: st) w Q := Wp.alu e166_73 rfl rfl
theorem e166_74 : decode (j_co 166) 74 = .ok (.iconst 0, 1) := by decide +kernel
set_option maxRecDepth 20000 in
theorem w166_74 {d : Nat} {st : List Value} {Q : Option Value × jW → Prop} {ls : jL} {w : jW} : Wp d 166 74 ls (st) w Q = Wp d 166 75 ls (.int (nI 0) :: st) w Q := Wp.alu e166_74 rfl rfl
theorem e166_75 : decode (j_co 166) 75 = .ok (.iastore, 1) := by decide +kernel
set_option maxRecDepth 20000 in
theorem w166_75 {d : Nat} {st : List Value} {Q : Option Value × jW → Prop} {ls : jL} {xs : List Value} {I : fI} {L : fL} {o : Nat} {i x : Int32} (ht : f_tg o = 100) (hi : ¬ (i < 0 ∨ f_ln o ≤ i.toNatClampNeg)) : Wp d 166 75 ls (.int x :: .int i :: .ref o :: st) (f_W xs I L) Q = Wp d 166 76 ls (st) (f_W xs (f_up I o i.toNatClampNeg x) L) Q := Wp.iast e166_75 ht hi
theorem e166_76 : decode (j_co 166) 76 = .ok (.iinc 4 1, 3) := by decide +kernel
set_option maxRecDepth 20000 in
theorem w166_76 {d : Nat} {st : List Value} {Q : Option Value × jW → Prop} {w : jW} {a0 a1 a2 a3 : Option Value} {x : Int32} (h : j_cp a3) : Wp d 166 76 [a0, a1, a2, a3, some (.int x)] (st) w Q = Wp d 166 79 [a0, a1, a2, a3, some (.int (x + nI 1))] (st) w Q := Wp.loc e166_76 rfl rfl (v_inc (ls := [a0, a1, a2, a3, some (.int x)]) (k := 4) (n := 1) rfl (show 4 < 5 by decide) h)
theorem e166_79 : decode (j_co 166) 79 = .ok (.goto (-23), 3) := by decide +kernel
set_option maxRecDepth 20000 in
theorem w166_79 {d : Nat} {st : List Value} {Q : Option Value × jW → Prop} {ls : jL} {w : jW} : Wp d 166 79 ls (st) w Q = Wp d 166 56 ls (st) w Q := Wp.br e166_79 (Or.inl rfl) rfl rfl rfl rfl
theorem e166_82 : decode (j_co 166) 82 = .ok (.iconst 1, 1) := by decide +kernel
set_option maxRecDepth 20000 in
theorem w166_82 {d : Nat} {st : List Value} {Q : Option Value × jW → Prop} {ls : jL} {w : jW} : Wp d 166 82 ls (st) w Q = Wp d 166 83 ls (.int (nI 1) :: st) w Q := Wp.alu e166_82 rfl rfl
theorem e166_83 : decode (j_co 166) 83 = .ok (.ireturn, 1) := by decide +kernel
set_option maxRecDepth 20000 in
theorem w166_83 {d : Nat} {Q : Option Value × jW → Prop} {ls : jL} {w : jW} {x : Int32} : Wp d 166 83 ls [.int x] w Q = Q (some (.int x), w) := Wp.ret e166_83 rfl
/-! M.lay -/
theorem e167_0 : decode (j_co 167) 0 = .ok (.iload_n 1, 1) := by decide +kernel
set_option maxRecDepth 20000 in
theorem w167_0 {d : Nat} {st : List Value} {Q : Option Value × jW → Prop} {w : jW} {a0 a2 a3 : Option Value} {x : Int32} : Wp d 167 0 [a0, some (.int x), a2, a3] (st) w Q = Wp d 167 1 [a0, some (.int x), a2, a3] (.int x :: st) w Q := Wp.loc e167_0 rfl rfl rfl
theorem e167_1 : decode (j_co 167) 1 = .ok (.i2l, 1) := by decide +kernel
set_option maxRecDepth 20000 in
theorem w167_1 {d : Nat} {st : List Value} {Q : Option Value × jW → Prop} {ls : jL} {w : jW} {a : Int32} : Wp d 167 1 ls (.int a :: st) w Q = Wp d 167 2 ls (.long a.toInt64 :: st) w Q := Wp.alu e167_1 rfl rfl
theorem e167_2 : decode (j_co 167) 2 = .ok (.lconst 0, 1) := by decide +kernel
set_option maxRecDepth 20000 in
theorem w167_2 {d : Nat} {st : List Value} {Q : Option Value × jW → Prop} {ls : jL} {w : jW} : Wp d 167 2 ls (st) w Q = Wp d 167 3 ls (.long (lN 0) :: st) w Q := Wp.alu e167_2 rfl rfl
theorem e167_3 : decode (j_co 167) 3 = .ok (.ldc2_w 245, 3) := by decide +kernel
set_option maxRecDepth 20000 in
theorem w167_3 {d : Nat} {st : List Value} {Q : Option Value × jW → Prop} {ls : jL} {w : jW} : Wp d 167 3 ls (st) w Q = Wp d 167 6 ls (.long (lN 3) :: st) w Q := Wp.ldc2 e167_3 rfl
theorem e167_6 : decode (j_co 167) 6 = .ok (.invokestatic 93, 3) := by decide +kernel
set_option maxRecDepth 20000 in
theorem w167_6 {d : Nat} {st : List Value} {Q : Option Value × jW → Prop} {ls : jL} {w : jW} {x0 : Int64} {x1 : Int64} {x2 : Int64} (hs : j_sumc st ≤ 8) : Wp (d + 1) 167 6 ls (.long x2 :: .long x1 :: .long x0 :: st) w Q = Wp d 115 0 [some (.long x0), none, some (.long x1), none, some (.long x2), none] [] w (fun r1 => Wp (d + 1) 167 9 ls (r1.1.toList ++ st) r1.2 Q) := Wp.cs (kd := 1) (y' := 115) (as := [.long x0, .long x1, .long x2]) e167_6 rfl (by decide) (by decide) rfl (show 6 ≤ 6 by decide) hs
theorem e167_9 : decode (j_co 167) 9 = .ok (.ifCond .ne 5, 3) := by decide +kernel
set_option maxRecDepth 20000 in
theorem w167_9 {d : Nat} {st : List Value} {Q : Option Value × jW → Prop} {ls : jL} {w : jW} {a : Int32} : Wp d 167 9 ls (.int a :: st) w Q = ((a = nI 0 → Wp d 167 12 ls st w Q) ∧ (¬ a = nI 0 → Wp d 167 14 ls st w Q)) := Wp.if2n (c := a = nI 0) (off := 5) e167_9 rfl rfl rfl rfl rfl
theorem e167_12 : decode (j_co 167) 12 = .ok (.iconst (-1), 1) := by decide +kernel
set_option maxRecDepth 20000 in
theorem w167_12 {d : Nat} {st : List Value} {Q : Option Value × jW → Prop} {ls : jL} {w : jW} : Wp d 167 12 ls (st) w Q = Wp d 167 13 ls (.int (-1) :: st) w Q := Wp.alu e167_12 rfl rfl
theorem e167_13 : decode (j_co 167) 13 = .ok (.ireturn, 1) := by decide +kernel
set_option maxRecDepth 20000 in
theorem w167_13 {d : Nat} {Q : Option Value × jW → Prop} {ls : jL} {w : jW} {x : Int32} : Wp d 167 13 ls [.int x] w Q = Q (some (.int x), w) := Wp.ret e167_13 rfl
theorem e167_14 : decode (j_co 167) 14 = .ok (.aload_n 0, 1) := by decide +kernel
set_option maxRecDepth 20000 in
theorem w167_14 {d : Nat} {st : List Value} {Q : Option Value × jW → Prop} {w : jW} {a1 a2 a3 : Option Value} {x : Nat} : Wp d 167 14 [some (.ref x), a1, a2, a3] (st) w Q = Wp d 167 15 [some (.ref x), a1, a2, a3] (.ref x :: st) w Q := Wp.loc e167_14 rfl rfl rfl
theorem e167_15 : decode (j_co 167) 15 = .ok (.getfield 81, 3) := by decide +kernel
set_option maxRecDepth 20000 in
theorem w167_15 {d : Nat} {st : List Value} {Q : Option Value × jW → Prop} {ls : jL} {xs : List Value} {I : fI} {L : fL} {o : Nat} (ht : f_tg o = 11) : Wp d 167 15 ls (.ref o :: st) (f_W xs I L) Q = Wp d 167 18 ls (.ref (f_rf o 34) :: st) (f_W xs I L) Q := Wp.getR (ci := 11) (k := 34) e167_15 rfl (by decide) (by decide) rfl ht
theorem e167_18 : decode (j_co 167) 18 = .ok (.iload_n 1, 1) := by decide +kernel
set_option maxRecDepth 20000 in
theorem w167_18 {d : Nat} {st : List Value} {Q : Option Value × jW → Prop} {w : jW} {a0 a2 a3 : Option Value} {x : Int32} : Wp d 167 18 [a0, some (.int x), a2, a3] (st) w Q = Wp d 167 19 [a0, some (.int x), a2, a3] (.int x :: st) w Q := Wp.loc e167_18 rfl rfl rfl
theorem e167_19 : decode (j_co 167) 19 = .ok (.iaload, 1) := by decide +kernel
set_option maxRecDepth 20000 in
theorem w167_19 {d : Nat} {st : List Value} {Q : Option Value × jW → Prop} {ls : jL} {xs : List Value} {I : fI} {L : fL} {o : Nat} {i : Int32} (ht : f_tg o = 100) (hi : ¬ (i < 0 ∨ f_ln o ≤ i.toNatClampNeg)) : Wp d 167 19 ls (.int i :: .ref o :: st) (f_W xs I L) Q = Wp d 167 20 ls (.int (I o i.toNatClampNeg) :: st) (f_W xs I L) Q := Wp.iald e167_19 ht hi
theorem e167_20 : decode (j_co 167) 20 = .ok (.bipush (-4), 2) := by decide +kernel
set_option maxRecDepth 20000 in
theorem w167_20 {d : Nat} {st : List Value} {Q : Option Value × jW → Prop} {ls : jL} {w : jW} : Wp d 167 20 ls (st) w Q = Wp d 167 22 ls (.int (-4) :: st) w Q := Wp.alu e167_20 rfl rfl
theorem e167_22 : decode (j_co 167) 22 = .ok (.if_icmp .ne 6, 3) := by decide +kernel
set_option maxRecDepth 20000 in
theorem w167_22 {d : Nat} {st : List Value} {Q : Option Value × jW → Prop} {ls : jL} {w : jW} {a b : Int32} : Wp d 167 22 ls (.int b :: .int a :: st) w Q = ((a = b → Wp d 167 25 ls st w Q) ∧ (¬ a = b → Wp d 167 28 ls st w Q)) := Wp.if2n (c := a = b) (off := 6) e167_22 rfl rfl rfl rfl rfl
theorem e167_25 : decode (j_co 167) 25 = .ok (.bipush (-11), 2) := by decide +kernel
set_option maxRecDepth 20000 in
theorem w167_25 {d : Nat} {st : List Value} {Q : Option Value × jW → Prop} {ls : jL} {w : jW} : Wp d 167 25 ls (st) w Q = Wp d 167 27 ls (.int (-11) :: st) w Q := Wp.alu e167_25 rfl rfl
theorem e167_27 : decode (j_co 167) 27 = .ok (.ireturn, 1) := by decide +kernel
set_option maxRecDepth 20000 in
theorem w167_27 {d : Nat} {Q : Option Value × jW → Prop} {ls : jL} {w : jW} {x : Int32} : Wp d 167 27 ls [.int x] w Q = Q (some (.int x), w) := Wp.ret e167_27 rfl
theorem e167_28 : decode (j_co 167) 28 = .ok (.iload_n 2, 1) := by decide +kernel
set_option maxRecDepth 20000 in
theorem w167_28 {d : Nat} {st : List Value} {Q : Option Value × jW → Prop} {w : jW} {a0 a1 a3 : Option Value} {x : Int32} : Wp d 167 28 [a0, a1, some (.int x), a3] (st) w Q = Wp d 167 29 [a0, a1, some (.int x), a3] (.int x :: st) w Q := Wp.loc e167_28 rfl rfl rfl
theorem e167_29 : decode (j_co 167) 29 = .ok (.i2l, 1) := by decide +kernel
set_option maxRecDepth 20000 in
theorem w167_29 {d : Nat} {st : List Value} {Q : Option Value × jW → Prop} {ls : jL} {w : jW} {a : Int32} : Wp d 167 29 ls (.int a :: st) w Q = Wp d 167 30 ls (.long a.toInt64 :: st) w Q := Wp.alu e167_29 rfl rfl
theorem e167_30 : decode (j_co 167) 30 = .ok (.lconst 0, 1) := by decide +kernel
set_option maxRecDepth 20000 in
theorem w167_30 {d : Nat} {st : List Value} {Q : Option Value × jW → Prop} {ls : jL} {w : jW} : Wp d 167 30 ls (st) w Q = Wp d 167 31 ls (.long (lN 0) :: st) w Q := Wp.alu e167_30 rfl rfl
theorem e167_31 : decode (j_co 167) 31 = .ok (.aload_n 0, 1) := by decide +kernel
set_option maxRecDepth 20000 in
theorem w167_31 {d : Nat} {st : List Value} {Q : Option Value × jW → Prop} {w : jW} {a1 a2 a3 : Option Value} {x : Nat} : Wp d 167 31 [some (.ref x), a1, a2, a3] (st) w Q = Wp d 167 32 [some (.ref x), a1, a2, a3] (.ref x :: st) w Q := Wp.loc e167_31 rfl rfl rfl
theorem e167_32 : decode (j_co 167) 32 = .ok (.getfield 84, 3) := by decide +kernel
set_option maxRecDepth 20000 in
theorem w167_32 {d : Nat} {st : List Value} {Q : Option Value × jW → Prop} {ls : jL} {xs : List Value} {I : fI} {L : fL} {o : Nat} (ht : f_tg o = 11) : Wp d 167 32 ls (.ref o :: st) (f_W xs I L) Q = Wp d 167 35 ls (.ref (f_rf o 35) :: st) (f_W xs I L) Q := Wp.getR (ci := 11) (k := 35) e167_32 rfl (by decide) (by decide) rfl ht
theorem e167_35 : decode (j_co 167) 35 = .ok (.iload_n 1, 1) := by decide +kernel
set_option maxRecDepth 20000 in
theorem w167_35 {d : Nat} {st : List Value} {Q : Option Value × jW → Prop} {w : jW} {a0 a2 a3 : Option Value} {x : Int32} : Wp d 167 35 [a0, some (.int x), a2, a3] (st) w Q = Wp d 167 36 [a0, some (.int x), a2, a3] (.int x :: st) w Q := Wp.loc e167_35 rfl rfl rfl
theorem e167_36 : decode (j_co 167) 36 = .ok (.iaload, 1) := by decide +kernel
set_option maxRecDepth 20000 in
theorem w167_36 {d : Nat} {st : List Value} {Q : Option Value × jW → Prop} {ls : jL} {xs : List Value} {I : fI} {L : fL} {o : Nat} {i : Int32} (ht : f_tg o = 100) (hi : ¬ (i < 0 ∨ f_ln o ≤ i.toNatClampNeg)) : Wp d 167 36 ls (.int i :: .ref o :: st) (f_W xs I L) Q = Wp d 167 37 ls (.int (I o i.toNatClampNeg) :: st) (f_W xs I L) Q := Wp.iald e167_36 ht hi
theorem e167_37 : decode (j_co 167) 37 = .ok (.iconst 1, 1) := by decide +kernel
set_option maxRecDepth 20000 in
theorem w167_37 {d : Nat} {st : List Value} {Q : Option Value × jW → Prop} {ls : jL} {w : jW} : Wp d 167 37 ls (st) w Q = Wp d 167 38 ls (.int (nI 1) :: st) w Q := Wp.alu e167_37 rfl rfl
theorem e167_38 : decode (j_co 167) 38 = .ok (.isub, 1) := by decide +kernel
set_option maxRecDepth 20000 in
theorem w167_38 {d : Nat} {st : List Value} {Q : Option Value × jW → Prop} {ls : jL} {w : jW} {a b : Int32} : Wp d 167 38 ls (.int b :: .int a :: st) w Q = Wp d 167 39 ls (.int (a - b) :: st) w Q := Wp.alu e167_38 rfl rfl
theorem e167_39 : decode (j_co 167) 39 = .ok (.i2l, 1) := by decide +kernel
set_option maxRecDepth 20000 in
theorem w167_39 {d : Nat} {st : List Value} {Q : Option Value × jW → Prop} {ls : jL} {w : jW} {a : Int32} : Wp d 167 39 ls (.int a :: st) w Q = Wp d 167 40 ls (.long a.toInt64 :: st) w Q := Wp.alu e167_39 rfl rfl
theorem e167_40 : decode (j_co 167) 40 = .ok (.invokestatic 93, 3) := by decide +kernel
set_option maxRecDepth 20000 in
theorem w167_40 {d : Nat} {st : List Value} {Q : Option Value × jW → Prop} {ls : jL} {w : jW} {x0 : Int64} {x1 : Int64} {x2 : Int64} (hs : j_sumc st ≤ 8) : Wp (d + 1) 167 40 ls (.long x2 :: .long x1 :: .long x0 :: st) w Q = Wp d 115 0 [some (.long x0), none, some (.long x1), none, some (.long x2), none] [] w (fun r1 => Wp (d + 1) 167 43 ls (r1.1.toList ++ st) r1.2 Q) := Wp.cs (kd := 1) (y' := 115) (as := [.long x0, .long x1, .long x2]) e167_40 rfl (by decide) (by decide) rfl (show 6 ≤ 6 by decide) hs
theorem e167_43 : decode (j_co 167) 43 = .ok (.ifCond .ne 6, 3) := by decide +kernel
set_option maxRecDepth 20000 in
theorem w167_43 {d : Nat} {st : List Value} {Q : Option Value × jW → Prop} {ls : jL} {w : jW} {a : Int32} : Wp d 167 43 ls (.int a :: st) w Q = ((a = nI 0 → Wp d 167 46 ls st w Q) ∧ (¬ a = nI 0 → Wp d 167 49 ls st w Q)) := Wp.if2n (c := a = nI 0) (off := 6) e167_43 rfl rfl rfl rfl rfl
theorem e167_46 : decode (j_co 167) 46 = .ok (.bipush (-12), 2) := by decide +kernel
set_option maxRecDepth 20000 in
theorem w167_46 {d : Nat} {st : List Value} {Q : Option Value × jW → Prop} {ls : jL} {w : jW} : Wp d 167 46 ls (st) w Q = Wp d 167 48 ls (.int (-12) :: st) w Q := Wp.alu e167_46 rfl rfl
theorem e167_48 : decode (j_co 167) 48 = .ok (.ireturn, 1) := by decide +kernel
set_option maxRecDepth 20000 in
theorem w167_48 {d : Nat} {Q : Option Value × jW → Prop} {ls : jL} {w : jW} {x : Int32} : Wp d 167 48 ls [.int x] w Q = Q (some (.int x), w) := Wp.ret e167_48 rfl
theorem e167_49 : decode (j_co 167) 49 = .ok (.aload_n 0, 1) := by decide +kernel
set_option maxRecDepth 20000 in
theorem w167_49 {d : Nat} {st : List Value} {Q : Option Value × jW → Prop} {w : jW} {a1 a2 a3 : Option Value} {x : Nat} : Wp d 167 49 [some (.ref x), a1, a2, a3] (st) w Q = Wp d 167 50 [some (.ref x), a1, a2, a3] (.ref x :: st) w Q := Wp.loc e167_49 rfl rfl rfl
theorem e167_50 : decode (j_co 167) 50 = .ok (.getfield 87, 3) := by decide +kernel
set_option maxRecDepth 20000 in
theorem w167_50 {d : Nat} {st : List Value} {Q : Option Value × jW → Prop} {ls : jL} {xs : List Value} {I : fI} {L : fL} {o : Nat} (ht : f_tg o = 11) : Wp d 167 50 ls (.ref o :: st) (f_W xs I L) Q = Wp d 167 53 ls (.ref (f_rf o 36) :: st) (f_W xs I L) Q := Wp.getR (ci := 11) (k := 36) e167_50 rfl (by decide) (by decide) rfl ht
theorem e167_53 : decode (j_co 167) 53 = .ok (.bipush 60, 2) := by decide +kernel
set_option maxRecDepth 20000 in
theorem w167_53 {d : Nat} {st : List Value} {Q : Option Value × jW → Prop} {ls : jL} {w : jW} : Wp d 167 53 ls (st) w Q = Wp d 167 55 ls (.int (nI 60) :: st) w Q := Wp.alu e167_53 rfl rfl
theorem e167_55 : decode (j_co 167) 55 = .ok (.iload_n 1, 1) := by decide +kernel
set_option maxRecDepth 20000 in
theorem w167_55 {d : Nat} {st : List Value} {Q : Option Value × jW → Prop} {w : jW} {a0 a2 a3 : Option Value} {x : Int32} : Wp d 167 55 [a0, some (.int x), a2, a3] (st) w Q = Wp d 167 56 [a0, some (.int x), a2, a3] (.int x :: st) w Q := Wp.loc e167_55 rfl rfl rfl
theorem e167_56 : decode (j_co 167) 56 = .ok (.imul, 1) := by decide +kernel
set_option maxRecDepth 20000 in
theorem w167_56 {d : Nat} {st : List Value} {Q : Option Value × jW → Prop} {ls : jL} {w : jW} {a b : Int32} : Wp d 167 56 ls (.int b :: .int a :: st) w Q = Wp d 167 57 ls (.int (a * b) :: st) w Q := Wp.alu e167_56 rfl rfl
theorem e167_57 : decode (j_co 167) 57 = .ok (.iload_n 2, 1) := by decide +kernel
set_option maxRecDepth 20000 in
theorem w167_57 {d : Nat} {st : List Value} {Q : Option Value × jW → Prop} {w : jW} {a0 a1 a3 : Option Value} {x : Int32} : Wp d 167 57 [a0, a1, some (.int x), a3] (st) w Q = Wp d 167 58 [a0, a1, some (.int x), a3] (.int x :: st) w Q := Wp.loc e167_57 rfl rfl rfl
theorem e167_58 : decode (j_co 167) 58 = .ok (.iadd, 1) := by decide +kernel
set_option maxRecDepth 20000 in
theorem w167_58 {d : Nat} {st : List Value} {Q : Option Value × jW → Prop} {ls : jL} {w : jW} {a b : Int32} : Wp d 167 58 ls (.int b :: .int a :: st) w Q = Wp d 167 59 ls (.int (a + b) :: st) w Q := Wp.alu e167_58 rfl rfl
theorem e167_59 : decode (j_co 167) 59 = .ok (.aload_n 0, 1) := by decide +kernel
set_option maxRecDepth 20000 in
theorem w167_59 {d : Nat} {st : List Value} {Q : Option Value × jW → Prop} {w : jW} {a1 a2 a3 : Option Value} {x : Nat} : Wp d 167 59 [some (.ref x), a1, a2, a3] (st) w Q = Wp d 167 60 [some (.ref x), a1, a2, a3] (.ref x :: st) w Q := Wp.loc e167_59 rfl rfl rfl
theorem e167_60 : decode (j_co 167) 60 = .ok (.getfield 81, 3) := by decide +kernel
set_option maxRecDepth 20000 in
theorem w167_60 {d : Nat} {st : List Value} {Q : Option Value × jW → Prop} {ls : jL} {xs : List Value} {I : fI} {L : fL} {o : Nat} (ht : f_tg o = 11) : Wp d 167 60 ls (.ref o :: st) (f_W xs I L) Q = Wp d 167 63 ls (.ref (f_rf o 34) :: st) (f_W xs I L) Q := Wp.getR (ci := 11) (k := 34) e167_60 rfl (by decide) (by decide) rfl ht
theorem e167_63 : decode (j_co 167) 63 = .ok (.iload_n 1, 1) := by decide +kernel
set_option maxRecDepth 20000 in
theorem w167_63 {d : Nat} {st : List Value} {Q : Option Value × jW → Prop} {w : jW} {a0 a2 a3 : Option Value} {x : Int32} : Wp d 167 63 [a0, some (.int x), a2, a3] (st) w Q = Wp d 167 64 [a0, some (.int x), a2, a3] (.int x :: st) w Q := Wp.loc e167_63 rfl rfl rfl
theorem e167_64 : decode (j_co 167) 64 = .ok (.iaload, 1) := by decide +kernel
set_option maxRecDepth 20000 in
theorem w167_64 {d : Nat} {st : List Value} {Q : Option Value × jW → Prop} {ls : jL} {xs : List Value} {I : fI} {L : fL} {o : Nat} {i : Int32} (ht : f_tg o = 100) (hi : ¬ (i < 0 ∨ f_ln o ≤ i.toNatClampNeg)) : Wp d 167 64 ls (.int i :: .ref o :: st) (f_W xs I L) Q = Wp d 167 65 ls (.int (I o i.toNatClampNeg) :: st) (f_W xs I L) Q := Wp.iald e167_64 ht hi
theorem e167_65 : decode (j_co 167) 65 = .ok (.ifCond .ne 13, 3) := by decide +kernel
set_option maxRecDepth 20000 in
theorem w167_65 {d : Nat} {st : List Value} {Q : Option Value × jW → Prop} {ls : jL} {w : jW} {a : Int32} : Wp d 167 65 ls (.int a :: st) w Q = ((a = nI 0 → Wp d 167 68 ls st w Q) ∧ (¬ a = nI 0 → Wp d 167 78 ls st w Q)) := Wp.if2n (c := a = nI 0) (off := 13) e167_65 rfl rfl rfl rfl rfl
theorem e167_68 : decode (j_co 167) 68 = .ok (.iload_n 3, 1) := by decide +kernel
set_option maxRecDepth 20000 in
theorem w167_68 {d : Nat} {st : List Value} {Q : Option Value × jW → Prop} {w : jW} {a0 a1 a2 : Option Value} {x : Int32} : Wp d 167 68 [a0, a1, a2, some (.int x)] (st) w Q = Wp d 167 69 [a0, a1, a2, some (.int x)] (.int x :: st) w Q := Wp.loc e167_68 rfl rfl rfl
theorem e167_69 : decode (j_co 167) 69 = .ok (.bipush 24, 2) := by decide +kernel
set_option maxRecDepth 20000 in
theorem w167_69 {d : Nat} {st : List Value} {Q : Option Value × jW → Prop} {ls : jL} {w : jW} : Wp d 167 69 ls (st) w Q = Wp d 167 71 ls (.int (nI 24) :: st) w Q := Wp.alu e167_69 rfl rfl
theorem e167_71 : decode (j_co 167) 71 = .ok (.ishl, 1) := by decide +kernel
set_option maxRecDepth 20000 in
theorem w167_71 {d : Nat} {st : List Value} {Q : Option Value × jW → Prop} {ls : jL} {w : jW} {a b : Int32} : Wp d 167 71 ls (.int b :: .int a :: st) w Q = Wp d 167 72 ls (.int (a <<< (b &&& 31)) :: st) w Q := Wp.alu e167_71 rfl rfl
theorem e167_72 : decode (j_co 167) 72 = .ok (.bipush 24, 2) := by decide +kernel
set_option maxRecDepth 20000 in
theorem w167_72 {d : Nat} {st : List Value} {Q : Option Value × jW → Prop} {ls : jL} {w : jW} : Wp d 167 72 ls (st) w Q = Wp d 167 74 ls (.int (nI 24) :: st) w Q := Wp.alu e167_72 rfl rfl
theorem e167_74 : decode (j_co 167) 74 = .ok (.ishr, 1) := by decide +kernel
set_option maxRecDepth 20000 in
theorem w167_74 {d : Nat} {st : List Value} {Q : Option Value × jW → Prop} {ls : jL} {w : jW} {a b : Int32} : Wp d 167 74 ls (.int b :: .int a :: st) w Q = Wp d 167 75 ls (.int (a >>> (b &&& 31)) :: st) w Q := Wp.alu e167_74 rfl rfl
theorem e167_75 : decode (j_co 167) 75 = .ok (.goto 24, 3) := by decide +kernel
set_option maxRecDepth 20000 in
theorem w167_75 {d : Nat} {st : List Value} {Q : Option Value × jW → Prop} {ls : jL} {w : jW} : Wp d 167 75 ls (st) w Q = Wp d 167 99 ls (st) w Q := Wp.br e167_75 (Or.inl rfl) rfl rfl rfl rfl
theorem e167_78 : decode (j_co 167) 78 = .ok (.aload_n 0, 1) := by decide +kernel
set_option maxRecDepth 20000 in
theorem w167_78 {d : Nat} {st : List Value} {Q : Option Value × jW → Prop} {w : jW} {a1 a2 a3 : Option Value} {x : Nat} : Wp d 167 78 [some (.ref x), a1, a2, a3] (st) w Q = Wp d 167 79 [some (.ref x), a1, a2, a3] (.ref x :: st) w Q := Wp.loc e167_78 rfl rfl rfl
theorem e167_79 : decode (j_co 167) 79 = .ok (.getfield 81, 3) := by decide +kernel
set_option maxRecDepth 20000 in
theorem w167_79 {d : Nat} {st : List Value} {Q : Option Value × jW → Prop} {ls : jL} {xs : List Value} {I : fI} {L : fL} {o : Nat} (ht : f_tg o = 11) : Wp d 167 79 ls (.ref o :: st) (f_W xs I L) Q = Wp d 167 82 ls (.ref (f_rf o 34) :: st) (f_W xs I L) Q := Wp.getR (ci := 11) (k := 34) e167_79 rfl (by decide) (by decide) rfl ht
theorem e167_82 : decode (j_co 167) 82 = .ok (.iload_n 1, 1) := by decide +kernel
set_option maxRecDepth 20000 in
theorem w167_82 {d : Nat} {st : List Value} {Q : Option Value × jW → Prop} {w : jW} {a0 a2 a3 : Option Value} {x : Int32} : Wp d 167 82 [a0, some (.int x), a2, a3] (st) w Q = Wp d 167 83 [a0, some (.int x), a2, a3] (.int x :: st) w Q := Wp.loc e167_82 rfl rfl rfl
theorem e167_83 : decode (j_co 167) 83 = .ok (.iaload, 1) := by decide +kernel
set_option maxRecDepth 20000 in
theorem w167_83 {d : Nat} {st : List Value} {Q : Option Value × jW → Prop} {ls : jL} {xs : List Value} {I : fI} {L : fL} {o : Nat} {i : Int32} (ht : f_tg o = 100) (hi : ¬ (i < 0 ∨ f_ln o ≤ i.toNatClampNeg)) : Wp d 167 83 ls (.int i :: .ref o :: st) (f_W xs I L) Q = Wp d 167 84 ls (.int (I o i.toNatClampNeg) :: st) (f_W xs I L) Q := Wp.iald e167_83 ht hi
theorem e167_84 : decode (j_co 167) 84 = .ok (.iconst 1, 1) := by decide +kernel
set_option maxRecDepth 20000 in
theorem w167_84 {d : Nat} {st : List Value} {Q : Option Value × jW → Prop} {ls : jL} {w : jW} : Wp d 167 84 ls (st) w Q = Wp d 167 85 ls (.int (nI 1) :: st) w Q := Wp.alu e167_84 rfl rfl
theorem e167_85 : decode (j_co 167) 85 = .ok (.if_icmp .ne 13, 3) := by decide +kernel
set_option maxRecDepth 20000 in
theorem w167_85 {d : Nat} {st : List Value} {Q : Option Value × jW → Prop} {ls : jL} {w : jW} {a b : Int32} : Wp d 167 85 ls (.int b :: .int a :: st) w Q = ((a = b → Wp d 167 88 ls st w Q) ∧ (¬ a = b → Wp d 167 98 ls st w Q)) := Wp.if2n (c := a = b) (off := 13) e167_85 rfl rfl rfl rfl rfl
theorem e167_88 : decode (j_co 167) 88 = .ok (.iload_n 3, 1) := by decide +kernel
set_option maxRecDepth 20000 in
theorem w167_88 {d : Nat} {st : List Value} {Q : Option Value × jW → Prop} {w : jW} {a0 a1 a2 : Option Value} {x : Int32} : Wp d 167 88 [a0, a1, a2, some (.int x)] (st) w Q = Wp d 167 89 [a0, a1, a2, some (.int x)] (.int x :: st) w Q := Wp.loc e167_88 rfl rfl rfl
theorem e167_89 : decode (j_co 167) 89 = .ok (.bipush 16, 2) := by decide +kernel
set_option maxRecDepth 20000 in
theorem w167_89 {d : Nat} {st : List Value} {Q : Option Value × jW → Prop} {ls : jL} {w : jW} : Wp d 167 89 ls (st) w Q = Wp d 167 91 ls (.int (nI 16) :: st) w Q := Wp.alu e167_89 rfl rfl
theorem e167_91 : decode (j_co 167) 91 = .ok (.ishl, 1) := by decide +kernel
set_option maxRecDepth 20000 in
theorem w167_91 {d : Nat} {st : List Value} {Q : Option Value × jW → Prop} {ls : jL} {w : jW} {a b : Int32} : Wp d 167 91 ls (.int b :: .int a :: st) w Q = Wp d 167 92 ls (.int (a <<< (b &&& 31)) :: st) w Q := Wp.alu e167_91 rfl rfl
theorem e167_92 : decode (j_co 167) 92 = .ok (.bipush 16, 2) := by decide +kernel
set_option maxRecDepth 20000 in
theorem w167_92 {d : Nat} {st : List Value} {Q : Option Value × jW → Prop} {ls : jL} {w : jW} : Wp d 167 92 ls (st) w Q = Wp d 167 94 ls (.int (nI 16) :: st) w Q := Wp.alu e167_92 rfl rfl
theorem e167_94 : decode (j_co 167) 94 = .ok (.ishr, 1) := by decide +kernel
set_option maxRecDepth 20000 in
theorem w167_94 {d : Nat} {st : List Value} {Q : Option Value × jW → Prop} {ls : jL} {w : jW} {a b : Int32} : Wp d 167 94 ls (.int b :: .int a :: st) w Q = Wp d 167 95 ls (.int (a >>> (b &&& 31)) :: st) w Q := Wp.alu e167_94 rfl rfl
theorem e167_95 : decode (j_co 167) 95 = .ok (.goto 4, 3) := by decide +kernel
set_option maxRecDepth 20000 in
theorem w167_95 {d : Nat} {st : List Value} {Q : Option Value × jW → Prop} {ls : jL} {w : jW} : Wp d 167 95 ls (st) w Q = Wp d 167 99 ls (st) w Q := Wp.br e167_95 (Or.inl rfl) rfl rfl rfl rfl
theorem e167_98 : decode (j_co 167) 98 = .ok (.iload_n 3, 1) := by decide +kernel
set_option maxRecDepth 20000 in
theorem w167_98 {d : Nat} {st : List Value} {Q : Option Value × jW → Prop} {w : jW} {a0 a1 a2 : Option Value} {x : Int32} : Wp d 167 98 [a0, a1, a2, some (.int x)] (st) w Q = Wp d 167 99 [a0, a1, a2, some (.int x)] (.int x :: st) w Q := Wp.loc e167_98 rfl rfl rfl
theorem e167_99 : decode (j_co 167) 99 = .ok (.iastore, 1) := by decide +kernel
set_option maxRecDepth 20000 in
theorem w167_99 {d : Nat} {st : List Value} {Q : Option Value × jW → Prop} {ls : jL} {xs : List Value} {I : fI} {L : fL} {o : Nat} {i x : Int32} (ht : f_tg o = 100) (hi : ¬ (i < 0 ∨ f_ln o ≤ i.toNatClampNeg)) : Wp d 167 99 ls (.int x :: .int i :: .ref o :: st) (f_W xs I L) Q = Wp d 167 100 ls (st) (f_W xs (f_up I o i.toNatClampNeg x) L) Q := Wp.iast e167_99 ht hi
theorem e167_100 : decode (j_co 167) 100 = .ok (.iconst 1, 1) := by decide +kernel
set_option maxRecDepth 20000 in
theorem w167_100 {d : Nat} {st : List Value} {Q : Option Value × jW → Prop} {ls : jL} {w : jW} : Wp d 167 100 ls (st) w Q = Wp d 167 101 ls (.int (nI 1) :: st) w Q := Wp.alu e167_100 rfl rfl
theorem e167_101 : decode (j_co 167) 101 = .ok (.ireturn, 1) := by decide +kernel
set_option maxRecDepth 20000 in
theorem w167_101 {d : Nat} {Q : Option Value × jW → Prop} {ls : jL} {w : jW} {x : Int32} : Wp d 167 101 ls [.int x] w Q = Q (some (.int x), w) := Wp.ret e167_101 rfl
/-! M.draw -/
theorem e168_0 : decode (j_co 168) 0 = .ok (.iload_n 1, 1) := by decide +kernel
set_option maxRecDepth 20000 in
theorem w168_0 {d : Nat} {st : List Value} {Q : Option Value × jW → Prop} {w : jW} {a0 a2 a3 a4 a5 a6 a7 a8 : Option Value} {x : Int32} : Wp d 168 0 [a0, some (.int x), a2, a3, a4, a5, a6, a7, a8] (st) w Q = Wp d 168 1 [a0, some (.int x), a2, a3, a4, a5, a6, a7, a8] (.int x :: st) w Q := Wp.loc e168_0 rfl rfl rfl
theorem e168_1 : decode (j_co 168) 1 = .ok (.i2l, 1) := by decide +kernel
set_option maxRecDepth 20000 in
theorem w168_1 {d : Nat} {st : List Value} {Q : Option Value × jW → Prop} {ls : jL} {w : jW} {a : Int32} : Wp d 168 1 ls (.int a :: st) w Q = Wp d 168 2 ls (.long a.toInt64 :: st) w Q := Wp.alu e168_1 rfl rfl
theorem e168_2 : decode (j_co 168) 2 = .ok (.lconst 0, 1) := by decide +kernel
set_option maxRecDepth 20000 in
theorem w168_2 {d : Nat} {st : List Value} {Q : Option Value × jW → Prop} {ls : jL} {w : jW} : Wp d 168 2 ls (st) w Q = Wp d 168 3 ls (.long (lN 0) :: st) w Q := Wp.alu e168_2 rfl rfl
theorem e168_3 : decode (j_co 168) 3 = .ok (.ldc2_w 100, 3) := by decide +kernel
set_option maxRecDepth 20000 in
theorem w168_3 {d : Nat} {st : List Value} {Q : Option Value × jW → Prop} {ls : jL} {w : jW} : Wp d 168 3 ls (st) w Q = Wp d 168 6 ls (.long (lN 2) :: st) w Q := Wp.ldc2 e168_3 rfl
theorem e168_6 : decode (j_co 168) 6 = .ok (.invokestatic 93, 3) := by decide +kernel
set_option maxRecDepth 20000 in
theorem w168_6 {d : Nat} {st : List Value} {Q : Option Value × jW → Prop} {ls : jL} {w : jW} {x0 : Int64} {x1 : Int64} {x2 : Int64} (hs : j_sumc st ≤ 8) : Wp (d + 1) 168 6 ls (.long x2 :: .long x1 :: .long x0 :: st) w Q = Wp d 115 0 [some (.long x0), none, some (.long x1), none, some (.long x2), none] [] w (fun r1 => Wp (d + 1) 168 9 ls (r1.1.toList ++ st) r1.2 Q) := Wp.cs (kd := 1) (y' := 115) (as := [.long x0, .long x1, .long x2]) e168_6 rfl (by decide) (by decide) rfl (show 6 ≤ 6 by decide) hs
theorem e168_9 : decode (j_co 168) 9 = .ok (.ifCond .eq 52, 3) := by decide +kernel
set_option maxRecDepth 20000 in
theorem w168_9 {d : Nat} {st : List Value} {Q : Option Value × jW → Prop} {ls : jL} {w : jW} {a : Int32} : Wp d 168 9 ls (.int a :: st) w Q = ((a = nI 0 → Wp d 168 61 ls st w Q) ∧ (¬ a = nI 0 → Wp d 168 12 ls st w Q)) := Wp.if2 (c := a = nI 0) (off := 52) e168_9 rfl rfl rfl rfl rfl
theorem e168_12 : decode (j_co 168) 12 = .ok (.iload_n 1, 1) := by decide +kernel
set_option maxRecDepth 20000 in
theorem w168_12 {d : Nat} {st : List Value} {Q : Option Value × jW → Prop} {w : jW} {a0 a2 a3 a4 a5 a6 a7 a8 : Option Value} {x : Int32} : Wp d 168 12 [a0, some (.int x), a2, a3, a4, a5, a6, a7, a8] (st) w Q = Wp d 168 13 [a0, some (.int x), a2, a3, a4, a5, a6, a7, a8] (.int x :: st) w Q := Wp.loc e168_12 rfl rfl rfl
theorem e168_13 : decode (j_co 168) 13 = .ok (.iconst 2, 1) := by decide +kernel
set_option maxRecDepth 20000 in
theorem w168_13 {d : Nat} {st : List Value} {Q : Option Value × jW → Prop} {ls : jL} {w : jW} : Wp d 168 13 ls (st) w Q = Wp d 168 14 ls (.int (nI 2) :: st) w Q := Wp.alu e168_13 rfl rfl
theorem e168_14 : decode (j_co 168) 14 = .ok (.if_icmp .ne 14, 3) := by decide +kernel
set_option maxRecDepth 20000 in
theorem w168_14 {d : Nat} {st : List Value} {Q : Option Value × jW → Prop} {ls : jL} {w : jW} {a b : Int32} : Wp d 168 14 ls (.int b :: .int a :: st) w Q = ((a = b → Wp d 168 17 ls st w Q) ∧ (¬ a = b → Wp d 168 28 ls st w Q)) := Wp.if2n (c := a = b) (off := 14) e168_14 rfl rfl rfl rfl rfl
theorem e168_17 : decode (j_co 168) 17 = .ok (.aload_n 0, 1) := by decide +kernel
set_option maxRecDepth 20000 in
theorem w168_17 {d : Nat} {st : List Value} {Q : Option Value × jW → Prop} {w : jW} {a1 a2 a3 a4 a5 a6 a7 a8 : Option Value} {x : Nat} : Wp d 168 17 [some (.ref x), a1, a2, a3, a4, a5, a6, a7, a8] (st) w Q = Wp d 168 18 [some (.ref x), a1, a2, a3, a4, a5, a6, a7, a8] (.ref x :: st) w Q := Wp.loc e168_17 rfl rfl rfl
theorem e168_18 : decode (j_co 168) 18 = .ok (.iload_n 2, 1) := by decide +kernel
set_option maxRecDepth 20000 in
theorem w168_18 {d : Nat} {st : List Value} {Q : Option Value × jW → Prop} {w : jW} {a0 a1 a3 a4 a5 a6 a7 a8 : Option Value} {x : Int32} : Wp d 168 18 [a0, a1, some (.int x), a3, a4, a5, a6, a7, a8] (st) w Q = Wp d 168 19 [a0, a1, some (.int x), a3, a4, a5, a6, a7, a8] (.int x :: st) w Q := Wp.loc e168_18 rfl rfl rfl
theorem e168_19 : decode (j_co 168) 19 = .ok (.invokevirtual 118, 3) := by decide +kernel
set_option maxRecDepth 20000 in
theorem w168_19 {d : Nat} {st : List Value} {Q : Option Value × jW → Prop} {ls : jL} {xs : List Value} {I : fI} {L : fL} {r : Nat} {x0 : Int32} (hs : j_sumc st ≤ 8) (ht : f_tg r = 11) : Wp (d + 1) 168 19 ls (.int x0 :: .ref r :: st) (f_W xs I L) Q = Wp d 121 0 [some (.ref r), some (.int x0)] [] (f_W xs I L) (fun r1 => Wp (d + 1) 168 22 ls (r1.1.toList ++ st) r1.2 Q) := Wp.cv (y' := 121) (as := [.int x0]) e168_19 rfl (by decide) rfl (show 2 ≤ 2 by decide) (by decide) hs ht
theorem e168_22 : decode (j_co 168) 22 = .ok (.ifCond .eq 39, 3) := by decide +kernel
set_option maxRecDepth 20000 in
theorem w168_22 {d : Nat} {st : List Value} {Q : Option Value × jW → Prop} {ls : jL} {w : jW} {a : Int32} : Wp d 168 22 ls (.int a :: st) w Q = ((a = nI 0 → Wp d 168 61 ls st w Q) ∧ (¬ a = nI 0 → Wp d 168 25 ls st w Q)) := Wp.if2 (c := a = nI 0) (off := 39) e168_22 rfl rfl rfl rfl rfl
theorem e168_25 : decode (j_co 168) 25 = .ok (.goto 11, 3) := by decide +kernel
set_option maxRecDepth 20000 in
theorem w168_25 {d : Nat} {st : List Value} {Q : Option Value × jW → Prop} {ls : jL} {w : jW} : Wp d 168 25 ls (st) w Q = Wp d 168 36 ls (st) w Q := Wp.br e168_25 (Or.inl rfl) rfl rfl rfl rfl
theorem e168_28 : decode (j_co 168) 28 = .ok (.aload_n 0, 1) := by decide +kernel
set_option maxRecDepth 20000 in
theorem w168_28 {d : Nat} {st : List Value} {Q : Option Value × jW → Prop} {w : jW} {a1 a2 a3 a4 a5 a6 a7 a8 : Option Value} {x : Nat} : Wp d 168 28 [some (.ref x), a1, a2, a3, a4, a5, a6, a7, a8] (st) w Q = Wp d 168 29 [some (.ref x), a1, a2, a3, a4, a5, a6, a7, a8] (.ref x :: st) w Q := Wp.loc e168_28 rfl rfl rfl
theorem e168_29 : decode (j_co 168) 29 = .ok (.iload_n 2, 1) := by decide +kernel
set_option maxRecDepth 20000 in
theorem w168_29 {d : Nat} {st : List Value} {Q : Option Value × jW → Prop} {w : jW} {a0 a1 a3 a4 a5 a6 a7 a8 : Option Value} {x : Int32} : Wp d 168 29 [a0, a1, some (.int x), a3, a4, a5, a6, a7, a8] (st) w Q = Wp d 168 30 [a0, a1, some (.int x), a3, a4, a5, a6, a7, a8] (.int x :: st) w Q := Wp.loc e168_29 rfl rfl rfl
theorem e168_30 : decode (j_co 168) 30 = .ok (.invokevirtual 106, 3) := by decide +kernel
set_option maxRecDepth 20000 in
theorem w168_30 {d : Nat} {st : List Value} {Q : Option Value × jW → Prop} {ls : jL} {xs : List Value} {I : fI} {L : fL} {r : Nat} {x0 : Int32} (hs : j_sumc st ≤ 8) (ht : f_tg r = 11) : Wp (d + 1) 168 30 ls (.int x0 :: .ref r :: st) (f_W xs I L) Q = Wp d 114 0 [some (.ref r), some (.int x0)] [] (f_W xs I L) (fun r1 => Wp (d + 1) 168 33 ls (r1.1.toList ++ st) r1.2 Q) := Wp.cv (y' := 114) (as := [.int x0]) e168_30 rfl (by decide) rfl (show 2 ≤ 2 by decide) (by decide) hs ht
theorem e168_33 : decode (j_co 168) 33 = .ok (.ifCond .eq 28, 3) := by decide +kernel
set_option maxRecDepth 20000 in
theorem w168_33 {d : Nat} {st : List Value} {Q : Option Value × jW → Prop} {ls : jL} {w : jW} {a : Int32} : Wp d 168 33 ls (.int a :: st) w Q = ((a = nI 0 → Wp d 168 61 ls st w Q) ∧ (¬ a = nI 0 → Wp d 168 36 ls st w Q)) := Wp.if2 (c := a = nI 0) (off := 28) e168_33 rfl rfl rfl rfl rfl
theorem e168_36 : decode (j_co 168) 36 = .ok (.iload_n 3, 1) := by decide +kernel
set_option maxRecDepth 20000 in
theorem w168_36 {d : Nat} {st : List Value} {Q : Option Value × jW → Prop} {w : jW} {a0 a1 a2 a4 a5 a6 a7 a8 : Option Value} {x : Int32} : Wp d 168 36 [a0, a1, a2, some (.int x), a4, a5, a6, a7, a8] (st) w Q = Wp d 168 37 [a0, a1, a2, some (.int x), a4, a5, a6, a7, a8] (.int x :: st) w Q := Wp.loc e168_36 rfl rfl rfl
theorem e168_37 : decode (j_co 168) 37 = .ok (.i2l, 1) := by decide +kernel
set_option maxRecDepth 20000 in
theorem w168_37 {d : Nat} {st : List Value} {Q : Option Value × jW → Prop} {ls : jL} {w : jW} {a : Int32} : Wp d 168 37 ls (.int a :: st) w Q = Wp d 168 38 ls (.long a.toInt64 :: st) w Q := Wp.alu e168_37 rfl rfl
theorem e168_38 : decode (j_co 168) 38 = .ok (.lconst 0, 1) := by decide +kernel
set_option maxRecDepth 20000 in
theorem w168_38 {d : Nat} {st : List Value} {Q : Option Value × jW → Prop} {ls : jL} {w : jW} : Wp d 168 38 ls (st) w Q = Wp d 168 39 ls (.long (lN 0) :: st) w Q := Wp.alu e168_38 rfl rfl
theorem e168_39 : decode (j_co 168) 39 = .ok (.ldc2_w 245, 3) := by decide +kernel
set_option maxRecDepth 20000 in
theorem w168_39 {d : Nat} {st : List Value} {Q : Option Value × jW → Prop} {ls : jL} {w : jW} : Wp d 168 39 ls (st) w Q = Wp d 168 42 ls (.long (lN 3) :: st) w Q := Wp.ldc2 e168_39 rfl
theorem e168_42 : decode (j_co 168) 42 = .ok (.invokestatic 93, 3) := by decide +kernel
set_option maxRecDepth 20000 in
theorem w168_42 {d : Nat} {st : List Value} {Q : Option Value × jW → Prop} {ls : jL} {w : jW} {x0 : Int64} {x1 : Int64} {x2 : Int64} (hs : j_sumc st ≤ 8) : Wp (d + 1) 168 42 ls (.long x2 :: .long x1 :: .long x0 :: st) w Q = Wp d 115 0 [some (.long x0), none, some (.long x1), none, some (.long x2), none] [] w (fun r1 => Wp (d + 1) 168 45 ls (r1.1.toList ++ st) r1.2 Q) := Wp.cs (kd := 1) (y' := 115) (as := [.long x0, .long x1, .long x2]) e168_42 rfl (by decide) (by decide) rfl (show 6 ≤ 6 by decide) hs
theorem e168_45 : decode (j_co 168) 45 = .ok (.ifCond .eq 16, 3) := by decide +kernel
set_option maxRecDepth 20000 in
theorem w168_45 {d : Nat} {st : List Value} {Q : Option Value × jW → Prop} {ls : jL} {w : jW} {a : Int32} : Wp d 168 45 ls (.int a :: st) w Q = ((a = nI 0 → Wp d 168 61 ls st w Q) ∧ (¬ a = nI 0 → Wp d 168 48 ls st w Q)) := Wp.if2 (c := a = nI 0) (off := 16) e168_45 rfl rfl rfl rfl rfl
theorem e168_48 : decode (j_co 168) 48 = .ok (.iload 4, 2) := by decide +kernel
set_option maxRecDepth 20000 in
theorem w168_48 {d : Nat} {st : List Value} {Q : Option Value × jW → Prop} {w : jW} {a0 a1 a2 a3 a5 a6 a7 a8 : Option Value} {x : Int32} : Wp d 168 48 [a0, a1, a2, a3, some (.int x), a5, a6, a7, a8] (st) w Q = Wp d 168 50 [a0, a1, a2, a3, some (.int x), a5, a6, a7, a8] (.int x :: st) w Q := Wp.loc e168_48 rfl rfl rfl
theorem e168_50 : decode (j_co 168) 50 = .ok (.i2l, 1) := by decide +kernel
set_option maxRecDepth 20000 in
theorem w168_50 {d : Nat} {st : List Value} {Q : Option Value × jW → Prop} {ls : jL} {w : jW} {a : Int32} : Wp d 168 50 ls (.int a :: st) w Q = Wp d 168 51 ls (.long a.toInt64 :: st) w Q := Wp.alu e168_50 rfl rfl
theorem e168_51 : decode (j_co 168) 51 = .ok (.lconst 0, 1) := by decide +kernel
set_option maxRecDepth 20000 in
theorem w168_51 {d : Nat} {st : List Value} {Q : Option Value × jW → Prop} {ls : jL} {w : jW} : Wp d 168 51 ls (st) w Q = Wp d 168 52 ls (.long (lN 0) :: st) w Q := Wp.alu e168_51 rfl rfl
theorem e168_52 : decode (j_co 168) 52 = .ok (.ldc2_w 100, 3) := by decide +kernel
set_option maxRecDepth 20000 in
theorem w168_52 {d : Nat} {st : List Value} {Q : Option Value × jW → Prop} {ls : jL} {w : jW} : Wp d 168 52 ls (st) w Q = Wp d 168 55 ls (.long (lN 2) :: st) w Q := Wp.ldc2 e168_52 rfl
theorem e168_55 : decode (j_co 168) 55 = .ok (.invokestatic 93, 3) := by decide +kernel
set_option maxRecDepth 20000 in
theorem w168_55 {d : Nat} {st : List Value} {Q : Option Value × jW → Prop} {ls : jL} {w : jW} {x0 : Int64} {x1 : Int64} {x2 : Int64} (hs : j_sumc st ≤ 8) : Wp (d + 1) 168 55 ls (.long x2 :: .long x1 :: .long x0 :: st) w Q = Wp d 115 0 [some (.long x0), none, some (.long x1), none, some (.long x2), none] [] w (fun r1 => Wp (d + 1) 168 58 ls (r1.1.toList ++ st) r1.2 Q) := Wp.cs (kd := 1) (y' := 115) (as := [.long x0, .long x1, .long x2]) e168_55 rfl (by decide) (by decide) rfl (show 6 ≤ 6 by decide) hs
theorem e168_58 : decode (j_co 168) 58 = .ok (.ifCond .ne 5, 3) := by decide +kernel
set_option maxRecDepth 20000 in
theorem w168_58 {d : Nat} {st : List Value} {Q : Option Value × jW → Prop} {ls : jL} {w : jW} {a : Int32} : Wp d 168 58 ls (.int a :: st) w Q = ((a = nI 0 → Wp d 168 61 ls st w Q) ∧ (¬ a = nI 0 → Wp d 168 63 ls st w Q)) := Wp.if2n (c := a = nI 0) (off := 5) e168_58 rfl rfl rfl rfl rfl
theorem e168_61 : decode (j_co 168) 61 = .ok (.iconst (-1), 1) := by decide +kernel
set_option maxRecDepth 20000 in
theorem w168_61 {d : Nat} {st : List Value} {Q : Option Value × jW → Prop} {ls : jL} {w : jW} : Wp d 168 61 ls (st) w Q = Wp d 168 62 ls (.int (-1) :: st) w Q := Wp.alu e168_61 rfl rfl
theorem e168_62 : decode (j_co 168) 62 = .ok (.ireturn, 1) := by decide +kernel
set_option maxRecDepth 20000 in
theorem w168_62 {d : Nat} {Q : Option Value × jW → Prop} {ls : jL} {w : jW} {x : Int32} : Wp d 168 62 ls [.int x] w Q = Q (some (.int x), w) := Wp.ret e168_62 rfl
theorem e168_63 : decode (j_co 168) 63 = .ok (.aload_n 0, 1) := by decide +kernel
set_option maxRecDepth 20000 in
theorem w168_63 {d : Nat} {st : List Value} {Q : Option Value × jW → Prop} {w : jW} {a1 a2 a3 a4 a5 a6 a7 a8 : Option Value} {x : Nat} : Wp d 168 63 [some (.ref x), a1, a2, a3, a4, a5, a6, a7, a8] (st) w Q = Wp d 168 64 [some (.ref x), a1, a2, a3, a4, a5, a6, a7, a8] (.ref x :: st) w Q := Wp.loc e168_63 rfl rfl rfl
theorem e168_64 : decode (j_co 168) 64 = .ok (.getfield 81, 3) := by decide +kernel
set_option maxRecDepth 20000 in
theorem w168_64 {d : Nat} {st : List Value} {Q : Option Value × jW → Prop} {ls : jL} {xs : List Value} {I : fI} {L : fL} {o : Nat} (ht : f_tg o = 11) : Wp d 168 64 ls (.ref o :: st) (f_W xs I L) Q = Wp d 168 67 ls (.ref (f_rf o 34) :: st) (f_W xs I L) Q := Wp.getR (ci := 11) (k := 34) e168_64 rfl (by decide) (by decide) rfl ht
theorem e168_67 : decode (j_co 168) 67 = .ok (.iload_n 3, 1) := by decide +kernel
set_option maxRecDepth 20000 in
theorem w168_67 {d : Nat} {st : List Value} {Q : Option Value × jW → Prop} {w : jW} {a0 a1 a2 a4 a5 a6 a7 a8 : Option Value} {x : Int32} : Wp d 168 67 [a0, a1, a2, some (.int x), a4, a5, a6, a7, a8] (st) w Q = Wp d 168 68 [a0, a1, a2, some (.int x), a4, a5, a6, a7, a8] (.int x :: st) w Q := Wp.loc e168_67 rfl rfl rfl
theorem e168_68 : decode (j_co 168) 68 = .ok (.iaload, 1) := by decide +kernel
set_option maxRecDepth 20000 in
theorem w168_68 {d : Nat} {st : List Value} {Q : Option Value × jW → Prop} {ls : jL} {xs : List Value} {I : fI} {L : fL} {o : Nat} {i : Int32} (ht : f_tg o = 100) (hi : ¬ (i < 0 ∨ f_ln o ≤ i.toNatClampNeg)) : Wp d 168 68 ls (.int i :: .ref o :: st) (f_W xs I L) Q = Wp d 168 69 ls (.int (I o i.toNatClampNeg) :: st) (f_W xs I L) Q := Wp.iald e168_68 ht hi
theorem e168_69 : decode (j_co 168) 69 = .ok (.iload 4, 2) := by decide +kernel
set_option maxRecDepth 20000 in
theorem w168_69 {d : Nat} {st : List Value} {Q : Option Value × jW → Prop} {w : jW} {a0 a1 a2 a3 a5 a6 a7 a8 : Option Value} {x : Int32} : Wp d 168 69 [a0, a1, a2, a3, some (.int x), a5, a6, a7, a8] (st) w Q = Wp d 168 71 [a0, a1, a2, a3, some (.int x), a5, a6, a7, a8] (.int x :: st) w Q := Wp.loc e168_69 rfl rfl rfl
theorem e168_71 : decode (j_co 168) 71 = .ok (.if_icmp .eq 22, 3) := by decide +kernel
set_option maxRecDepth 20000 in
theorem w168_71 {d : Nat} {st : List Value} {Q : Option Value × jW → Prop} {ls : jL} {w : jW} {a b : Int32} : Wp d 168 71 ls (.int b :: .int a :: st) w Q = ((a = b → Wp d 168 93 ls st w Q) ∧ (¬ a = b → Wp d 168 74 ls st w Q)) := Wp.if2 (c := a = b) (off := 22) e168_71 rfl rfl rfl rfl rfl
theorem e168_74 : decode (j_co 168) 74 = .ok (.aload_n 0, 1) := by decide +kernel
set_option maxRecDepth 20000 in
theorem w168_74 {d : Nat} {st : List Value} {Q : Option Value × jW → Prop} {w : jW} {a1 a2 a3 a4 a5 a6 a7 a8 : Option Value} {x : Nat} : Wp d 168 74 [some (.ref x), a1, a2, a3, a4, a5, a6, a7, a8] (st) w Q = Wp d 168 75 [some (.ref x), a1, a2, a3, a4, a5, a6, a7, a8] (.ref x :: st) w Q := Wp.loc e168_74 rfl rfl rfl
theorem e168_75 : decode (j_co 168) 75 = .ok (.getfield 81, 3) := by decide +kernel
set_option maxRecDepth 20000 in
theorem w168_75 {d : Nat} {st : List Value} {Q : Option Value × jW → Prop} {ls : jL} {xs : List Value} {I : fI} {L : fL} {o : Nat} (ht : f_tg o = 11) : Wp d 168 75 ls (.ref o :: st) (f_W xs I L) Q = Wp d 168 78 ls (.ref (f_rf o 34) :: st) (f_W xs I L) Q := Wp.getR (ci := 11) (k := 34) e168_75 rfl (by decide) (by decide) rfl ht
theorem e168_78 : decode (j_co 168) 78 = .ok (.iload_n 3, 1) := by decide +kernel
set_option maxRecDepth 20000 in
theorem w168_78 {d : Nat} {st : List Value} {Q : Option Value × jW → Prop} {w : jW} {a0 a1 a2 a4 a5 a6 a7 a8 : Option Value} {x : Int32} : Wp d 168 78 [a0, a1, a2, some (.int x), a4, a5, a6, a7, a8] (st) w Q = Wp d 168 79 [a0, a1, a2, some (.int x), a4, a5, a6, a7, a8] (.int x :: st) w Q := Wp.loc e168_78 rfl rfl rfl
theorem e168_79 : decode (j_co 168) 79 = .ok (.iaload, 1) := by decide +kernel
set_option maxRecDepth 20000 in
theorem w168_79 {d : Nat} {st : List Value} {Q : Option Value × jW → Prop} {ls : jL} {xs : List Value} {I : fI} {L : fL} {o : Nat} {i : Int32} (ht : f_tg o = 100) (hi : ¬ (i < 0 ∨ f_ln o ≤ i.toNatClampNeg)) : Wp d 168 79 ls (.int i :: .ref o :: st) (f_W xs I L) Q = Wp d 168 80 ls (.int (I o i.toNatClampNeg) :: st) (f_W xs I L) Q := Wp.iald e168_79 ht hi
theorem e168_80 : decode (j_co 168) 80 = .ok (.bipush (-4), 2) := by decide +kernel
set_option maxRecDepth 20000 in
theorem w168_80 {d : Nat} {st : List Value} {Q : Option Value × jW → Prop} {ls : jL} {w : jW} : Wp d 168 80 ls (st) w Q = Wp d 168 82 ls (.int (-4) :: st) w Q := Wp.alu e168_80 rfl rfl
theorem e168_82 : decode (j_co 168) 82 = .ok (.if_icmp .ne 8, 3) := by decide +kernel
set_option maxRecDepth 20000 in
theorem w168_82 {d : Nat} {st : List Value} {Q : Option Value × jW → Prop} {ls : jL} {w : jW} {a b : Int32} : Wp d 168 82 ls (.int b :: .int a :: st) w Q = ((a = b → Wp d 168 85 ls st w Q) ∧ (¬ a = b → Wp d 168 90 ls st w Q)) := Wp.if2n (c := a = b) (off := 8) e168_82 rfl rfl rfl rfl rfl
theorem e168_85 : decode (j_co 168) 85 = .ok (.bipush (-11), 2) := by decide +kernel
set_option maxRecDepth 20000 in
theorem w168_85 {d : Nat} {st : List Value} {Q : Option Value × jW → Prop} {ls : jL} {w : jW} : Wp d 168 85 ls (st) w Q = Wp d 168 87 ls (.int (-11) :: st) w Q := Wp.alu e168_85 rfl rfl
theorem e168_87 : decode (j_co 168) 87 = .ok (.goto 5, 3) := by decide +kernel
set_option maxRecDepth 20000 in
theorem w168_87 {d : Nat} {st : List Value} {Q : Option Value × jW → Prop} {ls : jL} {w : jW} : Wp d 168 87 ls (st) w Q = Wp d 168 92 ls (st) w Q := Wp.br e168_87 (Or.inl rfl) rfl rfl rfl rfl
theorem e168_90 : decode (j_co 168) 90 = .ok (.bipush (-13), 2) := by decide +kernel
set_option maxRecDepth 20000 in
theorem w168_90 {d : Nat} {st : List Value} {Q : Option Value × jW → Prop} {ls : jL} {w : jW} : Wp d 168 90 ls (st) w Q = Wp d 168 92 ls (.int (-13) :: st) w Q := Wp.alu e168_90 rfl rfl
theorem e168_92 : decode (j_co 168) 92 = .ok (.ireturn, 1) := by decide +kernel
set_option maxRecDepth 20000 in
theorem w168_92 {d : Nat} {Q : Option Value × jW → Prop} {ls : jL} {w : jW} {x : Int32} : Wp d 168 92 ls [.int x] w Q = Q (some (.int x), w) := Wp.ret e168_92 rfl
theorem e168_93 : decode (j_co 168) 93 = .ok (.iload_n 1, 1) := by decide +kernel
set_option maxRecDepth 20000 in
theorem w168_93 {d : Nat} {st : List Value} {Q : Option Value × jW → Prop} {w : jW} {a0 a2 a3 a4 a5 a6 a7 a8 : Option Value} {x : Int32} : Wp d 168 93 [a0, some (.int x), a2, a3, a4, a5, a6, a7, a8] (st) w Q = Wp d 168 94 [a0, some (.int x), a2, a3, a4, a5, a6, a7, a8] (.int x :: st) w Q := Wp.loc e168_93 rfl rfl rfl
theorem e168_94 : decode (j_co 168) 94 = .ok (.iconst 1, 1) := by decide +kernel
set_option maxRecDepth 20000 in
theorem w168_94 {d : Nat} {st : List Value} {Q : Option Value × jW → Prop} {ls : jL} {w : jW} : Wp d 168 94 ls (st) w Q = Wp d 168 95 ls (.int (nI 1) :: st) w Q := Wp.alu e168_94 rfl rfl
theorem e168_95 : decode (j_co 168) 95 = .ok (.if_icmp .ne 7, 3) := by decide +kernel
set_option maxRecDepth 20000 in
theorem w168_95 {d : Nat} {st : List Value} {Q : Option Value × jW → Prop} {ls : jL} {w : jW} {a b : Int32} : Wp d 168 95 ls (.int b :: .int a :: st) w Q = ((a = b → Wp d 168 98 ls st w Q) ∧ (¬ a = b → Wp d 168 102 ls st w Q)) := Wp.if2n (c := a = b) (off := 7) e168_95 rfl rfl rfl rfl rfl
theorem e168_98 : decode (j_co 168) 98 = .ok (.iconst 5, 1) := by decide +kernel
set_option maxRecDepth 20000 in
theorem w168_98 {d : Nat} {st : List Value} {Q : Option Value × jW → Prop} {ls : jL} {w : jW} : Wp d 168 98 ls (st) w Q = Wp d 168 99 ls (.int (nI 5) :: st) w Q := Wp.alu e168_98 rfl rfl
theorem e168_99 : decode (j_co 168) 99 = .ok (.goto 5, 3) := by decide +kernel
set_option maxRecDepth 20000 in
theorem w168_99 {d : Nat} {st : List Value} {Q : Option Value × jW → Prop} {ls : jL} {w : jW} : Wp d 168 99 ls (st) w Q = Wp d 168 104 ls (st) w Q := Wp.br e168_99 (Or.inl rfl) rfl rfl rfl rfl
theorem e168_102 : decode (j_co 168) 102 = .ok (.bipush 20, 2) := by decide +kernel
set_option maxRecDepth 20000 in
theorem w168_102 {d : Nat} {st : List Value} {Q : Option Value × jW → Prop} {ls : jL} {w : jW} : Wp d 168 102 ls (st) w Q = Wp d 168 104 ls (.int (nI 20) :: st) w Q := Wp.alu e168_102 rfl rfl
theorem e168_104 : decode (j_co 168) 104 = .ok (.istore 6, 2) := by decide +kernel
set_option maxRecDepth 20000 in
theorem w168_104 {d : Nat} {st : List Value} {Q : Option Value × jW → Prop} {w : jW} {a0 a1 a2 a3 a4 a5 a6 a7 a8 : Option Value} {x : Int32} (h : j_cp a5) : Wp d 168 104 [a0, a1, a2, a3, a4, a5, a6, a7, a8] (.int x :: st) w Q = Wp d 168 106 [a0, a1, a2, a3, a4, a5, some (.int x), a7, a8] (st) w Q := Wp.loc e168_104 rfl rfl (v_stI (ls := [a0, a1, a2, a3, a4, a5, a6, a7, a8]) (k := 6) (show 6 < 9 by decide) h)
theorem e168_106 : decode (j_co 168) 106 = .ok (.iconst 0, 1) := by decide +kernel
set_option maxRecDepth 20000 in
theorem w168_106 {d : Nat} {st : List Value} {Q : Option Value × jW → Prop} {ls : jL} {w : jW} : Wp d 168 106 ls (st) w Q = Wp d 168 107 ls (.int (nI 0) :: st) w Q := Wp.alu e168_106 rfl rfl
theorem e168_107 : decode (j_co 168) 107 = .ok (.istore 7, 2) := by decide +kernel
set_option maxRecDepth 20000 in
theorem w168_107 {d : Nat} {st : List Value} {Q : Option Value × jW → Prop} {w : jW} {a0 a1 a2 a3 a4 a5 a6 a7 a8 : Option Value} {x : Int32} (h : j_cp a6) : Wp d 168 107 [a0, a1, a2, a3, a4, a5, a6, a7, a8] (.int x :: st) w Q = Wp d 168 109 [a0, a1, a2, a3, a4, a5, a6, some (.int x), a8] (st) w Q := Wp.loc e168_107 rfl rfl (v_stI (ls := [a0, a1, a2, a3, a4, a5, a6, a7, a8]) (k := 7) (show 7 < 9 by decide) h)
theorem e168_109 : decode (j_co 168) 109 = .ok (.iload 7, 2) := by decide +kernel
set_option maxRecDepth 20000 in
theorem w168_109 {d : Nat} {st : List Value} {Q : Option Value × jW → Prop} {w : jW} {a0 a1 a2 a3 a4 a5 a6 a8 : Option Value} {x : Int32} : Wp d 168 109 [a0, a1, a2, a3, a4, a5, a6, some (.int x), a8] (st) w Q = Wp d 168 111 [a0, a1, a2, a3, a4, a5, a6, some (.int x), a8] (.int x :: st) w Q := Wp.loc e168_109 rfl rfl rfl
theorem e168_111 : decode (j_co 168) 111 = .ok (.bipush 6, 2) := by decide +kernel
set_option maxRecDepth 20000 in
theorem w168_111 {d : Nat} {st : List Value} {Q : Option Value × jW → Prop} {ls : jL} {w : jW} : Wp d 168 111 ls (st) w Q = Wp d 168 113 ls (.int (nI 6) :: st) w Q := Wp.alu e168_111 rfl rfl
theorem e168_113 : decode (j_co 168) 113 = .ok (.if_icmp .ge 105, 3) := by decide +kernel
set_option maxRecDepth 20000 in
theorem w168_113 {d : Nat} {st : List Value} {Q : Option Value × jW → Prop} {ls : jL} {w : jW} {a b : Int32} : Wp d 168 113 ls (.int b :: .int a :: st) w Q = ((b ≤ a → Wp d 168 218 ls st w Q) ∧ (¬ b ≤ a → Wp d 168 116 ls st w Q)) := Wp.if2 (c := b ≤ a) (off := 105) e168_113 rfl rfl rfl rfl rfl
theorem e168_116 : decode (j_co 168) 116 = .ok (.iload 5, 2) := by decide +kernel
set_option maxRecDepth 20000 in
theorem w168_116 {d : Nat} {st : List Value} {Q : Option Value × jW → Prop} {w : jW} {a0 a1 a2 a3 a4 a6 a7 a8 : Option Value} {x : Int32} : Wp d 168 116 [a0, a1, a2, a3, a4, some (.int x), a6, a7, a8] (st) w Q = Wp d 168 118 [a0, a1, a2, a3, a4, some (.int x), a6, a7, a8] (.int x :: st) w Q := Wp.loc e168_116 rfl rfl rfl
theorem e168_118 : decode (j_co 168) 118 = .ok (.i2l, 1) := by decide +kernel
set_option maxRecDepth 20000 in
theorem w168_118 {d : Nat} {st : List Value} {Q : Option Value × jW → Prop} {ls : jL} {w : jW} {a : Int32} : Wp d 168 118 ls (.int a :: st) w Q = Wp d 168 119 ls (.long a.toInt64 :: st) w Q := Wp.alu e168_118 rfl rfl
theorem e168_119 : decode (j_co 168) 119 = .ok (.iload 7, 2) := by decide +kernel
set_option maxRecDepth 20000 in
theorem w168_119 {d : Nat} {st : List Value} {Q : Option Value × jW → Prop} {w : jW} {a0 a1 a2 a3 a4 a5 a6 a8 : Option Value} {x : Int32} : Wp d 168 119 [a0, a1, a2, a3, a4, a5, a6, some (.int x), a8] (st) w Q = Wp d 168 121 [a0, a1, a2, a3, a4, a5, a6, some (.int x), a8] (.int x :: st) w Q := Wp.loc e168_119 rfl rfl rfl
theorem e168_121 : decode (j_co 168) 121 = .ok (.i2l, 1) := by decide +kernel
set_option maxRecDepth 20000 in
theorem w168_121 {d : Nat} {st : List Value} {Q : Option Value × jW → Prop} {ls : jL} {w : jW} {a : Int32} : Wp d 168 121 ls (.int a :: st) w Q = Wp d 168 122 ls (.long a.toInt64 :: st) w Q := Wp.alu e168_121 rfl rfl
theorem e168_122 : decode (j_co 168) 122 = .ok (.ladd, 1) := by decide +kernel
set_option maxRecDepth 20000 in
theorem w168_122 {d : Nat} {st : List Value} {Q : Option Value × jW → Prop} {ls : jL} {w : jW} {a b : Int64} : Wp d 168 122 ls (.long b :: .long a :: st) w Q = Wp d 168 123 ls (.long (a + b) :: st) w Q := Wp.alu e168_122 rfl rfl
theorem e168_123 : decode (j_co 168) 123 = .ok (.lconst 0, 1) := by decide +kernel
set_option maxRecDepth 20000 in
theorem w168_123 {d : Nat} {st : List Value} {Q : Option Value × jW → Prop} {ls : jL} {w : jW} : Wp d 168 123 ls (st) w Q = Wp d 168 124 ls (.long (lN 0) :: st) w Q := Wp.alu e168_123 rfl rfl
theorem e168_124 : decode (j_co 168) 124 = .ok (.aload_n 0, 1) := by decide +kernel
set_option maxRecDepth 20000 in
theorem w168_124 {d : Nat} {st : List Value} {Q : Option Value × jW → Prop} {w : jW} {a1 a2 a3 a4 a5 a6 a7 a8 : Option Value} {x : Nat} : Wp d 168 124 [some (.ref x), a1, a2, a3, a4, a5, a6, a7, a8] (st) w Q = Wp d 168 125 [some (.ref x), a1, a2, a3, a4, a5, a6, a7, a8] (.ref x :: st) w Q := Wp.loc e168_124 rfl rfl rfl
theorem e168_125 : decode (j_co 168) 125 = .ok (.getfield 84, 3) := by decide +kernel
set_option maxRecDepth 20000 in
theorem w168_125 {d : Nat} {st : List Value} {Q : Option Value × jW → Prop} {ls : jL} {xs : List Value} {I : fI} {L : fL} {o : Nat} (ht : f_tg o = 11) : Wp d 168 125 ls (.ref o :: st) (f_W xs I L) Q = Wp d 168 128 ls (.ref (f_rf o 35) :: st) (f_W xs I L) Q := Wp.getR (ci := 11) (k := 35) e168_125 rfl (by decide) (by decide) rfl ht
theorem e168_128 : decode (j_co 168) 128 = .ok (.iload_n 3, 1) := by decide +kernel
set_option maxRecDepth 20000 in
theorem w168_128 {d : Nat} {st : List Value} {Q : Option Value × jW → Prop} {w : jW} {a0 a1 a2 a4 a5 a6 a7 a8 : Option Value} {x : Int32} : Wp d 168 128 [a0, a1, a2, some (.int x), a4, a5, a6, a7, a8] (st) w Q = Wp d 168 129 [a0, a1, a2, some (.int x), a4, a5, a6, a7, a8] (.int x :: st) w Q := Wp.loc e168_128 rfl rfl rfl
theorem e168_129 : decode (j_co 168) 129 = .ok (.iaload, 1) := by decide +kernel
set_option maxRecDepth 20000 in
theorem w168_129 {d : Nat} {st : List Value} {Q : Option Value × jW → Prop} {ls : jL} {xs : List Value} {I : fI} {L : fL} {o : Nat} {i : Int32} (ht : f_tg o = 100) (hi : ¬ (i < 0 ∨ f_ln o ≤ i.toNatClampNeg)) : Wp d 168 129 ls (.int i :: .ref o :: st) (f_W xs I L) Q = Wp d 168 130 ls (.int (I o i.toNatClampNeg) :: st) (f_W xs I L) Q := Wp.iald e168_129 ht hi
theorem e168_130 : decode (j_co 168) 130 = .ok (.iconst 1, 1) := by decide +kernel
set_option maxRecDepth 20000 in
theorem w168_130 {d : Nat} {st : List Value} {Q : Option Value × jW → Prop} {ls : jL} {w : jW} : Wp d 168 130 ls (st) w Q = Wp d 168 131 ls (.int (nI 1) :: st) w Q := Wp.alu e168_130 rfl rfl
theorem e168_131 : decode (j_co 168) 131 = .ok (.isub, 1) := by decide +kernel
set_option maxRecDepth 20000 in
theorem w168_131 {d : Nat} {st : List Value} {Q : Option Value × jW → Prop} {ls : jL} {w : jW} {a b : Int32} : Wp d 168 131 ls (.int b :: .int a :: st) w Q = Wp d 168 132 ls (.int (a - b) :: st) w Q := Wp.alu e168_131 rfl rfl
theorem e168_132 : decode (j_co 168) 132 = .ok (.i2l, 1) := by decide +kernel
set_option maxRecDepth 20000 in
theorem w168_132 {d : Nat} {st : List Value} {Q : Option Value × jW → Prop} {ls : jL} {w : jW} {a : Int32} : Wp d 168 132 ls (.int a :: st) w Q = Wp d 168 133 ls (.long a.toInt64 :: st) w Q := Wp.alu e168_132 rfl rfl
theorem e168_133 : decode (j_co 168) 133 = .ok (.invokestatic 93, 3) := by decide +kernel
set_option maxRecDepth 20000 in
theorem w168_133 {d : Nat} {st : List Value} {Q : Option Value × jW → Prop} {ls : jL} {w : jW} {x0 : Int64} {x1 : Int64} {x2 : Int64} (hs : j_sumc st ≤ 8) : Wp (d + 1) 168 133 ls (.long x2 :: .long x1 :: .long x0 :: st) w Q = Wp d 115 0 [some (.long x0), none, some (.long x1), none, some (.long x2), none] [] w (fun r1 => Wp (d + 1) 168 136 ls (r1.1.toList ++ st) r1.2 Q) := Wp.cs (kd := 1) (y' := 115) (as := [.long x0, .long x1, .long x2]) e168_133 rfl (by decide) (by decide) rfl (show 6 ≤ 6 by decide) hs
theorem e168_136 : decode (j_co 168) 136 = .ok (.ifCond .ne 6, 3) := by decide +kernel
set_option maxRecDepth 20000 in
theorem w168_136 {d : Nat} {st : List Value} {Q : Option Value × jW → Prop} {ls : jL} {w : jW} {a : Int32} : Wp d 168 136 ls (.int a :: st) w Q = ((a = nI 0 → Wp d 168 139 ls st w Q) ∧ (¬ a = nI 0 → Wp d 168 142 ls st w Q)) := Wp.if2n (c := a = nI 0) (off := 6) e168_136 rfl rfl rfl rfl rfl
theorem e168_139 : decode (j_co 168) 139 = .ok (.bipush (-12), 2) := by decide +kernel
set_option maxRecDepth 20000 in
theorem w168_139 {d : Nat} {st : List Value} {Q : Option Value × jW → Prop} {ls : jL} {w : jW} : Wp d 168 139 ls (st) w Q = Wp d 168 141 ls (.int (-12) :: st) w Q := Wp.alu e168_139 rfl rfl
theorem e168_141 : decode (j_co 168) 141 = .ok (.ireturn, 1) := by decide +kernel
set_option maxRecDepth 20000 in
theorem w168_141 {d : Nat} {Q : Option Value × jW → Prop} {ls : jL} {w : jW} {x : Int32} : Wp d 168 141 ls [.int x] w Q = Q (some (.int x), w) := Wp.ret e168_141 rfl
theorem e168_142 : decode (j_co 168) 142 = .ok (.aload_n 0, 1) := by decide +kernel
set_option maxRecDepth 20000 in
theorem w168_142 {d : Nat} {st : List Value} {Q : Option Value × jW → Prop} {w : jW} {a1 a2 a3 a4 a5 a6 a7 a8 : Option Value} {x : Nat} : Wp d 168 142 [some (.ref x), a1, a2, a3, a4, a5, a6, a7, a8] (st) w Q = Wp d 168 143 [some (.ref x), a1, a2, a3, a4, a5, a6, a7, a8] (.ref x :: st) w Q := Wp.loc e168_142 rfl rfl rfl
theorem e168_143 : decode (j_co 168) 143 = .ok (.getfield 87, 3) := by decide +kernel
set_option maxRecDepth 20000 in
theorem w168_143 {d : Nat} {st : List Value} {Q : Option Value × jW → Prop} {ls : jL} {xs : List Value} {I : fI} {L : fL} {o : Nat} (ht : f_tg o = 11) : Wp d 168 143 ls (.ref o :: st) (f_W xs I L) Q = Wp d 168 146 ls (.ref (f_rf o 36) :: st) (f_W xs I L) Q := Wp.getR (ci := 11) (k := 36) e168_143 rfl (by decide) (by decide) rfl ht
theorem e168_146 : decode (j_co 168) 146 = .ok (.bipush 60, 2) := by decide +kernel
set_option maxRecDepth 20000 in
theorem w168_146 {d : Nat} {st : List Value} {Q : Option Value × jW → Prop} {ls : jL} {w : jW} : Wp d 168 146 ls (st) w Q = Wp d 168 148 ls (.int (nI 60) :: st) w Q := Wp.alu e168_146 rfl rfl
theorem e168_148 : decode (j_co 168) 148 = .ok (.iload_n 3, 1) := by decide +kernel
set_option maxRecDepth 20000 in
theorem w168_148 {d : Nat} {st : List Value} {Q : Option Value × jW → Prop} {w : jW} {a0 a1 a2 a4 a5 a6 a7 a8 : Option Value} {x : Int32} : Wp d 168 148 [a0, a1, a2, some (.int x), a4, a5, a6, a7, a8] (st) w Q = Wp d 168 149 [a0, a1, a2, some (.int x), a4, a5, a6, a7, a8] (.int x :: st) w Q := Wp.loc e168_148 rfl rfl rfl
theorem e168_149 : decode (j_co 168) 149 = .ok (.imul, 1) := by decide +kernel
set_option maxRecDepth 20000 in
theorem w168_149 {d : Nat} {st : List Value} {Q : Option Value × jW → Prop} {ls : jL} {w : jW} {a b : Int32} : Wp d 168 149 ls (.int b :: .int a :: st) w Q = Wp d 168 150 ls (.int (a * b) :: st) w Q := Wp.alu e168_149 rfl rfl
theorem e168_150 : decode (j_co 168) 150 = .ok (.iload 5, 2) := by decide +kernel
set_option maxRecDepth 20000 in
theorem w168_150 {d : Nat} {st : List Value} {Q : Option Value × jW → Prop} {w : jW} {a0 a1 a2 a3 a4 a6 a7 a8 : Option Value} {x : Int32} : Wp d 168 150 [a0, a1, a2, a3, a4, some (.int x), a6, a7, a8] (st) w Q = Wp d 168 152 [a0, a1, a2, a3, a4, some (.int x), a6, a7, a8] (.int x :: st) w Q := Wp.loc e168_150 rfl rfl rfl
theorem e168_152 : decode (j_co 168) 152 = .ok (.iadd, 1) := by decide +kernel
set_option maxRecDepth 20000 in
theorem w168_152 {d : Nat} {st : List Value} {Q : Option Value × jW → Prop} {ls : jL} {w : jW} {a b : Int32} : Wp d 168 152 ls (.int b :: .int a :: st) w Q = Wp d 168 153 ls (.int (a + b) :: st) w Q := Wp.alu e168_152 rfl rfl
theorem e168_153 : decode (j_co 168) 153 = .ok (.iload 7, 2) := by decide +kernel
set_option maxRecDepth 20000 in
theorem w168_153 {d : Nat} {st : List Value} {Q : Option Value × jW → Prop} {w : jW} {a0 a1 a2 a3 a4 a5 a6 a8 : Option Value} {x : Int32} : Wp d 168 153 [a0, a1, a2, a3, a4, a5, a6, some (.int x), a8] (st) w Q = Wp d 168 155 [a0, a1, a2, a3, a4, a5, a6, some (.int x), a8] (.int x :: st) w Q := Wp.loc e168_153 rfl rfl rfl
theorem e168_155 : decode (j_co 168) 155 = .ok (.iadd, 1) := by decide +kernel
set_option maxRecDepth 20000 in
theorem w168_155 {d : Nat} {st : List Value} {Q : Option Value × jW → Prop} {ls : jL} {w : jW} {a b : Int32} : Wp d 168 155 ls (.int b :: .int a :: st) w Q = Wp d 168 156 ls (.int (a + b) :: st) w Q := Wp.alu e168_155 rfl rfl
theorem e168_156 : decode (j_co 168) 156 = .ok (.iaload, 1) := by decide +kernel
set_option maxRecDepth 20000 in
theorem w168_156 {d : Nat} {st : List Value} {Q : Option Value × jW → Prop} {ls : jL} {xs : List Value} {I : fI} {L : fL} {o : Nat} {i : Int32} (ht : f_tg o = 100) (hi : ¬ (i < 0 ∨ f_ln o ≤ i.toNatClampNeg)) : Wp d 168 156 ls (.int i :: .ref o :: st) (f_W xs I L) Q = Wp d 168 157 ls (.int (I o i.toNatClampNeg) :: st) (f_W xs I L) Q := Wp.iald e168_156 ht hi
theorem e168_157 : decode (j_co 168) 157 = .ok (.istore 8, 2) := by decide +kernel
set_option maxRecDepth 20000 in
theorem w168_157 {d : Nat} {st : List Value} {Q : Option Value × jW → Prop} {w : jW} {a0 a1 a2 a3 a4 a5 a6 a7 a8 : Option Value} {x : Int32} (h : j_cp a7) : Wp d 168 157 [a0, a1, a2, a3, a4, a5, a6, a7, a8] (.int x :: st) w Q = Wp d 168 159 [a0, a1, a2, a3, a4, a5, a6, a7, some (.int x)] (st) w Q := Wp.loc e168_157 rfl rfl (v_stI (ls := [a0, a1, a2, a3, a4, a5, a6, a7, a8]) (k := 8) (show 8 < 9 by decide) h)
theorem e168_159 : decode (j_co 168) 159 = .ok (.iload 8, 2) := by decide +kernel
set_option maxRecDepth 20000 in
theorem w168_159 {d : Nat} {st : List Value} {Q : Option Value × jW → Prop} {w : jW} {a0 a1 a2 a3 a4 a5 a6 a7 : Option Value} {x : Int32} : Wp d 168 159 [a0, a1, a2, a3, a4, a5, a6, a7, some (.int x)] (st) w Q = Wp d 168 161 [a0, a1, a2, a3, a4, a5, a6, a7, some (.int x)] (.int x :: st) w Q := Wp.loc e168_159 rfl rfl rfl
theorem e168_161 : decode (j_co 168) 161 = .ok (.i2l, 1) := by decide +kernel
set_option maxRecDepth 20000 in
theorem w168_161 {d : Nat} {st : List Value} {Q : Option Value × jW → Prop} {ls : jL} {w : jW} {a : Int32} : Wp d 168 161 ls (.int a :: st) w Q = Wp d 168 162 ls (.long a.toInt64 :: st) w Q := Wp.alu e168_161 rfl rfl
theorem e168_162 : decode (j_co 168) 162 = .ok (.iload 6, 2) := by decide +kernel
set_option maxRecDepth 20000 in
theorem w168_162 {d : Nat} {st : List Value} {Q : Option Value × jW → Prop} {w : jW} {a0 a1 a2 a3 a4 a5 a7 a8 : Option Value} {x : Int32} : Wp d 168 162 [a0, a1, a2, a3, a4, a5, some (.int x), a7, a8] (st) w Q = Wp d 168 164 [a0, a1, a2, a3, a4, a5, some (.int x), a7, a8] (.int x :: st) w Q := Wp.loc e168_162 rfl rfl rfl
theorem e168_164 : decode (j_co 168) 164 = .ok (.ineg, 1) := by decide +kernel
set_option maxRecDepth 20000 in
theorem w168_164 {d : Nat} {st : List Value} {Q : Option Value × jW → Prop} {ls : jL} {w : jW} {a : Int32} : Wp d 168 164 ls (.int a :: st) w Q = Wp d 168 165 ls (.int (-a) :: st) w Q := Wp.alu e168_164 rfl rfl
theorem e168_165 : decode (j_co 168) 165 = .ok (.i2l, 1) := by decide +kernel
set_option maxRecDepth 20000 in
theorem w168_165 {d : Nat} {st : List Value} {Q : Option Value × jW → Prop} {ls : jL} {w : jW} {a : Int32} : Wp d 168 165 ls (.int a :: st) w Q = Wp d 168 166 ls (.long a.toInt64 :: st) w Q := Wp.alu e168_165 rfl rfl
theorem e168_166 : decode (j_co 168) 166 = .ok (.iload 6, 2) := by decide +kernel
set_option maxRecDepth 20000 in
theorem w168_166 {d : Nat} {st : List Value} {Q : Option Value × jW → Prop} {w : jW} {a0 a1 a2 a3 a4 a5 a7 a8 : Option Value} {x : Int32} : Wp d 168 166 [a0, a1, a2, a3, a4, a5, some (.int x), a7, a8] (st) w Q = Wp d 168 168 [a0, a1, a2, a3, a4, a5, some (.int x), a7, a8] (.int x :: st) w Q := Wp.loc e168_166 rfl rfl rfl
theorem e168_168 : decode (j_co 168) 168 = .ok (.i2l, 1) := by decide +kernel
set_option maxRecDepth 20000 in
theorem w168_168 {d : Nat} {st : List Value} {Q : Option Value × jW → Prop} {ls : jL} {w : jW} {a : Int32} : Wp d 168 168 ls (.int a :: st) w Q = Wp d 168 169 ls (.long a.toInt64 :: st) w Q := Wp.alu e168_168 rfl rfl
theorem e168_169 : decode (j_co 168) 169 = .ok (.invokestatic 93, 3) := by decide +kernel
set_option maxRecDepth 20000 in
theorem w168_169 {d : Nat} {st : List Value} {Q : Option Value × jW → Prop} {ls : jL} {w : jW} {x0 : Int64} {x1 : Int64} {x2 : Int64} (hs : j_sumc st ≤ 8) : Wp (d + 1) 168 169 ls (.long x2 :: .long x1 :: .long x0 :: st) w Q = Wp d 115 0 [some (.long x0), none, some (.long x1), none, some (.long x2), none] [] w (fun r1 => Wp (d + 1) 168 172 ls (r1.1.toList ++ st) r1.2 Q) := Wp.cs (kd := 1) (y' := 115) (as := [.long x0, .long x1, .long x2]) e168_169 rfl (by decide) (by decide) rfl (show 6 ≤ 6 by decide) hs
theorem e168_172 : decode (j_co 168) 172 = .ok (.ifCond .eq 25, 3) := by decide +kernel
set_option maxRecDepth 20000 in
theorem w168_172 {d : Nat} {st : List Value} {Q : Option Value × jW → Prop} {ls : jL} {w : jW} {a : Int32} : Wp d 168 172 ls (.int a :: st) w Q = ((a = nI 0 → Wp d 168 197 ls st w Q) ∧ (¬ a = nI 0 → Wp d 168 175 ls st w Q)) := Wp.if2 (c := a = nI 0) (off := 25) e168_172 rfl rfl rfl rfl rfl
theorem e168_175 : decode (j_co 168) 175 = .ok (.iload 7, 2) := by decide +kernel
set_option maxRecDepth 20000 in
theorem w168_175 {d : Nat} {st : List Value} {Q : Option Value × jW → Prop} {w : jW} {a0 a1 a2 a3 a4 a5 a6 a8 : Option Value} {x : Int32} : Wp d 168 175 [a0, a1, a2, a3, a4, a5, a6, some (.int x), a8] (st) w Q = Wp d 168 177 [a0, a1, a2, a3, a4, a5, a6, some (.int x), a8] (.int x :: st) w Q := Wp.loc e168_175 rfl rfl rfl
theorem e168_177 : decode (j_co 168) 177 = .ok (.iconst 2, 1) := by decide +kernel
set_option maxRecDepth 20000 in
theorem w168_177 {d : Nat} {st : List Value} {Q : Option Value × jW → Prop} {ls : jL} {w : jW} : Wp d 168 177 ls (st) w Q = Wp d 168 178 ls (.int (nI 2) :: st) w Q := Wp.alu e168_177 rfl rfl
theorem e168_178 : decode (j_co 168) 178 = .ok (.irem, 1) := by decide +kernel
set_option maxRecDepth 20000 in
theorem w168_178 {d : Nat} {st : List Value} {Q : Option Value × jW → Prop} {ls : jL} {w : jW} {a b : Int32} (hb : ¬ b = 0) : Wp d 168 178 ls (.int b :: .int a :: st) w Q = Wp d 168 179 ls (.int (a - a / b * b) :: st) w Q := Wp.alu e168_178 rfl (by unfold j_alu; simp only [if_neg hb])
theorem e168_179 : decode (j_co 168) 179 = .ok (.iconst 1, 1) := by decide +kernel
set_option maxRecDepth 20000 in
theorem w168_179 {d : Nat} {st : List Value} {Q : Option Value × jW → Prop} {ls : jL} {w : jW} : Wp d 168 179 ls (st) w Q = Wp d 168 180 ls (.int (nI 1) :: st) w Q := Wp.alu e168_179 rfl rfl
theorem e168_180 : decode (j_co 168) 180 = .ok (.if_icmp .ne 23, 3) := by decide +kernel
set_option maxRecDepth 20000 in
theorem w168_180 {d : Nat} {st : List Value} {Q : Option Value × jW → Prop} {ls : jL} {w : jW} {a b : Int32} : Wp d 168 180 ls (.int b :: .int a :: st) w Q = ((a = b → Wp d 168 183 ls st w Q) ∧ (¬ a = b → Wp d 168 203 ls st w Q)) := Wp.if2n (c := a = b) (off := 23) e168_180 rfl rfl rfl rfl rfl
theorem e168_183 : decode (j_co 168) 183 = .ok (.iload 8, 2) := by decide +kernel
set_option maxRecDepth 20000 in
theorem w168_183 {d : Nat} {st : List Value} {Q : Option Value × jW → Prop} {w : jW} {a0 a1 a2 a3 a4 a5 a6 a7 : Option Value} {x : Int32} : Wp d 168 183 [a0, a1, a2, a3, a4, a5, a6, a7, some (.int x)] (st) w Q = Wp d 168 185 [a0, a1, a2, a3, a4, a5, a6, a7, some (.int x)] (.int x :: st) w Q := Wp.loc e168_183 rfl rfl rfl
theorem e168_185 : decode (j_co 168) 185 = .ok (.aload_n 0, 1) := by decide +kernel
set_option maxRecDepth 20000 in
theorem w168_185 {d : Nat} {st : List Value} {Q : Option Value × jW → Prop} {w : jW} {a1 a2 a3 a4 a5 a6 a7 a8 : Option Value} {x : Nat} : Wp d 168 185 [some (.ref x), a1, a2, a3, a4, a5, a6, a7, a8] (st) w Q = Wp d 168 186 [some (.ref x), a1, a2, a3, a4, a5, a6, a7, a8] (.ref x :: st) w Q := Wp.loc e168_185 rfl rfl rfl
theorem e168_186 : decode (j_co 168) 186 = .ok (.getfield 69, 3) := by decide +kernel
set_option maxRecDepth 20000 in
theorem w168_186 {d : Nat} {st : List Value} {Q : Option Value × jW → Prop} {ls : jL} {xs : List Value} {I : fI} {L : fL} {o : Nat} (ht : f_tg o = 11) : Wp d 168 186 ls (.ref o :: st) (f_W xs I L) Q = Wp d 168 189 ls (.ref (f_rf o 26) :: st) (f_W xs I L) Q := Wp.getR (ci := 11) (k := 26) e168_186 rfl (by decide) (by decide) rfl ht
theorem e168_189 : decode (j_co 168) 189 = .ok (.iload 7, 2) := by decide +kernel
set_option maxRecDepth 20000 in
theorem w168_189 {d : Nat} {st : List Value} {Q : Option Value × jW → Prop} {w : jW} {a0 a1 a2 a3 a4 a5 a6 a8 : Option Value} {x : Int32} : Wp d 168 189 [a0, a1, a2, a3, a4, a5, a6, some (.int x), a8] (st) w Q = Wp d 168 191 [a0, a1, a2, a3, a4, a5, a6, some (.int x), a8] (.int x :: st) w Q := Wp.loc e168_189 rfl rfl rfl
theorem e168_191 : decode (j_co 168) 191 = .ok (.iconst 1, 1) := by decide +kernel
set_option maxRecDepth 20000 in
theorem w168_191 {d : Nat} {st : List Value} {Q : Option Value × jW → Prop} {ls : jL} {w : jW} : Wp d 168 191 ls (st) w Q = Wp d 168 192 ls (.int (nI 1) :: st) w Q := Wp.alu e168_191 rfl rfl
theorem e168_192 : decode (j_co 168) 192 = .ok (.isub, 1) := by decide +kernel
set_option maxRecDepth 20000 in
theorem w168_192 {d : Nat} {st : List Value} {Q : Option Value × jW → Prop} {ls : jL} {w : jW} {a b : Int32} : Wp d 168 192 ls (.int b :: .int a :: st) w Q = Wp d 168 193 ls (.int (a - b) :: st) w Q := Wp.alu e168_192 rfl rfl
theorem e168_193 : decode (j_co 168) 193 = .ok (.iaload, 1) := by decide +kernel
set_option maxRecDepth 20000 in
theorem w168_193 {d : Nat} {st : List Value} {Q : Option Value × jW → Prop} {ls : jL} {xs : List Value} {I : fI} {L : fL} {o : Nat} {i : Int32} (ht : f_tg o = 100) (hi : ¬ (i < 0 ∨ f_ln o ≤ i.toNatClampNeg)) : Wp d 168 193 ls (.int i :: .ref o :: st) (f_W xs I L) Q = Wp d 168 194 ls (.int (I o i.toNatClampNeg) :: st) (f_W xs I L) Q := Wp.iald e168_193 ht hi
theorem e168_194 : decode (j_co 168) 194 = .ok (.if_icmp .ge 9, 3) := by decide +kernel
set_option maxRecDepth 20000 in
theorem w168_194 {d : Nat} {st : List Value} {Q : Option Value × jW → Prop} {ls : jL} {w : jW} {a b : Int32} : Wp d 168 194 ls (.int b :: .int a :: st) w Q = ((b ≤ a → Wp d 168 203 ls st w Q) ∧ (¬ b ≤ a → Wp d 168 197 ls st w Q)) := Wp.if2 (c := b ≤ a) (off := 9) e168_194 rfl rfl rfl rfl rfl
theorem e168_197 : decode (j_co 168) 197 = .ok (.bipush (-20), 2) := by decide +kernel
set_option maxRecDepth 20000 in
theorem w168_197 {d : Nat} {st : List Value} {Q : Option Value × jW → Prop} {ls : jL} {w : jW} : Wp d 168 197 ls (st) w Q = Wp d 168 199 ls (.int (-20) :: st) w Q := Wp.alu e168_197 rfl rfl
theorem e168_199 : decode (j_co 168) 199 = .ok (.iload 7, 2) := by decide +kernel
set_option maxRecDepth 20000 in
theorem w168_199 {d : Nat} {st : List Value} {Q : Option Value × jW → Prop} {w : jW} {a0 a1 a2 a3 a4 a5 a6 a8 : Option Value} {x : Int32} : Wp d 168 199 [a0, a1, a2, a3, a4, a5, a6, some (.int x), a8] (st) w Q = Wp d 168 201 [a0, a1, a2, a3, a4, a5, a6, some (.int x), a8] (.int x :: st) w Q := Wp.loc e168_199 rfl rfl rfl
theorem e168_201 : decode (j_co 168) 201 = .ok (.isub, 1) := by decide +kernel
set_option maxRecDepth 20000 in
theorem w168_201 {d : Nat} {st : List Value} {Q : Option Value × jW → Prop} {ls : jL} {w : jW} {a b : Int32} : Wp d 168 201 ls (.int b :: .int a :: st) w Q = Wp d 168 202 ls (.int (a - b) :: st) w Q := Wp.alu e168_201 rfl rfl
theorem e168_202 : decode (j_co 168) 202 = .ok (.ireturn, 1) := by decide +kernel
set_option maxRecDepth 20000 in
theorem w168_202 {d : Nat} {Q : Option Value × jW → Prop} {ls : jL} {w : jW} {x : Int32} : Wp d 168 202 ls [.int x] w Q = Q (some (.int x), w) := Wp.ret e168_202 rfl
theorem e168_203 : decode (j_co 168) 203 = .ok (.aload_n 0, 1) := by decide +kernel
set_option maxRecDepth 20000 in
theorem w168_203 {d : Nat} {st : List Value} {Q : Option Value × jW → Prop} {w : jW} {a1 a2 a3 a4 a5 a6 a7 a8 : Option Value} {x : Nat} : Wp d 168 203 [some (.ref x), a1, a2, a3, a4, a5, a6, a7, a8] (st) w Q = Wp d 168 204 [some (.ref x), a1, a2, a3, a4, a5, a6, a7, a8] (.ref x :: st) w Q := Wp.loc e168_203 rfl rfl rfl
theorem e168_204 : decode (j_co 168) 204 = .ok (.getfield 69, 3) := by decide +kernel
set_option maxRecDepth 20000 in
theorem w168_204 {d : Nat} {st : List Value} {Q : Option Value × jW → Prop} {ls : jL} {xs : List Value} {I : fI} {L : fL} {o : Nat} (ht : f_tg o = 11) : Wp d 168 204 ls (.ref o :: st) (f_W xs I L) Q = Wp d 168 207 ls (.ref (f_rf o 26) :: st) (f_W xs I L) Q := Wp.getR (ci := 11) (k := 26) e168_204 rfl (by decide) (by decide) rfl ht
theorem e168_207 : decode (j_co 168) 207 = .ok (.iload 7, 2) := by decide +kernel
set_option maxRecDepth 20000 in
theorem w168_207 {d : Nat} {st : List Value} {Q : Option Value × jW → Prop} {w : jW} {a0 a1 a2 a3 a4 a5 a6 a8 : Option Value} {x : Int32} : Wp d 168 207 [a0, a1, a2, a3, a4, a5, a6, some (.int x), a8] (st) w Q = Wp d 168 209 [a0, a1, a2, a3, a4, a5, a6, some (.int x), a8] (.int x :: st) w Q := Wp.loc e168_207 rfl rfl rfl
theorem e168_209 : decode (j_co 168) 209 = .ok (.iload 8, 2) := by decide +kernel
set_option maxRecDepth 20000 in
theorem w168_209 {d : Nat} {st : List Value} {Q : Option Value × jW → Prop} {w : jW} {a0 a1 a2 a3 a4 a5 a6 a7 : Option Value} {x : Int32} : Wp d 168 209 [a0, a1, a2, a3, a4, a5, a6, a7, some (.int x)] (st) w Q = Wp d 168 211 [a0, a1, a2, a3, a4, a5, a6, a7, some (.int x)] (.int x :: st) w Q := Wp.loc e168_209 rfl rfl rfl
theorem e168_211 : decode (j_co 168) 211 = .ok (.iastore, 1) := by decide +kernel
set_option maxRecDepth 20000 in
theorem w168_211 {d : Nat} {st : List Value} {Q : Option Value × jW → Prop} {ls : jL} {xs : List Value} {I : fI} {L : fL} {o : Nat} {i x : Int32} (ht : f_tg o = 100) (hi : ¬ (i < 0 ∨ f_ln o ≤ i.toNatClampNeg)) : Wp d 168 211 ls (.int x :: .int i :: .ref o :: st) (f_W xs I L) Q = Wp d 168 212 ls (st) (f_W xs (f_up I o i.toNatClampNeg x) L) Q := Wp.iast e168_211 ht hi
theorem e168_212 : decode (j_co 168) 212 = .ok (.iinc 7 1, 3) := by decide +kernel
set_option maxRecDepth 20000 in
theorem w168_212 {d : Nat} {st : List Value} {Q : Option Value × jW → Prop} {w : jW} {a0 a1 a2 a3 a4 a5 a6 a8 : Option Value} {x : Int32} (h : j_cp a6) : Wp d 168 212 [a0, a1, a2, a3, a4, a5, a6, some (.int x), a8] (st) w Q = Wp d 168 215 [a0, a1, a2, a3, a4, a5, a6, some (.int (x + nI 1)), a8] (st) w Q := Wp.loc e168_212 rfl rfl (v_inc (ls := [a0, a1, a2, a3, a4, a5, a6, some (.int x), a8]) (k := 7) (n := 1) rfl (show 7 < 9 by decide) h)
theorem e168_215 : decode (j_co 168) 215 = .ok (.goto (-106), 3) := by decide +kernel
set_option maxRecDepth 20000 in
theorem w168_215 {d : Nat} {st : List Value} {Q : Option Value × jW → Prop} {ls : jL} {w : jW} : Wp d 168 215 ls (st) w Q = Wp d 168 109 ls (st) w Q := Wp.br e168_215 (Or.inl rfl) rfl rfl rfl rfl
theorem e168_218 : decode (j_co 168) 218 = .ok (.iconst 0, 1) := by decide +kernel
set_option maxRecDepth 20000 in
theorem w168_218 {d : Nat} {st : List Value} {Q : Option Value × jW → Prop} {ls : jL} {w : jW} : Wp d 168 218 ls (st) w Q = Wp d 168 219 ls (.int (nI 0) :: st) w Q := Wp.alu e168_218 rfl rfl
theorem e168_219 : decode (j_co 168) 219 = .ok (.istore 7, 2) := by decide +kernel
set_option maxRecDepth 20000 in
theorem w168_219 {d : Nat} {st : List Value} {Q : Option Value × jW → Prop} {w : jW} {a0 a1 a2 a3 a4 a5 a6 a7 a8 : Option Value} {x : Int32} (h : j_cp a6) : Wp d 168 219 [a0, a1, a2, a3, a4, a5, a6, a7, a8] (.int x :: st) w Q = Wp d 168 221 [a0, a1, a2, a3, a4, a5, a6, some (.int x), a8] (st) w Q := Wp.loc e168_219 rfl rfl (v_stI (ls := [a0, a1, a2, a3, a4, a5, a6, a7, a8]) (k := 7) (show 7 < 9 by decide) h)
theorem e168_221 : decode (j_co 168) 221 = .ok (.iload 7, 2) := by decide +kernel
set_option maxRecDepth 20000 in
theorem w168_221 {d : Nat} {st : List Value} {Q : Option Value × jW → Prop} {w : jW} {a0 a1 a2 a3 a4 a5 a6 a8 : Option Value} {x : Int32} : Wp d 168 221 [a0, a1, a2, a3, a4, a5, a6, some (.int x), a8] (st) w Q = Wp d 168 223 [a0, a1, a2, a3, a4, a5, a6, some (.int x), a8] (.int x :: st) w Q := Wp.loc e168_221 rfl rfl rfl
theorem e168_223 : decode (j_co 168) 223 = .ok (.bipush 6, 2) := by decide +kernel
set_option maxRecDepth 20000 in
theorem w168_223 {d : Nat} {st : List Value} {Q : Option Value × jW → Prop} {ls : jL} {w : jW} : Wp d 168 223 ls (st) w Q = Wp d 168 225 ls (.int (nI 6) :: st) w Q := Wp.alu e168_223 rfl rfl
theorem e168_225 : decode (j_co 168) 225 = .ok (.if_icmp .ge 81, 3) := by decide +kernel
set_option maxRecDepth 20000 in
theorem w168_225 {d : Nat} {st : List Value} {Q : Option Value × jW → Prop} {ls : jL} {w : jW} {a b : Int32} : Wp d 168 225 ls (.int b :: .int a :: st) w Q = ((b ≤ a → Wp d 168 306 ls st w Q) ∧ (¬ b ≤ a → Wp d 168 228 ls st w Q)) := Wp.if2 (c := b ≤ a) (off := 81) e168_225 rfl rfl rfl rfl rfl
theorem e168_228 : decode (j_co 168) 228 = .ok (.iload_n 1, 1) := by decide +kernel
set_option maxRecDepth 20000 in
theorem w168_228 {d : Nat} {st : List Value} {Q : Option Value × jW → Prop} {w : jW} {a0 a2 a3 a4 a5 a6 a7 a8 : Option Value} {x : Int32} : Wp d 168 228 [a0, some (.int x), a2, a3, a4, a5, a6, a7, a8] (st) w Q = Wp d 168 229 [a0, some (.int x), a2, a3, a4, a5, a6, a7, a8] (.int x :: st) w Q := Wp.loc e168_228 rfl rfl rfl
theorem e168_229 : decode (j_co 168) 229 = .ok (.ifCond .ne 25, 3) := by decide +kernel
set_option maxRecDepth 20000 in
theorem w168_229 {d : Nat} {st : List Value} {Q : Option Value × jW → Prop} {ls : jL} {w : jW} {a : Int32} : Wp d 168 229 ls (.int a :: st) w Q = ((a = nI 0 → Wp d 168 232 ls st w Q) ∧ (¬ a = nI 0 → Wp d 168 254 ls st w Q)) := Wp.if2n (c := a = nI 0) (off := 25) e168_229 rfl rfl rfl rfl rfl
theorem e168_232 : decode (j_co 168) 232 = .ok (.aload_n 0, 1) := by decide +kernel
set_option maxRecDepth 20000 in
theorem w168_232 {d : Nat} {st : List Value} {Q : Option Value × jW → Prop} {w : jW} {a1 a2 a3 a4 a5 a6 a7 a8 : Option Value} {x : Nat} : Wp d 168 232 [some (.ref x), a1, a2, a3, a4, a5, a6, a7, a8] (st) w Q = Wp d 168 233 [some (.ref x), a1, a2, a3, a4, a5, a6, a7, a8] (.ref x :: st) w Q := Wp.loc e168_232 rfl rfl rfl
theorem e168_233 : decode (j_co 168) 233 = .ok (.getfield 7, 3) := by decide +kernel
set_option maxRecDepth 20000 in
theorem w168_233 {d : Nat} {st : List Value} {Q : Option Value × jW → Prop} {ls : jL} {xs : List Value} {I : fI} {L : fL} {o : Nat} (ht : f_tg o = 11) : Wp d 168 233 ls (.ref o :: st) (f_W xs I L) Q = Wp d 168 236 ls (.ref (f_rf o 1) :: st) (f_W xs I L) Q := Wp.getR (ci := 11) (k := 1) e168_233 rfl (by decide) (by decide) rfl ht
theorem e168_236 : decode (j_co 168) 236 = .ok (.bipush 6, 2) := by decide +kernel
set_option maxRecDepth 20000 in
theorem w168_236 {d : Nat} {st : List Value} {Q : Option Value × jW → Prop} {ls : jL} {w : jW} : Wp d 168 236 ls (st) w Q = Wp d 168 238 ls (.int (nI 6) :: st) w Q := Wp.alu e168_236 rfl rfl
theorem e168_238 : decode (j_co 168) 238 = .ok (.iload_n 2, 1) := by decide +kernel
set_option maxRecDepth 20000 in
theorem w168_238 {d : Nat} {st : List Value} {Q : Option Value × jW → Prop} {w : jW} {a0 a1 a3 a4 a5 a6 a7 a8 : Option Value} {x : Int32} : Wp d 168 238 [a0, a1, some (.int x), a3, a4, a5, a6, a7, a8] (st) w Q = Wp d 168 239 [a0, a1, some (.int x), a3, a4, a5, a6, a7, a8] (.int x :: st) w Q := Wp.loc e168_238 rfl rfl rfl
theorem e168_239 : decode (j_co 168) 239 = .ok (.imul, 1) := by decide +kernel
set_option maxRecDepth 20000 in
theorem w168_239 {d : Nat} {st : List Value} {Q : Option Value × jW → Prop} {ls : jL} {w : jW} {a b : Int32} : Wp d 168 239 ls (.int b :: .int a :: st) w Q = Wp d 168 240 ls (.int (a * b) :: st) w Q := Wp.alu e168_239 rfl rfl
theorem e168_240 : decode (j_co 168) 240 = .ok (.iload 7, 2) := by decide +kernel
set_option maxRecDepth 20000 in
theorem w168_240 {d : Nat} {st : List Value} {Q : Option Value × jW → Prop} {w : jW} {a0 a1 a2 a3 a4 a5 a6 a8 : Option Value} {x : Int32} : Wp d 168 240 [a0, a1, a2, a3, a4, a5, a6, some (.int x), a8] (st) w Q = Wp d 168 242 [a0, a1, a2, a3, a4, a5, a6, some (.int x), a8] (.int x :: st) w Q := Wp.loc e168_240 rfl rfl rfl
theorem e168_242 : decode (j_co 168) 242 = .ok (.iadd, 1) := by decide +kernel
set_option maxRecDepth 20000 in
theorem w168_242 {d : Nat} {st : List Value} {Q : Option Value × jW → Prop} {ls : jL} {w : jW} {a b : Int32} : Wp d 168 242 ls (.int b :: .int a :: st) w Q = Wp d 168 243 ls (.int (a + b) :: st) w Q := Wp.alu e168_242 rfl rfl
theorem e168_243 : decode (j_co 168) 243 = .ok (.aload_n 0, 1) := by decide +kernel
set_option maxRecDepth 20000 in
theorem w168_243 {d : Nat} {st : List Value} {Q : Option Value × jW → Prop} {w : jW} {a1 a2 a3 a4 a5 a6 a7 a8 : Option Value} {x : Nat} : Wp d 168 243 [some (.ref x), a1, a2, a3, a4, a5, a6, a7, a8] (st) w Q = Wp d 168 244 [some (.ref x), a1, a2, a3, a4, a5, a6, a7, a8] (.ref x :: st) w Q := Wp.loc e168_243 rfl rfl rfl
theorem e168_244 : decode (j_co 168) 244 = .ok (.getfield 69, 3) := by decide +kernel
set_option maxRecDepth 20000 in
theorem w168_244 {d : Nat} {st : List Value} {Q : Option Value × jW → Prop} {ls : jL} {xs : List Value} {I : fI} {L : fL} {o : Nat} (ht : f_tg o = 11) : Wp d 168 244 ls (.ref o :: st) (f_W xs I L) Q = Wp d 168 247 ls (.ref (f_rf o 26) :: st) (f_W xs I L) Q := Wp.getR (ci := 11) (k := 26) e168_244 rfl (by decide) (by decide) rfl ht
theorem e168_247 : decode (j_co 168) 247 = .ok (.iload 7, 2) := by decide +kernel
set_option maxRecDepth 20000 in
theorem w168_247 {d : Nat} {st : List Value} {Q : Option Value × jW → Prop} {w : jW} {a0 a1 a2 a3 a4 a5 a6 a8 : Option Value} {x : Int32} : Wp d 168 247 [a0, a1, a2, a3, a4, a5, a6, some (.int x), a8] (st) w Q = Wp d 168 249 [a0, a1, a2, a3, a4, a5, a6, some (.int x), a8] (.int x :: st) w Q := Wp.loc e168_247 rfl rfl rfl
theorem e168_249 : decode (j_co 168) 249 = .ok (.iaload, 1) := by decide +kernel
set_option maxRecDepth 20000 in
theorem w168_249 {d : Nat} {st : List Value} {Q : Option Value × jW → Prop} {ls : jL} {xs : List Value} {I : fI} {L : fL} {o : Nat} {i : Int32} (ht : f_tg o = 100) (hi : ¬ (i < 0 ∨ f_ln o ≤ i.toNatClampNeg)) : Wp d 168 249 ls (.int i :: .ref o :: st) (f_W xs I L) Q = Wp d 168 250 ls (.int (I o i.toNatClampNeg) :: st) (f_W xs I L) Q := Wp.iald e168_249 ht hi
theorem e168_250 : decode (j_co 168) 250 = .ok (.iastore, 1) := by decide +kernel
set_option maxRecDepth 20000 in
theorem w168_250 {d : Nat} {st : List Value} {Q : Option Value × jW → Prop} {ls : jL} {xs : List Value} {I : fI} {L : fL} {o : Nat} {i x : Int32} (ht : f_tg o = 100) (hi : ¬ (i < 0 ∨ f_ln o ≤ i.toNatClampNeg)) : Wp d 168 250 ls (.int x :: .int i :: .ref o :: st) (f_W xs I L) Q = Wp d 168 251 ls (st) (f_W xs (f_up I o i.toNatClampNeg x) L) Q := Wp.iast e168_250 ht hi
theorem e168_251 : decode (j_co 168) 251 = .ok (.goto 49, 3) := by decide +kernel
set_option maxRecDepth 20000 in
theorem w168_251 {d : Nat} {st : List Value} {Q : Option Value × jW → Prop} {ls : jL} {w : jW} : Wp d 168 251 ls (st) w Q = Wp d 168 300 ls (st) w Q := Wp.br e168_251 (Or.inl rfl) rfl rfl rfl rfl
theorem e168_254 : decode (j_co 168) 254 = .ok (.iload_n 1, 1) := by decide +kernel
set_option maxRecDepth 20000 in
theorem w168_254 {d : Nat} {st : List Value} {Q : Option Value × jW → Prop} {w : jW} {a0 a2 a3 a4 a5 a6 a7 a8 : Option Value} {x : Int32} : Wp d 168 254 [a0, some (.int x), a2, a3, a4, a5, a6, a7, a8] (st) w Q = Wp d 168 255 [a0, some (.int x), a2, a3, a4, a5, a6, a7, a8] (.int x :: st) w Q := Wp.loc e168_254 rfl rfl rfl
theorem e168_255 : decode (j_co 168) 255 = .ok (.iconst 1, 1) := by decide +kernel
set_option maxRecDepth 20000 in
theorem w168_255 {d : Nat} {st : List Value} {Q : Option Value × jW → Prop} {ls : jL} {w : jW} : Wp d 168 255 ls (st) w Q = Wp d 168 256 ls (.int (nI 1) :: st) w Q := Wp.alu e168_255 rfl rfl
theorem e168_256 : decode (j_co 168) 256 = .ok (.if_icmp .ne 25, 3) := by decide +kernel
set_option maxRecDepth 20000 in
theorem w168_256 {d : Nat} {st : List Value} {Q : Option Value × jW → Prop} {ls : jL} {w : jW} {a b : Int32} : Wp d 168 256 ls (.int b :: .int a :: st) w Q = ((a = b → Wp d 168 259 ls st w Q) ∧ (¬ a = b → Wp d 168 281 ls st w Q)) := Wp.if2n (c := a = b) (off := 25) e168_256 rfl rfl rfl rfl rfl
theorem e168_259 : decode (j_co 168) 259 = .ok (.aload_n 0, 1) := by decide +kernel
set_option maxRecDepth 20000 in
theorem w168_259 {d : Nat} {st : List Value} {Q : Option Value × jW → Prop} {w : jW} {a1 a2 a3 a4 a5 a6 a7 a8 : Option Value} {x : Nat} : Wp d 168 259 [some (.ref x), a1, a2, a3, a4, a5, a6, a7, a8] (st) w Q = Wp d 168 260 [some (.ref x), a1, a2, a3, a4, a5, a6, a7, a8] (.ref x :: st) w Q := Wp.loc e168_259 rfl rfl rfl
theorem e168_260 : decode (j_co 168) 260 = .ok (.getfield 13, 3) := by decide +kernel
set_option maxRecDepth 20000 in
theorem w168_260 {d : Nat} {st : List Value} {Q : Option Value × jW → Prop} {ls : jL} {xs : List Value} {I : fI} {L : fL} {o : Nat} (ht : f_tg o = 11) : Wp d 168 260 ls (.ref o :: st) (f_W xs I L) Q = Wp d 168 263 ls (.ref (f_rf o 2) :: st) (f_W xs I L) Q := Wp.getR (ci := 11) (k := 2) e168_260 rfl (by decide) (by decide) rfl ht
theorem e168_263 : decode (j_co 168) 263 = .ok (.bipush 6, 2) := by decide +kernel
set_option maxRecDepth 20000 in
theorem w168_263 {d : Nat} {st : List Value} {Q : Option Value × jW → Prop} {ls : jL} {w : jW} : Wp d 168 263 ls (st) w Q = Wp d 168 265 ls (.int (nI 6) :: st) w Q := Wp.alu e168_263 rfl rfl
theorem e168_265 : decode (j_co 168) 265 = .ok (.iload_n 2, 1) := by decide +kernel
set_option maxRecDepth 20000 in
theorem w168_265 {d : Nat} {st : List Value} {Q : Option Value × jW → Prop} {w : jW} {a0 a1 a3 a4 a5 a6 a7 a8 : Option Value} {x : Int32} : Wp d 168 265 [a0, a1, some (.int x), a3, a4, a5, a6, a7, a8] (st) w Q = Wp d 168 266 [a0, a1, some (.int x), a3, a4, a5, a6, a7, a8] (.int x :: st) w Q := Wp.loc e168_265 rfl rfl rfl
theorem e168_266 : decode (j_co 168) 266 = .ok (.imul, 1) := by decide +kernel
set_option maxRecDepth 20000 in
theorem w168_266 {d : Nat} {st : List Value} {Q : Option Value × jW → Prop} {ls : jL} {w : jW} {a b : Int32} : Wp d 168 266 ls (.int b :: .int a :: st) w Q = Wp d 168 267 ls (.int (a * b) :: st) w Q := Wp.alu e168_266 rfl rfl
theorem e168_267 : decode (j_co 168) 267 = .ok (.iload 7, 2) := by decide +kernel
set_option maxRecDepth 20000 in
theorem w168_267 {d : Nat} {st : List Value} {Q : Option Value × jW → Prop} {w : jW} {a0 a1 a2 a3 a4 a5 a6 a8 : Option Value} {x : Int32} : Wp d 168 267 [a0, a1, a2, a3, a4, a5, a6, some (.int x), a8] (st) w Q = Wp d 168 269 [a0, a1, a2, a3, a4, a5, a6, some (.int x), a8] (.int x :: st) w Q := Wp.loc e168_267 rfl rfl rfl
theorem e168_269 : decode (j_co 168) 269 = .ok (.iadd, 1) := by decide +kernel
set_option maxRecDepth 20000 in
theorem w168_269 {d : Nat} {st : List Value} {Q : Option Value × jW → Prop} {ls : jL} {w : jW} {a b : Int32} : Wp d 168 269 ls (.int b :: .int a :: st) w Q = Wp d 168 270 ls (.int (a + b) :: st) w Q := Wp.alu e168_269 rfl rfl
theorem e168_270 : decode (j_co 168) 270 = .ok (.aload_n 0, 1) := by decide +kernel
set_option maxRecDepth 20000 in
theorem w168_270 {d : Nat} {st : List Value} {Q : Option Value × jW → Prop} {w : jW} {a1 a2 a3 a4 a5 a6 a7 a8 : Option Value} {x : Nat} : Wp d 168 270 [some (.ref x), a1, a2, a3, a4, a5, a6, a7, a8] (st) w Q = Wp d 168 271 [some (.ref x), a1, a2, a3, a4, a5, a6, a7, a8] (.ref x :: st) w Q := Wp.loc e168_270 rfl rfl rfl
theorem e168_271 : decode (j_co 168) 271 = .ok (.getfield 69, 3) := by decide +kernel
set_option maxRecDepth 20000 in
theorem w168_271 {d : Nat} {st : List Value} {Q : Option Value × jW → Prop} {ls : jL} {xs : List Value} {I : fI} {L : fL} {o : Nat} (ht : f_tg o = 11) : Wp d 168 271 ls (.ref o :: st) (f_W xs I L) Q = Wp d 168 274 ls (.ref (f_rf o 26) :: st) (f_W xs I L) Q := Wp.getR (ci := 11) (k := 26) e168_271 rfl (by decide) (by decide) rfl ht
theorem e168_274 : decode (j_co 168) 274 = .ok (.iload 7, 2) := by decide +kernel
set_option maxRecDepth 20000 in
theorem w168_274 {d : Nat} {st : List Value} {Q : Option Value × jW → Prop} {w : jW} {a0 a1 a2 a3 a4 a5 a6 a8 : Option Value} {x : Int32} : Wp d 168 274 [a0, a1, a2, a3, a4, a5, a6, some (.int x), a8] (st) w Q = Wp d 168 276 [a0, a1, a2, a3, a4, a5, a6, some (.int x), a8] (.int x :: st) w Q := Wp.loc e168_274 rfl rfl rfl
theorem e168_276 : decode (j_co 168) 276 = .ok (.iaload, 1) := by decide +kernel
set_option maxRecDepth 20000 in
theorem w168_276 {d : Nat} {st : List Value} {Q : Option Value × jW → Prop} {ls : jL} {xs : List Value} {I : fI} {L : fL} {o : Nat} {i : Int32} (ht : f_tg o = 100) (hi : ¬ (i < 0 ∨ f_ln o ≤ i.toNatClampNeg)) : Wp d 168 276 ls (.int i :: .ref o :: st) (f_W xs I L) Q = Wp d 168 277 ls (.int (I o i.toNatClampNeg) :: st) (f_W xs I L) Q := Wp.iald e168_276 ht hi
theorem e168_277 : decode (j_co 168) 277 = .ok (.iastore, 1) := by decide +kernel
set_option maxRecDepth 20000 in
theorem w168_277 {d : Nat} {st : List Value} {Q : Option Value × jW → Prop} {ls : jL} {xs : List Value} {I : fI} {L : fL} {o : Nat} {i x : Int32} (ht : f_tg o = 100) (hi : ¬ (i < 0 ∨ f_ln o ≤ i.toNatClampNeg)) : Wp d 168 277 ls (.int x :: .int i :: .ref o :: st) (f_W xs I L) Q = Wp d 168 278 ls (st) (f_W xs (f_up I o i.toNatClampNeg x) L) Q := Wp.iast e168_277 ht hi
theorem e168_278 : decode (j_co 168) 278 = .ok (.goto 22, 3) := by decide +kernel
set_option maxRecDepth 20000 in
theorem w168_278 {d : Nat} {st : List Value} {Q : Option Value × jW → Prop} {ls : jL} {w : jW} : Wp d 168 278 ls (st) w Q = Wp d 168 300 ls (st) w Q := Wp.br e168_278 (Or.inl rfl) rfl rfl rfl rfl
theorem e168_281 : decode (j_co 168) 281 = .ok (.aload_n 0, 1) := by decide +kernel
set_option maxRecDepth 20000 in
theorem w168_281 {d : Nat} {st : List Value} {Q : Option Value × jW → Prop} {w : jW} {a1 a2 a3 a4 a5 a6 a7 a8 : Option Value} {x : Nat} : Wp d 168 281 [some (.ref x), a1, a2, a3, a4, a5, a6, a7, a8] (st) w Q = Wp d 168 282 [some (.ref x), a1, a2, a3, a4, a5, a6, a7, a8] (.ref x :: st) w Q := Wp.loc e168_281 rfl rfl rfl
theorem e168_282 : decode (j_co 168) 282 = .ok (.getfield 22, 3) := by decide +kernel
set_option maxRecDepth 20000 in
theorem w168_282 {d : Nat} {st : List Value} {Q : Option Value × jW → Prop} {ls : jL} {xs : List Value} {I : fI} {L : fL} {o : Nat} (ht : f_tg o = 11) : Wp d 168 282 ls (.ref o :: st) (f_W xs I L) Q = Wp d 168 285 ls (.ref (f_rf o 6) :: st) (f_W xs I L) Q := Wp.getR (ci := 11) (k := 6) e168_282 rfl (by decide) (by decide) rfl ht
theorem e168_285 : decode (j_co 168) 285 = .ok (.bipush 6, 2) := by decide +kernel
set_option maxRecDepth 20000 in
theorem w168_285 {d : Nat} {st : List Value} {Q : Option Value × jW → Prop} {ls : jL} {w : jW} : Wp d 168 285 ls (st) w Q = Wp d 168 287 ls (.int (nI 6) :: st) w Q := Wp.alu e168_285 rfl rfl
theorem e168_287 : decode (j_co 168) 287 = .ok (.iload_n 2, 1) := by decide +kernel
set_option maxRecDepth 20000 in
theorem w168_287 {d : Nat} {st : List Value} {Q : Option Value × jW → Prop} {w : jW} {a0 a1 a3 a4 a5 a6 a7 a8 : Option Value} {x : Int32} : Wp d 168 287 [a0, a1, some (.int x), a3, a4, a5, a6, a7, a8] (st) w Q = Wp d 168 288 [a0, a1, some (.int x), a3, a4, a5, a6, a7, a8] (.int x :: st) w Q := Wp.loc e168_287 rfl rfl rfl
theorem e168_288 : decode (j_co 168) 288 = .ok (.imul, 1) := by decide +kernel
set_option maxRecDepth 20000 in
theorem w168_288 {d : Nat} {st : List Value} {Q : Option Value × jW → Prop} {ls : jL} {w : jW} {a b : Int32} : Wp d 168 288 ls (.int b :: .int a :: st) w Q = Wp d 168 289 ls (.int (a * b) :: st) w Q := Wp.alu e168_288 rfl rfl
theorem e168_289 : decode (j_co 168) 289 = .ok (.iload 7, 2) := by decide +kernel
set_option maxRecDepth 20000 in
theorem w168_289 {d : Nat} {st : List Value} {Q : Option Value × jW → Prop} {w : jW} {a0 a1 a2 a3 a4 a5 a6 a8 : Option Value} {x : Int32} : Wp d 168 289 [a0, a1, a2, a3, a4, a5, a6, some (.int x), a8] (st) w Q = Wp d 168 291 [a0, a1, a2, a3, a4, a5, a6, some (.int x), a8] (.int x :: st) w Q := Wp.loc e168_289 rfl rfl rfl
theorem e168_291 : decode (j_co 168) 291 = .ok (.iadd, 1) := by decide +kernel
set_option maxRecDepth 20000 in
theorem w168_291 {d : Nat} {st : List Value} {Q : Option Value × jW → Prop} {ls : jL} {w : jW} {a b : Int32} : Wp d 168 291 ls (.int b :: .int a :: st) w Q = Wp d 168 292 ls (.int (a + b) :: st) w Q := Wp.alu e168_291 rfl rfl
theorem e168_292 : decode (j_co 168) 292 = .ok (.aload_n 0, 1) := by decide +kernel
set_option maxRecDepth 20000 in
theorem w168_292 {d : Nat} {st : List Value} {Q : Option Value × jW → Prop} {w : jW} {a1 a2 a3 a4 a5 a6 a7 a8 : Option Value} {x : Nat} : Wp d 168 292 [some (.ref x), a1, a2, a3, a4, a5, a6, a7, a8] (st) w Q = Wp d 168 293 [some (.ref x), a1, a2, a3, a4, a5, a6, a7, a8] (.ref x :: st) w Q := Wp.loc e168_292 rfl rfl rfl
theorem e168_293 : decode (j_co 168) 293 = .ok (.getfield 69, 3) := by decide +kernel
set_option maxRecDepth 20000 in
theorem w168_293 {d : Nat} {st : List Value} {Q : Option Value × jW → Prop} {ls : jL} {xs : List Value} {I : fI} {L : fL} {o : Nat} (ht : f_tg o = 11) : Wp d 168 293 ls (.ref o :: st) (f_W xs I L) Q = Wp d 168 296 ls (.ref (f_rf o 26) :: st) (f_W xs I L) Q := Wp.getR (ci := 11) (k := 26) e168_293 rfl (by decide) (by decide) rfl ht
theorem e168_296 : decode (j_co 168) 296 = .ok (.iload 7, 2) := by decide +kernel
set_option maxRecDepth 20000 in
theorem w168_296 {d : Nat} {st : List Value} {Q : Option Value × jW → Prop} {w : jW} {a0 a1 a2 a3 a4 a5 a6 a8 : Option Value} {x : Int32} : Wp d 168 296 [a0, a1, a2, a3, a4, a5, a6, some (.int x), a8] (st) w Q = Wp d 168 298 [a0, a1, a2, a3, a4, a5, a6, some (.int x), a8] (.int x :: st) w Q := Wp.loc e168_296 rfl rfl rfl
theorem e168_298 : decode (j_co 168) 298 = .ok (.iaload, 1) := by decide +kernel
set_option maxRecDepth 20000 in
theorem w168_298 {d : Nat} {st : List Value} {Q : Option Value × jW → Prop} {ls : jL} {xs : List Value} {I : fI} {L : fL} {o : Nat} {i : Int32} (ht : f_tg o = 100) (hi : ¬ (i < 0 ∨ f_ln o ≤ i.toNatClampNeg)) : Wp d 168 298 ls (.int i :: .ref o :: st) (f_W xs I L) Q = Wp d 168 299 ls (.int (I o i.toNatClampNeg) :: st) (f_W xs I L) Q := Wp.iald e168_298 ht hi
theorem e168_299 : decode (j_co 168) 299 = .ok (.iastore, 1) := by decide +kernel
set_option maxRecDepth 20000 in
theorem w168_299 {d : Nat} {st : List Value} {Q : Option Value × jW → Prop} {ls : jL} {xs : List Value} {I : fI} {L : fL} {o : Nat} {i x : Int32} (ht : f_tg o = 100) (hi : ¬ (i < 0 ∨ f_ln o ≤ i.toNatClampNeg)) : Wp d 168 299 ls (.int x :: .int i :: .ref o :: st) (f_W xs I L) Q = Wp d 168 300 ls (st) (f_W xs (f_up I o i.toNatClampNeg x) L) Q := Wp.iast e168_299 ht hi
theorem e168_300 : decode (j_co 168) 300 = .ok (.iinc 7 1, 3) := by decide +kernel
set_option maxRecDepth 20000 in
theorem w168_300 {d : Nat} {st : List Value} {Q : Option Value × jW → Prop} {w : jW} {a0 a1 a2 a3 a4 a5 a6 a8 : Option Value} {x : Int32} (h : j_cp a6) : Wp d 168 300 [a0, a1, a2, a3, a4, a5, a6, some (.int x), a8] (st) w Q = Wp d 168 303 [a0, a1, a2, a3, a4, a5, a6, some (.int (x + nI 1)), a8] (st) w Q := Wp.loc e168_300 rfl rfl (v_inc (ls := [a0, a1, a2, a3, a4, a5, a6, some (.int x), a8]) (k := 7) (n := 1) rfl (show 7 < 9 by decide) h)
theorem e168_303 : decode (j_co 168) 303 = .ok (.goto (-82), 3) := by decide +kernel
set_option maxRecDepth 20000 in
theorem w168_303 {d : Nat} {st : List Value} {Q : Option Value × jW → Prop} {ls : jL} {w : jW} : Wp d 168 303 ls (st) w Q = Wp d 168 221 ls (st) w Q := Wp.br e168_303 (Or.inl rfl) rfl rfl rfl rfl
theorem e168_306 : decode (j_co 168) 306 = .ok (.iconst 1, 1) := by decide +kernel
set_option maxRecDepth 20000 in
theorem w168_306 {d : Nat} {st : List Value} {Q : Option Value × jW → Prop} {ls : jL} {w : jW} : Wp d 168 306 ls (st) w Q = Wp d 168 307 ls (.int (nI 1) :: st) w Q := Wp.alu e168_306 rfl rfl
theorem e168_307 : decode (j_co 168) 307 = .ok (.ireturn, 1) := by decide +kernel
set_option maxRecDepth 20000 in
theorem w168_307 {d : Nat} {Q : Option Value × jW → Prop} {ls : jL} {w : jW} {x : Int32} : Wp d 168 307 ls [.int x] w Q = Q (some (.int x), w) := Wp.ret e168_307 rfl
/-! M.count -/
theorem e169_0 : decode (j_co 169) 0 = .ok (.iload_n 1, 1) := by decide +kernel
set_option maxRecDepth 20000 in
theorem w169_0 {d : Nat} {st : List Value} {Q : Option Value × jW → Prop} {w : jW} {a0 : Option Value} {x : Int32} : Wp d 169 0 [a0, some (.int x)] (st) w Q = Wp d 169 1 [a0, some (.int x)] (.int x :: st) w Q := Wp.loc e169_0 rfl rfl rfl
theorem e169_1 : decode (j_co 169) 1 = .ok (.tableswitch 86 0 4 #[35, 40, 45, 54, 63], 35) := by decide +kernel
theorem e169_36 : decode (j_co 169) 36 = .ok (.aload_n 0, 1) := by decide +kernel
set_option maxRecDepth 20000 in
theorem w169_36 {d : Nat} {st : List Value} {Q : Option Value × jW → Prop} {w : jW} {a1 : Option Value} {x : Nat} : Wp d 169 36 [some (.ref x), a1] (st) w Q = Wp d 169 37 [some (.ref x), a1] (.ref x :: st) w Q := Wp.loc e169_36 rfl rfl rfl
theorem e169_37 : decode (j_co 169) 37 = .ok (.getfield 90, 3) := by decide +kernel
set_option maxRecDepth 20000 in
theorem w169_37 {d : Nat} {st : List Value} {Q : Option Value × jW → Prop} {ls : jL} {xs : List Value} {I : fI} {L : fL} {o : Nat} (ht : f_tg o = 11) : Wp d 169 37 ls (.ref o :: st) (f_W xs I L) Q = Wp d 169 40 ls (.int (I o 0) :: st) (f_W xs I L) Q := Wp.getI (ci := 11) (k := 0) e169_37 rfl (by decide) (by decide) (by decide) ht
theorem e169_40 : decode (j_co 169) 40 = .ok (.ireturn, 1) := by decide +kernel
set_option maxRecDepth 20000 in
theorem w169_40 {d : Nat} {Q : Option Value × jW → Prop} {ls : jL} {w : jW} {x : Int32} : Wp d 169 40 ls [.int x] w Q = Q (some (.int x), w) := Wp.ret e169_40 rfl
theorem e169_41 : decode (j_co 169) 41 = .ok (.aload_n 0, 1) := by decide +kernel
set_option maxRecDepth 20000 in
theorem w169_41 {d : Nat} {st : List Value} {Q : Option Value × jW → Prop} {w : jW} {a1 : Option Value} {x : Nat} : Wp d 169 41 [some (.ref x), a1] (st) w Q = Wp d 169 42 [some (.ref x), a1] (.ref x :: st) w Q := Wp.loc e169_41 rfl rfl rfl
theorem e169_42 : decode (j_co 169) 42 = .ok (.getfield 97, 3) := by decide +kernel
set_option maxRecDepth 20000 in
theorem w169_42 {d : Nat} {st : List Value} {Q : Option Value × jW → Prop} {ls : jL} {xs : List Value} {I : fI} {L : fL} {o : Nat} (ht : f_tg o = 11) : Wp d 169 42 ls (.ref o :: st) (f_W xs I L) Q = Wp d 169 45 ls (.int (I o 3) :: st) (f_W xs I L) Q := Wp.getI (ci := 11) (k := 3) e169_42 rfl (by decide) (by decide) (by decide) ht
theorem e169_45 : decode (j_co 169) 45 = .ok (.ireturn, 1) := by decide +kernel
set_option maxRecDepth 20000 in
theorem w169_45 {d : Nat} {Q : Option Value × jW → Prop} {ls : jL} {w : jW} {x : Int32} : Wp d 169 45 ls [.int x] w Q = Q (some (.int x), w) := Wp.ret e169_45 rfl
theorem e169_46 : decode (j_co 169) 46 = .ok (.aload_n 0, 1) := by decide +kernel
set_option maxRecDepth 20000 in
theorem w169_46 {d : Nat} {st : List Value} {Q : Option Value × jW → Prop} {w : jW} {a1 : Option Value} {x : Nat} : Wp d 169 46 [some (.ref x), a1] (st) w Q = Wp d 169 47 [some (.ref x), a1] (.ref x :: st) w Q := Wp.loc e169_46 rfl rfl rfl
theorem e169_47 : decode (j_co 169) 47 = .ok (.invokevirtual 191, 3) := by decide +kernel
set_option maxRecDepth 20000 in
theorem w169_47 {d : Nat} {st : List Value} {Q : Option Value × jW → Prop} {ls : jL} {xs : List Value} {I : fI} {L : fL} {r : Nat} (hs : j_sumc st ≤ 8) (ht : f_tg r = 11) : Wp (d + 1) 169 47 ls (.ref r :: st) (f_W xs I L) Q = Wp d 128 0 [some (.ref r), none] [] (f_W xs I L) (fun r1 => Wp (d + 1) 169 50 ls (r1.1.toList ++ st) r1.2 Q) := Wp.cv (y' := 128) (as := []) e169_47 rfl (by decide) rfl (show 1 ≤ 2 by decide) (by decide) hs ht
theorem e169_50 : decode (j_co 169) 50 = .ok (.aload_n 0, 1) := by decide +kernel
set_option maxRecDepth 20000 in
theorem w169_50 {d : Nat} {st : List Value} {Q : Option Value × jW → Prop} {w : jW} {a1 : Option Value} {x : Nat} : Wp d 169 50 [some (.ref x), a1] (st) w Q = Wp d 169 51 [some (.ref x), a1] (.ref x :: st) w Q := Wp.loc e169_50 rfl rfl rfl
theorem e169_51 : decode (j_co 169) 51 = .ok (.getfield 135, 3) := by decide +kernel
set_option maxRecDepth 20000 in
theorem w169_51 {d : Nat} {st : List Value} {Q : Option Value × jW → Prop} {ls : jL} {xs : List Value} {I : fI} {L : fL} {o : Nat} (ht : f_tg o = 11) : Wp d 169 51 ls (.ref o :: st) (f_W xs I L) Q = Wp d 169 54 ls (.int (I o 16) :: st) (f_W xs I L) Q := Wp.getI (ci := 11) (k := 16) e169_51 rfl (by decide) (by decide) (by decide) ht
theorem e169_54 : decode (j_co 169) 54 = .ok (.ireturn, 1) := by decide +kernel
set_option maxRecDepth 20000 in
theorem w169_54 {d : Nat} {Q : Option Value × jW → Prop} {ls : jL} {w : jW} {x : Int32} : Wp d 169 54 ls [.int x] w Q = Q (some (.int x), w) := Wp.ret e169_54 rfl
theorem e169_55 : decode (j_co 169) 55 = .ok (.aload_n 0, 1) := by decide +kernel
set_option maxRecDepth 20000 in
theorem w169_55 {d : Nat} {st : List Value} {Q : Option Value × jW → Prop} {w : jW} {a1 : Option Value} {x : Nat} : Wp d 169 55 [some (.ref x), a1] (st) w Q = Wp d 169 56 [some (.ref x), a1] (.ref x :: st) w Q := Wp.loc e169_55 rfl rfl rfl
theorem e169_56 : decode (j_co 169) 56 = .ok (.invokevirtual 191, 3) := by decide +kernel
set_option maxRecDepth 20000 in
theorem w169_56 {d : Nat} {st : List Value} {Q : Option Value × jW → Prop} {ls : jL} {xs : List Value} {I : fI} {L : fL} {r : Nat} (hs : j_sumc st ≤ 8) (ht : f_tg r = 11) : Wp (d + 1) 169 56 ls (.ref r :: st) (f_W xs I L) Q = Wp d 128 0 [some (.ref r), none] [] (f_W xs I L) (fun r1 => Wp (d + 1) 169 59 ls (r1.1.toList ++ st) r1.2 Q) := Wp.cv (y' := 128) (as := []) e169_56 rfl (by decide) rfl (show 1 ≤ 2 by decide) (by decide) hs ht
theorem e169_59 : decode (j_co 169) 59 = .ok (.aload_n 0, 1) := by decide +kernel
set_option maxRecDepth 20000 in
theorem w169_59 {d : Nat} {st : List Value} {Q : Option Value × jW → Prop} {w : jW} {a1 : Option Value} {x : Nat} : Wp d 169 59 [some (.ref x), a1] (st) w Q = Wp d 169 60 [some (.ref x), a1] (.ref x :: st) w Q := Wp.loc e169_59 rfl rfl rfl
theorem e169_60 : decode (j_co 169) 60 = .ok (.getfield 156, 3) := by decide +kernel
set_option maxRecDepth 20000 in
theorem w169_60 {d : Nat} {st : List Value} {Q : Option Value × jW → Prop} {ls : jL} {xs : List Value} {I : fI} {L : fL} {o : Nat} (ht : f_tg o = 11) : Wp d 169 60 ls (.ref o :: st) (f_W xs I L) Q = Wp d 169 63 ls (.int (I o 23) :: st) (f_W xs I L) Q := Wp.getI (ci := 11) (k := 23) e169_60 rfl (by decide) (by decide) (by decide) ht
theorem e169_63 : decode (j_co 169) 63 = .ok (.ireturn, 1) := by decide +kernel
set_option maxRecDepth 20000 in
theorem w169_63 {d : Nat} {Q : Option Value × jW → Prop} {ls : jL} {w : jW} {x : Int32} : Wp d 169 63 ls [.int x] w Q = Q (some (.int x), w) := Wp.ret e169_63 rfl
theorem e169_64 : decode (j_co 169) 64 = .ok (.aload_n 0, 1) := by decide +kernel
set_option maxRecDepth 20000 in
theorem w169_64 {d : Nat} {st : List Value} {Q : Option Value × jW → Prop} {w : jW} {a1 : Option Value} {x : Nat} : Wp d 169 64 [some (.ref x), a1] (st) w Q = Wp d 169 65 [some (.ref x), a1] (.ref x :: st) w Q := Wp.loc e169_64 rfl rfl rfl
theorem e169_65 : decode (j_co 169) 65 = .ok (.getfield 81, 3) := by decide +kernel
set_option maxRecDepth 20000 in
theorem w169_65 {d : Nat} {st : List Value} {Q : Option Value × jW → Prop} {ls : jL} {xs : List Value} {I : fI} {L : fL} {o : Nat} (ht : f_tg o = 11) : Wp d 169 65 ls (.ref o :: st) (f_W xs I L) Q = Wp d 169 68 ls (.ref (f_rf o 34) :: st) (f_W xs I L) Q := Wp.getR (ci := 11) (k := 34) e169_65 rfl (by decide) (by decide) rfl ht
theorem e169_68 : decode (j_co 169) 68 = .ok (.iconst 0, 1) := by decide +kernel
set_option maxRecDepth 20000 in
theorem w169_68 {d : Nat} {st : List Value} {Q : Option Value × jW → Prop} {ls : jL} {w : jW} : Wp d 169 68 ls (st) w Q = Wp d 169 69 ls (.int (nI 0) :: st) w Q := Wp.alu e169_68 rfl rfl
theorem e169_69 : decode (j_co 169) 69 = .ok (.iaload, 1) := by decide +kernel
set_option maxRecDepth 20000 in
theorem w169_69 {d : Nat} {st : List Value} {Q : Option Value × jW → Prop} {ls : jL} {xs : List Value} {I : fI} {L : fL} {o : Nat} {i : Int32} (ht : f_tg o = 100) (hi : ¬ (i < 0 ∨ f_ln o ≤ i.toNatClampNeg)) : Wp d 169 69 ls (.int i :: .ref o :: st) (f_W xs I L) Q = Wp d 169 70 ls (.int (I o i.toNatClampNeg) :: st) (f_W xs I L) Q := Wp.iald e169_69 ht hi
theorem e169_70 : decode (j_co 169) 70 = .ok (.bipush (-4), 2) := by decide +kernel
set_option maxRecDepth 20000 in
theorem w169_70 {d : Nat} {st : List Value} {Q : Option Value × jW → Prop} {ls : jL} {w : jW} : Wp d 169 70 ls (st) w Q = Wp d 169 72 ls (.int (-4) :: st) w Q := Wp.alu e169_70 rfl rfl
theorem e169_72 : decode (j_co 169) 72 = .ok (.if_icmp .ne 8, 3) := by decide +kernel
set_option maxRecDepth 20000 in
theorem w169_72 {d : Nat} {st : List Value} {Q : Option Value × jW → Prop} {ls : jL} {w : jW} {a b : Int32} : Wp d 169 72 ls (.int b :: .int a :: st) w Q = ((a = b → Wp d 169 75 ls st w Q) ∧ (¬ a = b → Wp d 169 80 ls st w Q)) := Wp.if2n (c := a = b) (off := 8) e169_72 rfl rfl rfl rfl rfl
theorem e169_75 : decode (j_co 169) 75 = .ok (.bipush (-4), 2) := by decide +kernel
set_option maxRecDepth 20000 in
theorem w169_75 {d : Nat} {st : List Value} {Q : Option Value × jW → Prop} {ls : jL} {w : jW} : Wp d 169 75 ls (st) w Q = Wp d 169 77 ls (.int (-4) :: st) w Q := Wp.alu e169_75 rfl rfl
theorem e169_77 : decode (j_co 169) 77 = .ok (.goto 9, 3) := by decide +kernel
set_option maxRecDepth 20000 in
theorem w169_77 {d : Nat} {st : List Value} {Q : Option Value × jW → Prop} {ls : jL} {w : jW} : Wp d 169 77 ls (st) w Q = Wp d 169 86 ls (st) w Q := Wp.br e169_77 (Or.inl rfl) rfl rfl rfl rfl
theorem e169_80 : decode (j_co 169) 80 = .ok (.aload_n 0, 1) := by decide +kernel
set_option maxRecDepth 20000 in
theorem w169_80 {d : Nat} {st : List Value} {Q : Option Value × jW → Prop} {w : jW} {a1 : Option Value} {x : Nat} : Wp d 169 80 [some (.ref x), a1] (st) w Q = Wp d 169 81 [some (.ref x), a1] (.ref x :: st) w Q := Wp.loc e169_80 rfl rfl rfl
theorem e169_81 : decode (j_co 169) 81 = .ok (.getfield 84, 3) := by decide +kernel
set_option maxRecDepth 20000 in
theorem w169_81 {d : Nat} {st : List Value} {Q : Option Value × jW → Prop} {ls : jL} {xs : List Value} {I : fI} {L : fL} {o : Nat} (ht : f_tg o = 11) : Wp d 169 81 ls (.ref o :: st) (f_W xs I L) Q = Wp d 169 84 ls (.ref (f_rf o 35) :: st) (f_W xs I L) Q := Wp.getR (ci := 11) (k := 35) e169_81 rfl (by decide) (by decide) rfl ht
theorem e169_84 : decode (j_co 169) 84 = .ok (.iconst 0, 1) := by decide +kernel
set_option maxRecDepth 20000 in
theorem w169_84 {d : Nat} {st : List Value} {Q : Option Value × jW → Prop} {ls : jL} {w : jW} : Wp d 169 84 ls (st) w Q = Wp d 169 85 ls (.int (nI 0) :: st) w Q := Wp.alu e169_84 rfl rfl
theorem e169_85 : decode (j_co 169) 85 = .ok (.iaload, 1) := by decide +kernel
set_option maxRecDepth 20000 in
theorem w169_85 {d : Nat} {st : List Value} {Q : Option Value × jW → Prop} {ls : jL} {xs : List Value} {I : fI} {L : fL} {o : Nat} {i : Int32} (ht : f_tg o = 100) (hi : ¬ (i < 0 ∨ f_ln o ≤ i.toNatClampNeg)) : Wp d 169 85 ls (.int i :: .ref o :: st) (f_W xs I L) Q = Wp d 169 86 ls (.int (I o i.toNatClampNeg) :: st) (f_W xs I L) Q := Wp.iald e169_85 ht hi
theorem e169_86 : decode (j_co 169) 86 = .ok (.ireturn, 1) := by decide +kernel
set_option maxRecDepth 20000 in
theorem w169_86 {d : Nat} {Q : Option Value × jW → Prop} {ls : jL} {w : jW} {x : Int32} : Wp d 169 86 ls [.int x] w Q = Q (some (.int x), w) := Wp.ret e169_86 rfl
theorem e169_87 : decode (j_co 169) 87 = .ok (.iconst (-1), 1) := by decide +kernel
set_option maxRecDepth 20000 in
theorem w169_87 {d : Nat} {st : List Value} {Q : Option Value × jW → Prop} {ls : jL} {w : jW} : Wp d 169 87 ls (st) w Q = Wp d 169 88 ls (.int (-1) :: st) w Q := Wp.alu e169_87 rfl rfl
theorem e169_88 : decode (j_co 169) 88 = .ok (.ireturn, 1) := by decide +kernel
set_option maxRecDepth 20000 in
theorem w169_88 {d : Nat} {Q : Option Value × jW → Prop} {ls : jL} {w : jW} {x : Int32} : Wp d 169 88 ls [.int x] w Q = Q (some (.int x), w) := Wp.ret e169_88 rfl
