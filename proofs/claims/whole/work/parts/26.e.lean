/-! M.mode -/
theorem e111_0 : decode (j_co 111) 0 = .ok (.aload_n 0, 1) := by decide +kernel
set_option maxRecDepth 20000 in
theorem w111_0 {d : Nat} {st : List Value} {Q : Option Value × jW → Prop} {w : jW} {a1 : Option Value} {x : Nat} : Wp d 111 0 [some (.ref x), a1] (st) w Q = Wp d 111 1 [some (.ref x), a1] (.ref x :: st) w Q := Wp.loc e111_0 rfl rfl rfl
theorem e111_1 : decode (j_co 111) 1 = .ok (.getfield 90, 3) := by decide +kernel
set_option maxRecDepth 20000 in
theorem w111_1 {d : Nat} {st : List Value} {Q : Option Value × jW → Prop} {ls : jL} {xs : List Value} {I : fI} {L : fL} {o : Nat} (ht : f_tg o = 11) : Wp d 111 1 ls (.ref o :: st) (f_W xs I L) Q = Wp d 111 4 ls (.int (I o 0) :: st) (f_W xs I L) Q := Wp.getI (ci := 11) (k := 0) e111_1 rfl (by decide) (by decide) (by decide) ht
theorem e111_4 : decode (j_co 111) 4 = .ok (.bipush 6, 2) := by decide +kernel
set_option maxRecDepth 20000 in
theorem w111_4 {d : Nat} {st : List Value} {Q : Option Value × jW → Prop} {ls : jL} {w : jW} : Wp d 111 4 ls (st) w Q = Wp d 111 6 ls (.int (nI 6) :: st) w Q := Wp.alu e111_4 rfl rfl
theorem e111_6 : decode (j_co 111) 6 = .ok (.if_icmp .ne 6, 3) := by decide +kernel
set_option maxRecDepth 20000 in
theorem w111_6 {d : Nat} {st : List Value} {Q : Option Value × jW → Prop} {ls : jL} {w : jW} {a b : Int32} : Wp d 111 6 ls (.int b :: .int a :: st) w Q = ((a = b → Wp d 111 9 ls st w Q) ∧ (¬ a = b → Wp d 111 12 ls st w Q)) := Wp.if2n (c := a = b) (off := 6) e111_6 rfl rfl rfl rfl rfl
theorem e111_9 : decode (j_co 111) 9 = .ok (.bipush (-3), 2) := by decide +kernel
set_option maxRecDepth 20000 in
theorem w111_9 {d : Nat} {st : List Value} {Q : Option Value × jW → Prop} {ls : jL} {w : jW} : Wp d 111 9 ls (st) w Q = Wp d 111 11 ls (.int (-3) :: st) w Q := Wp.alu e111_9 rfl rfl
theorem e111_11 : decode (j_co 111) 11 = .ok (.ireturn, 1) := by decide +kernel
set_option maxRecDepth 20000 in
theorem w111_11 {d : Nat} {Q : Option Value × jW → Prop} {ls : jL} {w : jW} {x : Int32} : Wp d 111 11 ls [.int x] w Q = Q (some (.int x), w) := Wp.ret e111_11 rfl
theorem e111_12 : decode (j_co 111) 12 = .ok (.aload_n 0, 1) := by decide +kernel
set_option maxRecDepth 20000 in
theorem w111_12 {d : Nat} {st : List Value} {Q : Option Value × jW → Prop} {w : jW} {a1 : Option Value} {x : Nat} : Wp d 111 12 [some (.ref x), a1] (st) w Q = Wp d 111 13 [some (.ref x), a1] (.ref x :: st) w Q := Wp.loc e111_12 rfl rfl rfl
theorem e111_13 : decode (j_co 111) 13 = .ok (.getfield 7, 3) := by decide +kernel
set_option maxRecDepth 20000 in
theorem w111_13 {d : Nat} {st : List Value} {Q : Option Value × jW → Prop} {ls : jL} {xs : List Value} {I : fI} {L : fL} {o : Nat} (ht : f_tg o = 11) : Wp d 111 13 ls (.ref o :: st) (f_W xs I L) Q = Wp d 111 16 ls (.ref (f_rf o 1) :: st) (f_W xs I L) Q := Wp.getR (ci := 11) (k := 1) e111_13 rfl (by decide) (by decide) rfl ht
theorem e111_16 : decode (j_co 111) 16 = .ok (.bipush 6, 2) := by decide +kernel
set_option maxRecDepth 20000 in
theorem w111_16 {d : Nat} {st : List Value} {Q : Option Value × jW → Prop} {ls : jL} {w : jW} : Wp d 111 16 ls (st) w Q = Wp d 111 18 ls (.int (nI 6) :: st) w Q := Wp.alu e111_16 rfl rfl
theorem e111_18 : decode (j_co 111) 18 = .ok (.aload_n 0, 1) := by decide +kernel
set_option maxRecDepth 20000 in
theorem w111_18 {d : Nat} {st : List Value} {Q : Option Value × jW → Prop} {w : jW} {a1 : Option Value} {x : Nat} : Wp d 111 18 [some (.ref x), a1] (st) w Q = Wp d 111 19 [some (.ref x), a1] (.ref x :: st) w Q := Wp.loc e111_18 rfl rfl rfl
theorem e111_19 : decode (j_co 111) 19 = .ok (.getfield 90, 3) := by decide +kernel
set_option maxRecDepth 20000 in
theorem w111_19 {d : Nat} {st : List Value} {Q : Option Value × jW → Prop} {ls : jL} {xs : List Value} {I : fI} {L : fL} {o : Nat} (ht : f_tg o = 11) : Wp d 111 19 ls (.ref o :: st) (f_W xs I L) Q = Wp d 111 22 ls (.int (I o 0) :: st) (f_W xs I L) Q := Wp.getI (ci := 11) (k := 0) e111_19 rfl (by decide) (by decide) (by decide) ht
theorem e111_22 : decode (j_co 111) 22 = .ok (.imul, 1) := by decide +kernel
set_option maxRecDepth 20000 in
theorem w111_22 {d : Nat} {st : List Value} {Q : Option Value × jW → Prop} {ls : jL} {w : jW} {a b : Int32} : Wp d 111 22 ls (.int b :: .int a :: st) w Q = Wp d 111 23 ls (.int (a * b) :: st) w Q := Wp.alu e111_22 rfl rfl
theorem e111_23 : decode (j_co 111) 23 = .ok (.invokestatic 102, 3) := by decide +kernel
set_option maxRecDepth 20000 in
theorem w111_23 {d : Nat} {st : List Value} {Q : Option Value × jW → Prop} {ls : jL} {w : jW} {x0 : Nat} {x1 : Int32} (hs : j_sumc st ≤ 8) : Wp (d + 1) 111 23 ls (.int x1 :: .ref x0 :: st) w Q = Wp d 112 0 [some (.ref x0), some (.int x1), none] [] w (fun r1 => Wp (d + 1) 111 26 ls (r1.1.toList ++ st) r1.2 Q) := Wp.cs (kd := 1) (y' := 112) (as := [.ref x0, .int x1]) e111_23 rfl (by decide) (by decide) rfl (show 2 ≤ 3 by decide) hs
theorem e111_26 : decode (j_co 111) 26 = .ok (.iconst 0, 1) := by decide +kernel
set_option maxRecDepth 20000 in
theorem w111_26 {d : Nat} {st : List Value} {Q : Option Value × jW → Prop} {ls : jL} {w : jW} : Wp d 111 26 ls (st) w Q = Wp d 111 27 ls (.int (nI 0) :: st) w Q := Wp.alu e111_26 rfl rfl
theorem e111_27 : decode (j_co 111) 27 = .ok (.istore_n 1, 1) := by decide +kernel
set_option maxRecDepth 20000 in
theorem w111_27 {d : Nat} {st : List Value} {Q : Option Value × jW → Prop} {w : jW} {a0 a1 : Option Value} {x : Int32} (h : j_cp a0) : Wp d 111 27 [a0, a1] (.int x :: st) w Q = Wp d 111 28 [a0, some (.int x)] (st) w Q := Wp.loc e111_27 rfl rfl (v_stI (ls := [a0, a1]) (k := 1) (show 1 < 2 by decide) h)
theorem e111_28 : decode (j_co 111) 28 = .ok (.iload_n 1, 1) := by decide +kernel
set_option maxRecDepth 20000 in
theorem w111_28 {d : Nat} {st : List Value} {Q : Option Value × jW → Prop} {w : jW} {a0 : Option Value} {x : Int32} : Wp d 111 28 [a0, some (.int x)] (st) w Q = Wp d 111 29 [a0, some (.int x)] (.int x :: st) w Q := Wp.loc e111_28 rfl rfl rfl
theorem e111_29 : decode (j_co 111) 29 = .ok (.bipush 6, 2) := by decide +kernel
set_option maxRecDepth 20000 in
theorem w111_29 {d : Nat} {st : List Value} {Q : Option Value × jW → Prop} {ls : jL} {w : jW} : Wp d 111 29 ls (st) w Q = Wp d 111 31 ls (.int (nI 6) :: st) w Q := Wp.alu e111_29 rfl rfl
theorem e111_31 : decode (j_co 111) 31 = .ok (.if_icmp .ge 24, 3) := by decide +kernel
set_option maxRecDepth 20000 in
theorem w111_31 {d : Nat} {st : List Value} {Q : Option Value × jW → Prop} {ls : jL} {w : jW} {a b : Int32} : Wp d 111 31 ls (.int b :: .int a :: st) w Q = ((b ≤ a → Wp d 111 55 ls st w Q) ∧ (¬ b ≤ a → Wp d 111 34 ls st w Q)) := Wp.if2 (c := b ≤ a) (off := 24) e111_31 rfl rfl rfl rfl rfl
theorem e111_34 : decode (j_co 111) 34 = .ok (.aload_n 0, 1) := by decide +kernel
set_option maxRecDepth 20000 in
theorem w111_34 {d : Nat} {st : List Value} {Q : Option Value × jW → Prop} {w : jW} {a1 : Option Value} {x : Nat} : Wp d 111 34 [some (.ref x), a1] (st) w Q = Wp d 111 35 [some (.ref x), a1] (.ref x :: st) w Q := Wp.loc e111_34 rfl rfl rfl
theorem e111_35 : decode (j_co 111) 35 = .ok (.getfield 13, 3) := by decide +kernel
set_option maxRecDepth 20000 in
theorem w111_35 {d : Nat} {st : List Value} {Q : Option Value × jW → Prop} {ls : jL} {xs : List Value} {I : fI} {L : fL} {o : Nat} (ht : f_tg o = 11) : Wp d 111 35 ls (.ref o :: st) (f_W xs I L) Q = Wp d 111 38 ls (.ref (f_rf o 2) :: st) (f_W xs I L) Q := Wp.getR (ci := 11) (k := 2) e111_35 rfl (by decide) (by decide) rfl ht
theorem e111_38 : decode (j_co 111) 38 = .ok (.bipush 6, 2) := by decide +kernel
set_option maxRecDepth 20000 in
theorem w111_38 {d : Nat} {st : List Value} {Q : Option Value × jW → Prop} {ls : jL} {w : jW} : Wp d 111 38 ls (st) w Q = Wp d 111 40 ls (.int (nI 6) :: st) w Q := Wp.alu e111_38 rfl rfl
theorem e111_40 : decode (j_co 111) 40 = .ok (.aload_n 0, 1) := by decide +kernel
set_option maxRecDepth 20000 in
theorem w111_40 {d : Nat} {st : List Value} {Q : Option Value × jW → Prop} {w : jW} {a1 : Option Value} {x : Nat} : Wp d 111 40 [some (.ref x), a1] (st) w Q = Wp d 111 41 [some (.ref x), a1] (.ref x :: st) w Q := Wp.loc e111_40 rfl rfl rfl
theorem e111_41 : decode (j_co 111) 41 = .ok (.getfield 90, 3) := by decide +kernel
set_option maxRecDepth 20000 in
theorem w111_41 {d : Nat} {st : List Value} {Q : Option Value × jW → Prop} {ls : jL} {xs : List Value} {I : fI} {L : fL} {o : Nat} (ht : f_tg o = 11) : Wp d 111 41 ls (.ref o :: st) (f_W xs I L) Q = Wp d 111 44 ls (.int (I o 0) :: st) (f_W xs I L) Q := Wp.getI (ci := 11) (k := 0) e111_41 rfl (by decide) (by decide) (by decide) ht
theorem e111_44 : decode (j_co 111) 44 = .ok (.imul, 1) := by decide +kernel
set_option maxRecDepth 20000 in
theorem w111_44 {d : Nat} {st : List Value} {Q : Option Value × jW → Prop} {ls : jL} {w : jW} {a b : Int32} : Wp d 111 44 ls (.int b :: .int a :: st) w Q = Wp d 111 45 ls (.int (a * b) :: st) w Q := Wp.alu e111_44 rfl rfl
theorem e111_45 : decode (j_co 111) 45 = .ok (.iload_n 1, 1) := by decide +kernel
set_option maxRecDepth 20000 in
theorem w111_45 {d : Nat} {st : List Value} {Q : Option Value × jW → Prop} {w : jW} {a0 : Option Value} {x : Int32} : Wp d 111 45 [a0, some (.int x)] (st) w Q = Wp d 111 46 [a0, some (.int x)] (.int x :: st) w Q := Wp.loc e111_45 rfl rfl rfl
theorem e111_46 : decode (j_co 111) 46 = .ok (.iadd, 1) := by decide +kernel
set_option maxRecDepth 20000 in
theorem w111_46 {d : Nat} {st : List Value} {Q : Option Value × jW → Prop} {ls : jL} {w : jW} {a b : Int32} : Wp d 111 46 ls (.int b :: .int a :: st) w Q = Wp d 111 47 ls (.int (a + b) :: st) w Q := Wp.alu e111_46 rfl rfl
theorem e111_47 : decode (j_co 111) 47 = .ok (.iconst 0, 1) := by decide +kernel
set_option maxRecDepth 20000 in
theorem w111_47 {d : Nat} {st : List Value} {Q : Option Value × jW → Prop} {ls : jL} {w : jW} : Wp d 111 47 ls (st) w Q = Wp d 111 48 ls (.int (nI 0) :: st) w Q := Wp.alu e111_47 rfl rfl
theorem e111_48 : decode (j_co 111) 48 = .ok (.iastore, 1) := by decide +kernel
set_option maxRecDepth 20000 in
theorem w111_48 {d : Nat} {st : List Value} {Q : Option Value × jW → Prop} {ls : jL} {xs : List Value} {I : fI} {L : fL} {o : Nat} {i x : Int32} (ht : f_tg o = 100) (hi : ¬ (i < 0 ∨ f_ln o ≤ i.toNatClampNeg)) : Wp d 111 48 ls (.int x :: .int i :: .ref o :: st) (f_W xs I L) Q = Wp d 111 49 ls (st) (f_W xs (f_up I o i.toNatClampNeg x) L) Q := Wp.iast e111_48 ht hi
theorem e111_49 : decode (j_co 111) 49 = .ok (.iinc 1 1, 3) := by decide +kernel
set_option maxRecDepth 20000 in
theorem w111_49 {d : Nat} {st : List Value} {Q : Option Value × jW → Prop} {w : jW} {a0 : Option Value} {x : Int32} (h : j_cp a0) : Wp d 111 49 [a0, some (.int x)] (st) w Q = Wp d 111 52 [a0, some (.int (x + nI 1))] (st) w Q := Wp.loc e111_49 rfl rfl (v_inc (ls := [a0, some (.int x)]) (k := 1) (n := 1) rfl (show 1 < 2 by decide) h)
theorem e111_52 : decode (j_co 111) 52 = .ok (.goto (-24), 3) := by decide +kernel
set_option maxRecDepth 20000 in
theorem w111_52 {d : Nat} {st : List Value} {Q : Option Value × jW → Prop} {ls : jL} {w : jW} : Wp d 111 52 ls (st) w Q = Wp d 111 28 ls (st) w Q := Wp.br e111_52 (Or.inl rfl) rfl rfl rfl rfl
theorem e111_55 : decode (j_co 111) 55 = .ok (.aload_n 0, 1) := by decide +kernel
set_option maxRecDepth 20000 in
theorem w111_55 {d : Nat} {st : List Value} {Q : Option Value × jW → Prop} {w : jW} {a1 : Option Value} {x : Nat} : Wp d 111 55 [some (.ref x), a1] (st) w Q = Wp d 111 56 [some (.ref x), a1] (.ref x :: st) w Q := Wp.loc e111_55 rfl rfl rfl
theorem e111_56 : decode (j_co 111) 56 = .ok (.dup, 1) := by decide +kernel
set_option maxRecDepth 20000 in
theorem w111_56 {d : Nat} {st : List Value} {Q : Option Value × jW → Prop} {ls : jL} {w : jW} {a : Int32} : Wp d 111 56 ls (.int a :: st) w Q = Wp d 111 57 ls (.int a :: .int a :: st) w Q := Wp.alu e111_56 rfl rfl
set_option maxRecDepth 20000 in
theorem w111_56r {d : Nat} {st : List Value} {Q : Option Value × jW → Prop} {ls : jL} {w : jW} {a : Nat} : Wp d 111 56 ls (.ref a :: st) w Q = Wp d 111 57 ls (.ref a :: .ref a :: st) w Q := Wp.alu e111_56 rfl rfl
theorem e111_57 : decode (j_co 111) 57 = .ok (.getfield 90, 3) := by decide +kernel
set_option maxRecDepth 20000 in
theorem w111_57 {d : Nat} {st : List Value} {Q : Option Value × jW → Prop} {ls : jL} {xs : List Value} {I : fI} {L : fL} {o : Nat} (ht : f_tg o = 11) : Wp d 111 57 ls (.ref o :: st) (f_W xs I L) Q = Wp d 111 60 ls (.int (I o 0) :: st) (f_W xs I L) Q := Wp.getI (ci := 11) (k := 0) e111_57 rfl (by decide) (by decide) (by decide) ht
theorem e111_60 : decode (j_co 111) 60 = .ok (.iconst 1, 1) := by decide +kernel
set_option maxRecDepth 20000 in
theorem w111_60 {d : Nat} {st : List Value} {Q : Option Value × jW → Prop} {ls : jL} {w : jW} : Wp d 111 60 ls (st) w Q = Wp d 111 61 ls (.int (nI 1) :: st) w Q := Wp.alu e111_60 rfl rfl
theorem e111_61 : decode (j_co 111) 61 = .ok (.iadd, 1) := by decide +kernel
set_option maxRecDepth 20000 in
theorem w111_61 {d : Nat} {st : List Value} {Q : Option Value × jW → Prop} {ls : jL} {w : jW} {a b : Int32} : Wp d 111 61 ls (.int b :: .int a :: st) w Q = Wp d 111 62 ls (.int (a + b) :: st) w Q := Wp.alu e111_61 rfl rfl
theorem e111_62 : decode (j_co 111) 62 = .ok (.putfield 90, 3) := by decide +kernel
set_option maxRecDepth 20000 in
theorem w111_62 {d : Nat} {st : List Value} {Q : Option Value × jW → Prop} {ls : jL} {xs : List Value} {I : fI} {L : fL} {o : Nat} {x : Int32} (ht : f_tg o = 11) : Wp d 111 62 ls (.int x :: .ref o :: st) (f_W xs I L) Q = Wp d 111 65 ls (st) (f_W xs (f_up I o 0 x) L) Q := Wp.putI (ci := 11) (k := 0) e111_62 rfl (by decide) (by decide) rfl (by decide) ht
theorem e111_65 : decode (j_co 111) 65 = .ok (.aload_n 0, 1) := by decide +kernel
set_option maxRecDepth 20000 in
theorem w111_65 {d : Nat} {st : List Value} {Q : Option Value × jW → Prop} {w : jW} {a1 : Option Value} {x : Nat} : Wp d 111 65 [some (.ref x), a1] (st) w Q = Wp d 111 66 [some (.ref x), a1] (.ref x :: st) w Q := Wp.loc e111_65 rfl rfl rfl
theorem e111_66 : decode (j_co 111) 66 = .ok (.getfield 90, 3) := by decide +kernel
set_option maxRecDepth 20000 in
theorem w111_66 {d : Nat} {st : List Value} {Q : Option Value × jW → Prop} {ls : jL} {xs : List Value} {I : fI} {L : fL} {o : Nat} (ht : f_tg o = 11) : Wp d 111 66 ls (.ref o :: st) (f_W xs I L) Q = Wp d 111 69 ls (.int (I o 0) :: st) (f_W xs I L) Q := Wp.getI (ci := 11) (k := 0) e111_66 rfl (by decide) (by decide) (by decide) ht
theorem e111_69 : decode (j_co 111) 69 = .ok (.iconst 1, 1) := by decide +kernel
set_option maxRecDepth 20000 in
theorem w111_69 {d : Nat} {st : List Value} {Q : Option Value × jW → Prop} {ls : jL} {w : jW} : Wp d 111 69 ls (st) w Q = Wp d 111 70 ls (.int (nI 1) :: st) w Q := Wp.alu e111_69 rfl rfl
theorem e111_70 : decode (j_co 111) 70 = .ok (.isub, 1) := by decide +kernel
set_option maxRecDepth 20000 in
theorem w111_70 {d : Nat} {st : List Value} {Q : Option Value × jW → Prop} {ls : jL} {w : jW} {a b : Int32} : Wp d 111 70 ls (.int b :: .int a :: st) w Q = Wp d 111 71 ls (.int (a - b) :: st) w Q := Wp.alu e111_70 rfl rfl
theorem e111_71 : decode (j_co 111) 71 = .ok (.ireturn, 1) := by decide +kernel
set_option maxRecDepth 20000 in
theorem w111_71 {d : Nat} {Q : Option Value × jW → Prop} {ls : jL} {w : jW} {x : Int32} : Wp d 111 71 ls [.int x] w Q = Q (some (.int x), w) := Wp.ret e111_71 rfl
/-! M.fill -/
theorem e112_0 : decode (j_co 112) 0 = .ok (.iconst 0, 1) := by decide +kernel
set_option maxRecDepth 20000 in
theorem w112_0 {d : Nat} {st : List Value} {Q : Option Value × jW → Prop} {ls : jL} {w : jW} : Wp d 112 0 ls (st) w Q = Wp d 112 1 ls (.int (nI 0) :: st) w Q := Wp.alu e112_0 rfl rfl
theorem e112_1 : decode (j_co 112) 1 = .ok (.istore_n 2, 1) := by decide +kernel
set_option maxRecDepth 20000 in
theorem w112_1 {d : Nat} {st : List Value} {Q : Option Value × jW → Prop} {w : jW} {a0 a1 a2 : Option Value} {x : Int32} (h : j_cp a1) : Wp d 112 1 [a0, a1, a2] (.int x :: st) w Q = Wp d 112 2 [a0, a1, some (.int x)] (st) w Q := Wp.loc e112_1 rfl rfl (v_stI (ls := [a0, a1, a2]) (k := 2) (show 2 < 3 by decide) h)
theorem e112_2 : decode (j_co 112) 2 = .ok (.iload_n 2, 1) := by decide +kernel
set_option maxRecDepth 20000 in
theorem w112_2 {d : Nat} {st : List Value} {Q : Option Value × jW → Prop} {w : jW} {a0 a1 : Option Value} {x : Int32} : Wp d 112 2 [a0, a1, some (.int x)] (st) w Q = Wp d 112 3 [a0, a1, some (.int x)] (.int x :: st) w Q := Wp.loc e112_2 rfl rfl rfl
theorem e112_3 : decode (j_co 112) 3 = .ok (.iconst 3, 1) := by decide +kernel
set_option maxRecDepth 20000 in
theorem w112_3 {d : Nat} {st : List Value} {Q : Option Value × jW → Prop} {ls : jL} {w : jW} : Wp d 112 3 ls (st) w Q = Wp d 112 4 ls (.int (nI 3) :: st) w Q := Wp.alu e112_3 rfl rfl
theorem e112_4 : decode (j_co 112) 4 = .ok (.if_icmp .ge 29, 3) := by decide +kernel
set_option maxRecDepth 20000 in
theorem w112_4 {d : Nat} {st : List Value} {Q : Option Value × jW → Prop} {ls : jL} {w : jW} {a b : Int32} : Wp d 112 4 ls (.int b :: .int a :: st) w Q = ((b ≤ a → Wp d 112 33 ls st w Q) ∧ (¬ b ≤ a → Wp d 112 7 ls st w Q)) := Wp.if2 (c := b ≤ a) (off := 29) e112_4 rfl rfl rfl rfl rfl
theorem e112_7 : decode (j_co 112) 7 = .ok (.aload_n 0, 1) := by decide +kernel
set_option maxRecDepth 20000 in
theorem w112_7 {d : Nat} {st : List Value} {Q : Option Value × jW → Prop} {w : jW} {a1 a2 : Option Value} {x : Nat} : Wp d 112 7 [some (.ref x), a1, a2] (st) w Q = Wp d 112 8 [some (.ref x), a1, a2] (.ref x :: st) w Q := Wp.loc e112_7 rfl rfl rfl
theorem e112_8 : decode (j_co 112) 8 = .ok (.iload_n 1, 1) := by decide +kernel
set_option maxRecDepth 20000 in
theorem w112_8 {d : Nat} {st : List Value} {Q : Option Value × jW → Prop} {w : jW} {a0 a2 : Option Value} {x : Int32} : Wp d 112 8 [a0, some (.int x), a2] (st) w Q = Wp d 112 9 [a0, some (.int x), a2] (.int x :: st) w Q := Wp.loc e112_8 rfl rfl rfl
theorem e112_9 : decode (j_co 112) 9 = .ok (.iconst 2, 1) := by decide +kernel
set_option maxRecDepth 20000 in
theorem w112_9 {d : Nat} {st : List Value} {Q : Option Value × jW → Prop} {ls : jL} {w : jW} : Wp d 112 9 ls (st) w Q = Wp d 112 10 ls (.int (nI 2) :: st) w Q := Wp.alu e112_9 rfl rfl
theorem e112_10 : decode (j_co 112) 10 = .ok (.iload_n 2, 1) := by decide +kernel
set_option maxRecDepth 20000 in
theorem w112_10 {d : Nat} {st : List Value} {Q : Option Value × jW → Prop} {w : jW} {a0 a1 : Option Value} {x : Int32} : Wp d 112 10 [a0, a1, some (.int x)] (st) w Q = Wp d 112 11 [a0, a1, some (.int x)] (.int x :: st) w Q := Wp.loc e112_10 rfl rfl rfl
theorem e112_11 : decode (j_co 112) 11 = .ok (.imul, 1) := by decide +kernel
set_option maxRecDepth 20000 in
theorem w112_11 {d : Nat} {st : List Value} {Q : Option Value × jW → Prop} {ls : jL} {w : jW} {a b : Int32} : Wp d 112 11 ls (.int b :: .int a :: st) w Q = Wp d 112 12 ls (.int (a * b) :: st) w Q := Wp.alu e112_11 rfl rfl
theorem e112_12 : decode (j_co 112) 12 = .ok (.iadd, 1) := by decide +kernel
set_option maxRecDepth 20000 in
theorem w112_12 {d : Nat} {st : List Value} {Q : Option Value × jW → Prop} {ls : jL} {w : jW} {a b : Int32} : Wp d 112 12 ls (.int b :: .int a :: st) w Q = Wp d 112 13 ls (.int (a + b) :: st) w Q := Wp.alu e112_12 rfl rfl
theorem e112_13 : decode (j_co 112) 13 = .ok (.bipush (-20), 2) := by decide +kernel
set_option maxRecDepth 20000 in
theorem w112_13 {d : Nat} {st : List Value} {Q : Option Value × jW → Prop} {ls : jL} {w : jW} : Wp d 112 13 ls (st) w Q = Wp d 112 15 ls (.int (-20) :: st) w Q := Wp.alu e112_13 rfl rfl
theorem e112_15 : decode (j_co 112) 15 = .ok (.iastore, 1) := by decide +kernel
set_option maxRecDepth 20000 in
theorem w112_15 {d : Nat} {st : List Value} {Q : Option Value × jW → Prop} {ls : jL} {xs : List Value} {I : fI} {L : fL} {o : Nat} {i x : Int32} (ht : f_tg o = 100) (hi : ¬ (i < 0 ∨ f_ln o ≤ i.toNatClampNeg)) : Wp d 112 15 ls (.int x :: .int i :: .ref o :: st) (f_W xs I L) Q = Wp d 112 16 ls (st) (f_W xs (f_up I o i.toNatClampNeg x) L) Q := Wp.iast e112_15 ht hi
theorem e112_16 : decode (j_co 112) 16 = .ok (.aload_n 0, 1) := by decide +kernel
set_option maxRecDepth 20000 in
theorem w112_16 {d : Nat} {st : List Value} {Q : Option Value × jW → Prop} {w : jW} {a1 a2 : Option Value} {x : Nat} : Wp d 112 16 [some (.ref x), a1, a2] (st) w Q = Wp d 112 17 [some (.ref x), a1, a2] (.ref x :: st) w Q := Wp.loc e112_16 rfl rfl rfl
theorem e112_17 : decode (j_co 112) 17 = .ok (.iload_n 1, 1) := by decide +kernel
set_option maxRecDepth 20000 in
theorem w112_17 {d : Nat} {st : List Value} {Q : Option Value × jW → Prop} {w : jW} {a0 a2 : Option Value} {x : Int32} : Wp d 112 17 [a0, some (.int x), a2] (st) w Q = Wp d 112 18 [a0, some (.int x), a2] (.int x :: st) w Q := Wp.loc e112_17 rfl rfl rfl
theorem e112_18 : decode (j_co 112) 18 = .ok (.iconst 2, 1) := by decide +kernel
set_option maxRecDepth 20000 in
theorem w112_18 {d : Nat} {st : List Value} {Q : Option Value × jW → Prop} {ls : jL} {w : jW} : Wp d 112 18 ls (st) w Q = Wp d 112 19 ls (.int (nI 2) :: st) w Q := Wp.alu e112_18 rfl rfl
theorem e112_19 : decode (j_co 112) 19 = .ok (.iload_n 2, 1) := by decide +kernel
set_option maxRecDepth 20000 in
theorem w112_19 {d : Nat} {st : List Value} {Q : Option Value × jW → Prop} {w : jW} {a0 a1 : Option Value} {x : Int32} : Wp d 112 19 [a0, a1, some (.int x)] (st) w Q = Wp d 112 20 [a0, a1, some (.int x)] (.int x :: st) w Q := Wp.loc e112_19 rfl rfl rfl
theorem e112_20 : decode (j_co 112) 20 = .ok (.imul, 1) := by decide +kernel
set_option maxRecDepth 20000 in
theorem w112_20 {d : Nat} {st : List Value} {Q : Option Value × jW → Prop} {ls : jL} {w : jW} {a b : Int32} : Wp d 112 20 ls (.int b :: .int a :: st) w Q = Wp d 112 21 ls (.int (a * b) :: st) w Q := Wp.alu e112_20 rfl rfl
theorem e112_21 : decode (j_co 112) 21 = .ok (.iadd, 1) := by decide +kernel
set_option maxRecDepth 20000 in
theorem w112_21 {d : Nat} {st : List Value} {Q : Option Value × jW → Prop} {ls : jL} {w : jW} {a b : Int32} : Wp d 112 21 ls (.int b :: .int a :: st) w Q = Wp d 112 22 ls (.int (a + b) :: st) w Q := Wp.alu e112_21 rfl rfl
theorem e112_22 : decode (j_co 112) 22 = .ok (.iconst 1, 1) := by decide +kernel
set_option maxRecDepth 20000 in
theorem w112_22 {d : Nat} {st : List Value} {Q : Option Value × jW → Prop} {ls : jL} {w : jW} : Wp d 112 22 ls (st) w Q = Wp d 112 23 ls (.int (nI 1) :: st) w Q := Wp.alu e112_22 rfl rfl
theorem e112_23 : decode (j_co 112) 23 = .ok (.iadd, 1) := by decide +kernel
set_option maxRecDepth 20000 in
theorem w112_23 {d : Nat} {st : List Value} {Q : Option Value × jW → Prop} {ls : jL} {w : jW} {a b : Int32} : Wp d 112 23 ls (.int b :: .int a :: st) w Q = Wp d 112 24 ls (.int (a + b) :: st) w Q := Wp.alu e112_23 rfl rfl
theorem e112_24 : decode (j_co 112) 24 = .ok (.bipush 20, 2) := by decide +kernel
set_option maxRecDepth 20000 in
theorem w112_24 {d : Nat} {st : List Value} {Q : Option Value × jW → Prop} {ls : jL} {w : jW} : Wp d 112 24 ls (st) w Q = Wp d 112 26 ls (.int (nI 20) :: st) w Q := Wp.alu e112_24 rfl rfl
theorem e112_26 : decode (j_co 112) 26 = .ok (.iastore, 1) := by decide +kernel
set_option maxRecDepth 20000 in
theorem w112_26 {d : Nat} {st : List Value} {Q : Option Value × jW → Prop} {ls : jL} {xs : List Value} {I : fI} {L : fL} {o : Nat} {i x : Int32} (ht : f_tg o = 100) (hi : ¬ (i < 0 ∨ f_ln o ≤ i.toNatClampNeg)) : Wp d 112 26 ls (.int x :: .int i :: .ref o :: st) (f_W xs I L) Q = Wp d 112 27 ls (st) (f_W xs (f_up I o i.toNatClampNeg x) L) Q := Wp.iast e112_26 ht hi
theorem e112_27 : decode (j_co 112) 27 = .ok (.iinc 2 1, 3) := by decide +kernel
set_option maxRecDepth 20000 in
theorem w112_27 {d : Nat} {st : List Value} {Q : Option Value × jW → Prop} {w : jW} {a0 a1 : Option Value} {x : Int32} (h : j_cp a1) : Wp d 112 27 [a0, a1, some (.int x)] (st) w Q = Wp d 112 30 [a0, a1, some (.int (x + nI 1))] (st) w Q := Wp.loc e112_27 rfl rfl (v_inc (ls := [a0, a1, some (.int x)]) (k := 2) (n := 1) rfl (show 2 < 3 by decide) h)
theorem e112_30 : decode (j_co 112) 30 = .ok (.goto (-28), 3) := by decide +kernel
set_option maxRecDepth 20000 in
theorem w112_30 {d : Nat} {st : List Value} {Q : Option Value × jW → Prop} {ls : jL} {w : jW} : Wp d 112 30 ls (st) w Q = Wp d 112 2 ls (st) w Q := Wp.br e112_30 (Or.inl rfl) rfl rfl rfl rfl
theorem e112_33 : decode (j_co 112) 33 = .ok (.return_, 1) := by decide +kernel
set_option maxRecDepth 20000 in
theorem w112_33 {d : Nat} {Q : Option Value × jW → Prop} {ls : jL} {w : jW} : Wp d 112 33 ls [] w Q = Q (none, w) := Wp.ret e112_33 rfl
/-! M.room -/
theorem e113_0 : decode (j_co 113) 0 = .ok (.aload_n 0, 1) := by decide +kernel
set_option maxRecDepth 20000 in
theorem w113_0 {d : Nat} {st : List Value} {Q : Option Value × jW → Prop} {w : jW} {a1 a2 a3 a4 : Option Value} {x : Nat} : Wp d 113 0 [some (.ref x), a1, a2, a3, a4] (st) w Q = Wp d 113 1 [some (.ref x), a1, a2, a3, a4] (.ref x :: st) w Q := Wp.loc e113_0 rfl rfl rfl
theorem e113_1 : decode (j_co 113) 1 = .ok (.iload_n 1, 1) := by decide +kernel
set_option maxRecDepth 20000 in
theorem w113_1 {d : Nat} {st : List Value} {Q : Option Value × jW → Prop} {w : jW} {a0 a2 a3 a4 : Option Value} {x : Int32} : Wp d 113 1 [a0, some (.int x), a2, a3, a4] (st) w Q = Wp d 113 2 [a0, some (.int x), a2, a3, a4] (.int x :: st) w Q := Wp.loc e113_1 rfl rfl rfl
theorem e113_2 : decode (j_co 113) 2 = .ok (.invokevirtual 106, 3) := by decide +kernel
set_option maxRecDepth 20000 in
theorem w113_2 {d : Nat} {st : List Value} {Q : Option Value × jW → Prop} {ls : jL} {xs : List Value} {I : fI} {L : fL} {r : Nat} {x0 : Int32} (hs : j_sumc st ≤ 8) (ht : f_tg r = 11) : Wp (d + 1) 113 2 ls (.int x0 :: .ref r :: st) (f_W xs I L) Q = Wp d 114 0 [some (.ref r), some (.int x0)] [] (f_W xs I L) (fun r1 => Wp (d + 1) 113 5 ls (r1.1.toList ++ st) r1.2 Q) := Wp.cv (y' := 114) (as := [.int x0]) e113_2 rfl (by decide) rfl (show 2 ≤ 2 by decide) (by decide) hs ht
theorem e113_5 : decode (j_co 113) 5 = .ok (.ifCond .eq 33, 3) := by decide +kernel
set_option maxRecDepth 20000 in
theorem w113_5 {d : Nat} {st : List Value} {Q : Option Value × jW → Prop} {ls : jL} {w : jW} {a : Int32} : Wp d 113 5 ls (.int a :: st) w Q = ((a = nI 0 → Wp d 113 38 ls st w Q) ∧ (¬ a = nI 0 → Wp d 113 8 ls st w Q)) := Wp.if2 (c := a = nI 0) (off := 33) e113_5 rfl rfl rfl rfl rfl
theorem e113_8 : decode (j_co 113) 8 = .ok (.iload_n 2, 1) := by decide +kernel
set_option maxRecDepth 20000 in
theorem w113_8 {d : Nat} {st : List Value} {Q : Option Value × jW → Prop} {w : jW} {a0 a1 a3 a4 : Option Value} {x : Int32} : Wp d 113 8 [a0, a1, some (.int x), a3, a4] (st) w Q = Wp d 113 9 [a0, a1, some (.int x), a3, a4] (.int x :: st) w Q := Wp.loc e113_8 rfl rfl rfl
theorem e113_9 : decode (j_co 113) 9 = .ok (.iload_n 3, 1) := by decide +kernel
set_option maxRecDepth 20000 in
theorem w113_9 {d : Nat} {st : List Value} {Q : Option Value × jW → Prop} {w : jW} {a0 a1 a2 a4 : Option Value} {x : Int32} : Wp d 113 9 [a0, a1, a2, some (.int x), a4] (st) w Q = Wp d 113 10 [a0, a1, a2, some (.int x), a4] (.int x :: st) w Q := Wp.loc e113_9 rfl rfl rfl
theorem e113_10 : decode (j_co 113) 10 = .ok (.iload 4, 2) := by decide +kernel
set_option maxRecDepth 20000 in
theorem w113_10 {d : Nat} {st : List Value} {Q : Option Value × jW → Prop} {w : jW} {a0 a1 a2 a3 : Option Value} {x : Int32} : Wp d 113 10 [a0, a1, a2, a3, some (.int x)] (st) w Q = Wp d 113 12 [a0, a1, a2, a3, some (.int x)] (.int x :: st) w Q := Wp.loc e113_10 rfl rfl rfl
theorem e113_12 : decode (j_co 113) 12 = .ok (.bipush 20, 2) := by decide +kernel
set_option maxRecDepth 20000 in
theorem w113_12 {d : Nat} {st : List Value} {Q : Option Value × jW → Prop} {ls : jL} {w : jW} : Wp d 113 12 ls (st) w Q = Wp d 113 14 ls (.int (nI 20) :: st) w Q := Wp.alu e113_12 rfl rfl
theorem e113_14 : decode (j_co 113) 14 = .ok (.invokestatic 110, 3) := by decide +kernel
set_option maxRecDepth 20000 in
theorem w113_14 {d : Nat} {st : List Value} {Q : Option Value × jW → Prop} {ls : jL} {w : jW} {x0 : Int32} {x1 : Int32} {x2 : Int32} {x3 : Int32} (hs : j_sumc st ≤ 8) : Wp (d + 1) 113 14 ls (.int x3 :: .int x2 :: .int x1 :: .int x0 :: st) w Q = Wp d 116 0 [some (.int x0), some (.int x1), some (.int x2), some (.int x3)] [] w (fun r1 => Wp (d + 1) 113 17 ls (r1.1.toList ++ st) r1.2 Q) := Wp.cs (kd := 1) (y' := 116) (as := [.int x0, .int x1, .int x2, .int x3]) e113_14 rfl (by decide) (by decide) rfl (show 4 ≤ 4 by decide) hs
theorem e113_17 : decode (j_co 113) 17 = .ok (.ifCond .eq 21, 3) := by decide +kernel
set_option maxRecDepth 20000 in
theorem w113_17 {d : Nat} {st : List Value} {Q : Option Value × jW → Prop} {ls : jL} {w : jW} {a : Int32} : Wp d 113 17 ls (.int a :: st) w Q = ((a = nI 0 → Wp d 113 38 ls st w Q) ∧ (¬ a = nI 0 → Wp d 113 20 ls st w Q)) := Wp.if2 (c := a = nI 0) (off := 21) e113_17 rfl rfl rfl rfl rfl
theorem e113_20 : decode (j_co 113) 20 = .ok (.aload_n 0, 1) := by decide +kernel
set_option maxRecDepth 20000 in
theorem w113_20 {d : Nat} {st : List Value} {Q : Option Value × jW → Prop} {w : jW} {a1 a2 a3 a4 : Option Value} {x : Nat} : Wp d 113 20 [some (.ref x), a1, a2, a3, a4] (st) w Q = Wp d 113 21 [some (.ref x), a1, a2, a3, a4] (.ref x :: st) w Q := Wp.loc e113_20 rfl rfl rfl
theorem e113_21 : decode (j_co 113) 21 = .ok (.getfield 7, 3) := by decide +kernel
set_option maxRecDepth 20000 in
theorem w113_21 {d : Nat} {st : List Value} {Q : Option Value × jW → Prop} {ls : jL} {xs : List Value} {I : fI} {L : fL} {o : Nat} (ht : f_tg o = 11) : Wp d 113 21 ls (.ref o :: st) (f_W xs I L) Q = Wp d 113 24 ls (.ref (f_rf o 1) :: st) (f_W xs I L) Q := Wp.getR (ci := 11) (k := 1) e113_21 rfl (by decide) (by decide) rfl ht
theorem e113_24 : decode (j_co 113) 24 = .ok (.bipush 6, 2) := by decide +kernel
set_option maxRecDepth 20000 in
theorem w113_24 {d : Nat} {st : List Value} {Q : Option Value × jW → Prop} {ls : jL} {w : jW} : Wp d 113 24 ls (st) w Q = Wp d 113 26 ls (.int (nI 6) :: st) w Q := Wp.alu e113_24 rfl rfl
theorem e113_26 : decode (j_co 113) 26 = .ok (.iload_n 1, 1) := by decide +kernel
set_option maxRecDepth 20000 in
theorem w113_26 {d : Nat} {st : List Value} {Q : Option Value × jW → Prop} {w : jW} {a0 a2 a3 a4 : Option Value} {x : Int32} : Wp d 113 26 [a0, some (.int x), a2, a3, a4] (st) w Q = Wp d 113 27 [a0, some (.int x), a2, a3, a4] (.int x :: st) w Q := Wp.loc e113_26 rfl rfl rfl
theorem e113_27 : decode (j_co 113) 27 = .ok (.imul, 1) := by decide +kernel
set_option maxRecDepth 20000 in
theorem w113_27 {d : Nat} {st : List Value} {Q : Option Value × jW → Prop} {ls : jL} {w : jW} {a b : Int32} : Wp d 113 27 ls (.int b :: .int a :: st) w Q = Wp d 113 28 ls (.int (a * b) :: st) w Q := Wp.alu e113_27 rfl rfl
theorem e113_28 : decode (j_co 113) 28 = .ok (.iload_n 2, 1) := by decide +kernel
set_option maxRecDepth 20000 in
theorem w113_28 {d : Nat} {st : List Value} {Q : Option Value × jW → Prop} {w : jW} {a0 a1 a3 a4 : Option Value} {x : Int32} : Wp d 113 28 [a0, a1, some (.int x), a3, a4] (st) w Q = Wp d 113 29 [a0, a1, some (.int x), a3, a4] (.int x :: st) w Q := Wp.loc e113_28 rfl rfl rfl
theorem e113_29 : decode (j_co 113) 29 = .ok (.iload_n 3, 1) := by decide +kernel
set_option maxRecDepth 20000 in
theorem w113_29 {d : Nat} {st : List Value} {Q : Option Value × jW → Prop} {w : jW} {a0 a1 a2 a4 : Option Value} {x : Int32} : Wp d 113 29 [a0, a1, a2, some (.int x), a4] (st) w Q = Wp d 113 30 [a0, a1, a2, some (.int x), a4] (.int x :: st) w Q := Wp.loc e113_29 rfl rfl rfl
theorem e113_30 : decode (j_co 113) 30 = .ok (.iload 4, 2) := by decide +kernel
set_option maxRecDepth 20000 in
theorem w113_30 {d : Nat} {st : List Value} {Q : Option Value × jW → Prop} {w : jW} {a0 a1 a2 a3 : Option Value} {x : Int32} : Wp d 113 30 [a0, a1, a2, a3, some (.int x)] (st) w Q = Wp d 113 32 [a0, a1, a2, a3, some (.int x)] (.int x :: st) w Q := Wp.loc e113_30 rfl rfl rfl
theorem e113_32 : decode (j_co 113) 32 = .ok (.invokestatic 114, 3) := by decide +kernel
set_option maxRecDepth 20000 in
theorem w113_32 {d : Nat} {st : List Value} {Q : Option Value × jW → Prop} {ls : jL} {w : jW} {x0 : Nat} {x1 : Int32} {x2 : Int32} {x3 : Int32} {x4 : Int32} (hs : j_sumc st ≤ 8) : Wp (d + 1) 113 32 ls (.int x4 :: .int x3 :: .int x2 :: .int x1 :: .ref x0 :: st) w Q = Wp d 117 0 [some (.ref x0), some (.int x1), some (.int x2), some (.int x3), some (.int x4)] [] w (fun r1 => Wp (d + 1) 113 35 ls (r1.1.toList ++ st) r1.2 Q) := Wp.cs (kd := 1) (y' := 117) (as := [.ref x0, .int x1, .int x2, .int x3, .int x4]) e113_32 rfl (by decide) (by decide) rfl (show 5 ≤ 5 by decide) hs
theorem e113_35 : decode (j_co 113) 35 = .ok (.goto 4, 3) := by decide +kernel
set_option maxRecDepth 20000 in
theorem w113_35 {d : Nat} {st : List Value} {Q : Option Value × jW → Prop} {ls : jL} {w : jW} : Wp d 113 35 ls (st) w Q = Wp d 113 39 ls (st) w Q := Wp.br e113_35 (Or.inl rfl) rfl rfl rfl rfl
theorem e113_38 : decode (j_co 113) 38 = .ok (.iconst (-1), 1) := by decide +kernel
set_option maxRecDepth 20000 in
theorem w113_38 {d : Nat} {st : List Value} {Q : Option Value × jW → Prop} {ls : jL} {w : jW} : Wp d 113 38 ls (st) w Q = Wp d 113 39 ls (.int (-1) :: st) w Q := Wp.alu e113_38 rfl rfl
theorem e113_39 : decode (j_co 113) 39 = .ok (.ireturn, 1) := by decide +kernel
set_option maxRecDepth 20000 in
theorem w113_39 {d : Nat} {Q : Option Value × jW → Prop} {ls : jL} {w : jW} {x : Int32} : Wp d 113 39 ls [.int x] w Q = Q (some (.int x), w) := Wp.ret e113_39 rfl
/-! M.isMode -/
theorem e114_0 : decode (j_co 114) 0 = .ok (.iload_n 1, 1) := by decide +kernel
set_option maxRecDepth 20000 in
theorem w114_0 {d : Nat} {st : List Value} {Q : Option Value × jW → Prop} {w : jW} {a0 : Option Value} {x : Int32} : Wp d 114 0 [a0, some (.int x)] (st) w Q = Wp d 114 1 [a0, some (.int x)] (.int x :: st) w Q := Wp.loc e114_0 rfl rfl rfl
theorem e114_1 : decode (j_co 114) 1 = .ok (.i2l, 1) := by decide +kernel
set_option maxRecDepth 20000 in
theorem w114_1 {d : Nat} {st : List Value} {Q : Option Value × jW → Prop} {ls : jL} {w : jW} {a : Int32} : Wp d 114 1 ls (.int a :: st) w Q = Wp d 114 2 ls (.long a.toInt64 :: st) w Q := Wp.alu e114_1 rfl rfl
theorem e114_2 : decode (j_co 114) 2 = .ok (.lconst 0, 1) := by decide +kernel
set_option maxRecDepth 20000 in
theorem w114_2 {d : Nat} {st : List Value} {Q : Option Value × jW → Prop} {ls : jL} {w : jW} : Wp d 114 2 ls (st) w Q = Wp d 114 3 ls (.long (lN 0) :: st) w Q := Wp.alu e114_2 rfl rfl
theorem e114_3 : decode (j_co 114) 3 = .ok (.aload_n 0, 1) := by decide +kernel
set_option maxRecDepth 20000 in
theorem w114_3 {d : Nat} {st : List Value} {Q : Option Value × jW → Prop} {w : jW} {a1 : Option Value} {x : Nat} : Wp d 114 3 [some (.ref x), a1] (st) w Q = Wp d 114 4 [some (.ref x), a1] (.ref x :: st) w Q := Wp.loc e114_3 rfl rfl rfl
theorem e114_4 : decode (j_co 114) 4 = .ok (.getfield 90, 3) := by decide +kernel
set_option maxRecDepth 20000 in
theorem w114_4 {d : Nat} {st : List Value} {Q : Option Value × jW → Prop} {ls : jL} {xs : List Value} {I : fI} {L : fL} {o : Nat} (ht : f_tg o = 11) : Wp d 114 4 ls (.ref o :: st) (f_W xs I L) Q = Wp d 114 7 ls (.int (I o 0) :: st) (f_W xs I L) Q := Wp.getI (ci := 11) (k := 0) e114_4 rfl (by decide) (by decide) (by decide) ht
theorem e114_7 : decode (j_co 114) 7 = .ok (.iconst 1, 1) := by decide +kernel
set_option maxRecDepth 20000 in
theorem w114_7 {d : Nat} {st : List Value} {Q : Option Value × jW → Prop} {ls : jL} {w : jW} : Wp d 114 7 ls (st) w Q = Wp d 114 8 ls (.int (nI 1) :: st) w Q := Wp.alu e114_7 rfl rfl
theorem e114_8 : decode (j_co 114) 8 = .ok (.isub, 1) := by decide +kernel
set_option maxRecDepth 20000 in
theorem w114_8 {d : Nat} {st : List Value} {Q : Option Value × jW → Prop} {ls : jL} {w : jW} {a b : Int32} : Wp d 114 8 ls (.int b :: .int a :: st) w Q = Wp d 114 9 ls (.int (a - b) :: st) w Q := Wp.alu e114_8 rfl rfl
theorem e114_9 : decode (j_co 114) 9 = .ok (.i2l, 1) := by decide +kernel
set_option maxRecDepth 20000 in
theorem w114_9 {d : Nat} {st : List Value} {Q : Option Value × jW → Prop} {ls : jL} {w : jW} {a : Int32} : Wp d 114 9 ls (.int a :: st) w Q = Wp d 114 10 ls (.long a.toInt64 :: st) w Q := Wp.alu e114_9 rfl rfl
theorem e114_10 : decode (j_co 114) 10 = .ok (.invokestatic 93, 3) := by decide +kernel
set_option maxRecDepth 20000 in
theorem w114_10 {d : Nat} {st : List Value} {Q : Option Value × jW → Prop} {ls : jL} {w : jW} {x0 : Int64} {x1 : Int64} {x2 : Int64} (hs : j_sumc st ≤ 8) : Wp (d + 1) 114 10 ls (.long x2 :: .long x1 :: .long x0 :: st) w Q = Wp d 115 0 [some (.long x0), none, some (.long x1), none, some (.long x2), none] [] w (fun r1 => Wp (d + 1) 114 13 ls (r1.1.toList ++ st) r1.2 Q) := Wp.cs (kd := 1) (y' := 115) (as := [.long x0, .long x1, .long x2]) e114_10 rfl (by decide) (by decide) rfl (show 6 ≤ 6 by decide) hs
theorem e114_13 : decode (j_co 114) 13 = .ok (.ireturn, 1) := by decide +kernel
set_option maxRecDepth 20000 in
theorem w114_13 {d : Nat} {Q : Option Value × jW → Prop} {ls : jL} {w : jW} {x : Int32} (hx : x = 0 ∨ x = 1) : Wp d 114 13 ls [.int x] w Q = Q (some (.int x), w) := Wp.ret e114_13 (by rcases hx with rfl | rfl <;> rfl)
/-! M.in -/
theorem e115_0 : decode (j_co 115) 0 = .ok (.lload_n 0, 1) := by decide +kernel
set_option maxRecDepth 20000 in
theorem w115_0 {d : Nat} {st : List Value} {Q : Option Value × jW → Prop} {w : jW} {a1 a2 a3 a4 a5 : Option Value} {x : Int64} : Wp d 115 0 [some (.long x), a1, a2, a3, a4, a5] (st) w Q = Wp d 115 1 [some (.long x), a1, a2, a3, a4, a5] (.long x :: st) w Q := Wp.loc e115_0 rfl rfl rfl
theorem e115_1 : decode (j_co 115) 1 = .ok (.lload_n 2, 1) := by decide +kernel
set_option maxRecDepth 20000 in
theorem w115_1 {d : Nat} {st : List Value} {Q : Option Value × jW → Prop} {w : jW} {a0 a1 a3 a4 a5 : Option Value} {x : Int64} : Wp d 115 1 [a0, a1, some (.long x), a3, a4, a5] (st) w Q = Wp d 115 2 [a0, a1, some (.long x), a3, a4, a5] (.long x :: st) w Q := Wp.loc e115_1 rfl rfl rfl
theorem e115_2 : decode (j_co 115) 2 = .ok (.lcmp, 1) := by decide +kernel
set_option maxRecDepth 20000 in
theorem w115_2 {d : Nat} {st : List Value} {Q : Option Value × jW → Prop} {ls : jL} {w : jW} {a b : Int64} : Wp d 115 2 ls (.long b :: .long a :: st) w Q = Wp d 115 3 ls (.int (lg_cmp a b) :: st) w Q := Wp.alu e115_2 rfl rfl
theorem e115_3 : decode (j_co 115) 3 = .ok (.ifCond .lt 14, 3) := by decide +kernel
set_option maxRecDepth 20000 in
theorem w115_3 {d : Nat} {st : List Value} {Q : Option Value × jW → Prop} {ls : jL} {w : jW} {a : Int32} : Wp d 115 3 ls (.int a :: st) w Q = ((a < nI 0 → Wp d 115 17 ls st w Q) ∧ (¬ a < nI 0 → Wp d 115 6 ls st w Q)) := Wp.if2 (c := a < nI 0) (off := 14) e115_3 rfl rfl rfl rfl rfl
theorem e115_6 : decode (j_co 115) 6 = .ok (.lload_n 0, 1) := by decide +kernel
set_option maxRecDepth 20000 in
theorem w115_6 {d : Nat} {st : List Value} {Q : Option Value × jW → Prop} {w : jW} {a1 a2 a3 a4 a5 : Option Value} {x : Int64} : Wp d 115 6 [some (.long x), a1, a2, a3, a4, a5] (st) w Q = Wp d 115 7 [some (.long x), a1, a2, a3, a4, a5] (.long x :: st) w Q := Wp.loc e115_6 rfl rfl rfl
theorem e115_7 : decode (j_co 115) 7 = .ok (.lload 4, 2) := by decide +kernel
set_option maxRecDepth 20000 in
theorem w115_7 {d : Nat} {st : List Value} {Q : Option Value × jW → Prop} {w : jW} {a0 a1 a2 a3 a5 : Option Value} {x : Int64} : Wp d 115 7 [a0, a1, a2, a3, some (.long x), a5] (st) w Q = Wp d 115 9 [a0, a1, a2, a3, some (.long x), a5] (.long x :: st) w Q := Wp.loc e115_7 rfl rfl rfl
theorem e115_9 : decode (j_co 115) 9 = .ok (.lcmp, 1) := by decide +kernel
set_option maxRecDepth 20000 in
theorem w115_9 {d : Nat} {st : List Value} {Q : Option Value × jW → Prop} {ls : jL} {w : jW} {a b : Int64} : Wp d 115 9 ls (.long b :: .long a :: st) w Q = Wp d 115 10 ls (.int (lg_cmp a b) :: st) w Q := Wp.alu e115_9 rfl rfl
theorem e115_10 : decode (j_co 115) 10 = .ok (.ifCond .gt 7, 3) := by decide +kernel
set_option maxRecDepth 20000 in
theorem w115_10 {d : Nat} {st : List Value} {Q : Option Value × jW → Prop} {ls : jL} {w : jW} {a : Int32} : Wp d 115 10 ls (.int a :: st) w Q = ((nI 0 < a → Wp d 115 17 ls st w Q) ∧ (¬ nI 0 < a → Wp d 115 13 ls st w Q)) := Wp.if2 (c := nI 0 < a) (off := 7) e115_10 rfl rfl rfl rfl rfl
theorem e115_13 : decode (j_co 115) 13 = .ok (.iconst 1, 1) := by decide +kernel
set_option maxRecDepth 20000 in
theorem w115_13 {d : Nat} {st : List Value} {Q : Option Value × jW → Prop} {ls : jL} {w : jW} : Wp d 115 13 ls (st) w Q = Wp d 115 14 ls (.int (nI 1) :: st) w Q := Wp.alu e115_13 rfl rfl
theorem e115_14 : decode (j_co 115) 14 = .ok (.goto 4, 3) := by decide +kernel
set_option maxRecDepth 20000 in
theorem w115_14 {d : Nat} {st : List Value} {Q : Option Value × jW → Prop} {ls : jL} {w : jW} : Wp d 115 14 ls (st) w Q = Wp d 115 18 ls (st) w Q := Wp.br e115_14 (Or.inl rfl) rfl rfl rfl rfl
theorem e115_17 : decode (j_co 115) 17 = .ok (.iconst 0, 1) := by decide +kernel
set_option maxRecDepth 20000 in
theorem w115_17 {d : Nat} {st : List Value} {Q : Option Value × jW → Prop} {ls : jL} {w : jW} : Wp d 115 17 ls (st) w Q = Wp d 115 18 ls (.int (nI 0) :: st) w Q := Wp.alu e115_17 rfl rfl
theorem e115_18 : decode (j_co 115) 18 = .ok (.ireturn, 1) := by decide +kernel
set_option maxRecDepth 20000 in
theorem w115_18 {d : Nat} {Q : Option Value × jW → Prop} {ls : jL} {w : jW} {x : Int32} (hx : x = 0 ∨ x = 1) : Wp d 115 18 ls [.int x] w Q = Q (some (.int x), w) := Wp.ret e115_18 (by rcases hx with rfl | rfl <;> rfl)
/-! M.isSpan -/
theorem e116_0 : decode (j_co 116) 0 = .ok (.iload_n 0, 1) := by decide +kernel
set_option maxRecDepth 20000 in
theorem w116_0 {d : Nat} {st : List Value} {Q : Option Value × jW → Prop} {w : jW} {a1 a2 a3 : Option Value} {x : Int32} : Wp d 116 0 [some (.int x), a1, a2, a3] (st) w Q = Wp d 116 1 [some (.int x), a1, a2, a3] (.int x :: st) w Q := Wp.loc e116_0 rfl rfl rfl
theorem e116_1 : decode (j_co 116) 1 = .ok (.i2l, 1) := by decide +kernel
set_option maxRecDepth 20000 in
theorem w116_1 {d : Nat} {st : List Value} {Q : Option Value × jW → Prop} {ls : jL} {w : jW} {a : Int32} : Wp d 116 1 ls (.int a :: st) w Q = Wp d 116 2 ls (.long a.toInt64 :: st) w Q := Wp.alu e116_1 rfl rfl
theorem e116_2 : decode (j_co 116) 2 = .ok (.lconst 0, 1) := by decide +kernel
set_option maxRecDepth 20000 in
theorem w116_2 {d : Nat} {st : List Value} {Q : Option Value × jW → Prop} {ls : jL} {w : jW} : Wp d 116 2 ls (st) w Q = Wp d 116 3 ls (.long (lN 0) :: st) w Q := Wp.alu e116_2 rfl rfl
theorem e116_3 : decode (j_co 116) 3 = .ok (.ldc2_w 100, 3) := by decide +kernel
set_option maxRecDepth 20000 in
theorem w116_3 {d : Nat} {st : List Value} {Q : Option Value × jW → Prop} {ls : jL} {w : jW} : Wp d 116 3 ls (st) w Q = Wp d 116 6 ls (.long (lN 2) :: st) w Q := Wp.ldc2 e116_3 rfl
theorem e116_6 : decode (j_co 116) 6 = .ok (.invokestatic 93, 3) := by decide +kernel
set_option maxRecDepth 20000 in
theorem w116_6 {d : Nat} {st : List Value} {Q : Option Value × jW → Prop} {ls : jL} {w : jW} {x0 : Int64} {x1 : Int64} {x2 : Int64} (hs : j_sumc st ≤ 8) : Wp (d + 1) 116 6 ls (.long x2 :: .long x1 :: .long x0 :: st) w Q = Wp d 115 0 [some (.long x0), none, some (.long x1), none, some (.long x2), none] [] w (fun r1 => Wp (d + 1) 116 9 ls (r1.1.toList ++ st) r1.2 Q) := Wp.cs (kd := 1) (y' := 115) (as := [.long x0, .long x1, .long x2]) e116_6 rfl (by decide) (by decide) rfl (show 6 ≤ 6 by decide) hs
theorem e116_9 : decode (j_co 116) 9 = .ok (.ifCond .eq 32, 3) := by decide +kernel
set_option maxRecDepth 20000 in
theorem w116_9 {d : Nat} {st : List Value} {Q : Option Value × jW → Prop} {ls : jL} {w : jW} {a : Int32} : Wp d 116 9 ls (.int a :: st) w Q = ((a = nI 0 → Wp d 116 41 ls st w Q) ∧ (¬ a = nI 0 → Wp d 116 12 ls st w Q)) := Wp.if2 (c := a = nI 0) (off := 32) e116_9 rfl rfl rfl rfl rfl
theorem e116_12 : decode (j_co 116) 12 = .ok (.iload_n 1, 1) := by decide +kernel
set_option maxRecDepth 20000 in
theorem w116_12 {d : Nat} {st : List Value} {Q : Option Value × jW → Prop} {w : jW} {a0 a2 a3 : Option Value} {x : Int32} : Wp d 116 12 [a0, some (.int x), a2, a3] (st) w Q = Wp d 116 13 [a0, some (.int x), a2, a3] (.int x :: st) w Q := Wp.loc e116_12 rfl rfl rfl
theorem e116_13 : decode (j_co 116) 13 = .ok (.i2l, 1) := by decide +kernel
set_option maxRecDepth 20000 in
theorem w116_13 {d : Nat} {st : List Value} {Q : Option Value × jW → Prop} {ls : jL} {w : jW} {a : Int32} : Wp d 116 13 ls (.int a :: st) w Q = Wp d 116 14 ls (.long a.toInt64 :: st) w Q := Wp.alu e116_13 rfl rfl
theorem e116_14 : decode (j_co 116) 14 = .ok (.iload_n 3, 1) := by decide +kernel
set_option maxRecDepth 20000 in
theorem w116_14 {d : Nat} {st : List Value} {Q : Option Value × jW → Prop} {w : jW} {a0 a1 a2 : Option Value} {x : Int32} : Wp d 116 14 [a0, a1, a2, some (.int x)] (st) w Q = Wp d 116 15 [a0, a1, a2, some (.int x)] (.int x :: st) w Q := Wp.loc e116_14 rfl rfl rfl
theorem e116_15 : decode (j_co 116) 15 = .ok (.ineg, 1) := by decide +kernel
set_option maxRecDepth 20000 in
theorem w116_15 {d : Nat} {st : List Value} {Q : Option Value × jW → Prop} {ls : jL} {w : jW} {a : Int32} : Wp d 116 15 ls (.int a :: st) w Q = Wp d 116 16 ls (.int (-a) :: st) w Q := Wp.alu e116_15 rfl rfl
theorem e116_16 : decode (j_co 116) 16 = .ok (.i2l, 1) := by decide +kernel
set_option maxRecDepth 20000 in
theorem w116_16 {d : Nat} {st : List Value} {Q : Option Value × jW → Prop} {ls : jL} {w : jW} {a : Int32} : Wp d 116 16 ls (.int a :: st) w Q = Wp d 116 17 ls (.long a.toInt64 :: st) w Q := Wp.alu e116_16 rfl rfl
theorem e116_17 : decode (j_co 116) 17 = .ok (.iload_n 2, 1) := by decide +kernel
set_option maxRecDepth 20000 in
theorem w116_17 {d : Nat} {st : List Value} {Q : Option Value × jW → Prop} {w : jW} {a0 a1 a3 : Option Value} {x : Int32} : Wp d 116 17 [a0, a1, some (.int x), a3] (st) w Q = Wp d 116 18 [a0, a1, some (.int x), a3] (.int x :: st) w Q := Wp.loc e116_17 rfl rfl rfl
theorem e116_18 : decode (j_co 116) 18 = .ok (.i2l, 1) := by decide +kernel
set_option maxRecDepth 20000 in
theorem w116_18 {d : Nat} {st : List Value} {Q : Option Value × jW → Prop} {ls : jL} {w : jW} {a : Int32} : Wp d 116 18 ls (.int a :: st) w Q = Wp d 116 19 ls (.long a.toInt64 :: st) w Q := Wp.alu e116_18 rfl rfl
theorem e116_19 : decode (j_co 116) 19 = .ok (.invokestatic 93, 3) := by decide +kernel
set_option maxRecDepth 20000 in
theorem w116_19 {d : Nat} {st : List Value} {Q : Option Value × jW → Prop} {ls : jL} {w : jW} {x0 : Int64} {x1 : Int64} {x2 : Int64} (hs : j_sumc st ≤ 8) : Wp (d + 1) 116 19 ls (.long x2 :: .long x1 :: .long x0 :: st) w Q = Wp d 115 0 [some (.long x0), none, some (.long x1), none, some (.long x2), none] [] w (fun r1 => Wp (d + 1) 116 22 ls (r1.1.toList ++ st) r1.2 Q) := Wp.cs (kd := 1) (y' := 115) (as := [.long x0, .long x1, .long x2]) e116_19 rfl (by decide) (by decide) rfl (show 6 ≤ 6 by decide) hs
theorem e116_22 : decode (j_co 116) 22 = .ok (.ifCond .eq 19, 3) := by decide +kernel
set_option maxRecDepth 20000 in
theorem w116_22 {d : Nat} {st : List Value} {Q : Option Value × jW → Prop} {ls : jL} {w : jW} {a : Int32} : Wp d 116 22 ls (.int a :: st) w Q = ((a = nI 0 → Wp d 116 41 ls st w Q) ∧ (¬ a = nI 0 → Wp d 116 25 ls st w Q)) := Wp.if2 (c := a = nI 0) (off := 19) e116_22 rfl rfl rfl rfl rfl
theorem e116_25 : decode (j_co 116) 25 = .ok (.iload_n 2, 1) := by decide +kernel
set_option maxRecDepth 20000 in
theorem w116_25 {d : Nat} {st : List Value} {Q : Option Value × jW → Prop} {w : jW} {a0 a1 a3 : Option Value} {x : Int32} : Wp d 116 25 [a0, a1, some (.int x), a3] (st) w Q = Wp d 116 26 [a0, a1, some (.int x), a3] (.int x :: st) w Q := Wp.loc e116_25 rfl rfl rfl
theorem e116_26 : decode (j_co 116) 26 = .ok (.i2l, 1) := by decide +kernel
set_option maxRecDepth 20000 in
theorem w116_26 {d : Nat} {st : List Value} {Q : Option Value × jW → Prop} {ls : jL} {w : jW} {a : Int32} : Wp d 116 26 ls (.int a :: st) w Q = Wp d 116 27 ls (.long a.toInt64 :: st) w Q := Wp.alu e116_26 rfl rfl
theorem e116_27 : decode (j_co 116) 27 = .ok (.iload_n 1, 1) := by decide +kernel
set_option maxRecDepth 20000 in
theorem w116_27 {d : Nat} {st : List Value} {Q : Option Value × jW → Prop} {w : jW} {a0 a2 a3 : Option Value} {x : Int32} : Wp d 116 27 [a0, some (.int x), a2, a3] (st) w Q = Wp d 116 28 [a0, some (.int x), a2, a3] (.int x :: st) w Q := Wp.loc e116_27 rfl rfl rfl
theorem e116_28 : decode (j_co 116) 28 = .ok (.i2l, 1) := by decide +kernel
set_option maxRecDepth 20000 in
theorem w116_28 {d : Nat} {st : List Value} {Q : Option Value × jW → Prop} {ls : jL} {w : jW} {a : Int32} : Wp d 116 28 ls (.int a :: st) w Q = Wp d 116 29 ls (.long a.toInt64 :: st) w Q := Wp.alu e116_28 rfl rfl
theorem e116_29 : decode (j_co 116) 29 = .ok (.iload_n 3, 1) := by decide +kernel
set_option maxRecDepth 20000 in
theorem w116_29 {d : Nat} {st : List Value} {Q : Option Value × jW → Prop} {w : jW} {a0 a1 a2 : Option Value} {x : Int32} : Wp d 116 29 [a0, a1, a2, some (.int x)] (st) w Q = Wp d 116 30 [a0, a1, a2, some (.int x)] (.int x :: st) w Q := Wp.loc e116_29 rfl rfl rfl
theorem e116_30 : decode (j_co 116) 30 = .ok (.i2l, 1) := by decide +kernel
set_option maxRecDepth 20000 in
theorem w116_30 {d : Nat} {st : List Value} {Q : Option Value × jW → Prop} {ls : jL} {w : jW} {a : Int32} : Wp d 116 30 ls (.int a :: st) w Q = Wp d 116 31 ls (.long a.toInt64 :: st) w Q := Wp.alu e116_30 rfl rfl
theorem e116_31 : decode (j_co 116) 31 = .ok (.invokestatic 93, 3) := by decide +kernel
set_option maxRecDepth 20000 in
theorem w116_31 {d : Nat} {st : List Value} {Q : Option Value × jW → Prop} {ls : jL} {w : jW} {x0 : Int64} {x1 : Int64} {x2 : Int64} (hs : j_sumc st ≤ 8) : Wp (d + 1) 116 31 ls (.long x2 :: .long x1 :: .long x0 :: st) w Q = Wp d 115 0 [some (.long x0), none, some (.long x1), none, some (.long x2), none] [] w (fun r1 => Wp (d + 1) 116 34 ls (r1.1.toList ++ st) r1.2 Q) := Wp.cs (kd := 1) (y' := 115) (as := [.long x0, .long x1, .long x2]) e116_31 rfl (by decide) (by decide) rfl (show 6 ≤ 6 by decide) hs
theorem e116_34 : decode (j_co 116) 34 = .ok (.ifCond .eq 7, 3) := by decide +kernel
set_option maxRecDepth 20000 in
theorem w116_34 {d : Nat} {st : List Value} {Q : Option Value × jW → Prop} {ls : jL} {w : jW} {a : Int32} : Wp d 116 34 ls (.int a :: st) w Q = ((a = nI 0 → Wp d 116 41 ls st w Q) ∧ (¬ a = nI 0 → Wp d 116 37 ls st w Q)) := Wp.if2 (c := a = nI 0) (off := 7) e116_34 rfl rfl rfl rfl rfl
theorem e116_37 : decode (j_co 116) 37 = .ok (.iconst 1, 1) := by decide +kernel
set_option maxRecDepth 20000 in
theorem w116_37 {d : Nat} {st : List Value} {Q : Option Value × jW → Prop} {ls : jL} {w : jW} : Wp d 116 37 ls (st) w Q = Wp d 116 38 ls (.int (nI 1) :: st) w Q := Wp.alu e116_37 rfl rfl
theorem e116_38 : decode (j_co 116) 38 = .ok (.goto 4, 3) := by decide +kernel
set_option maxRecDepth 20000 in
theorem w116_38 {d : Nat} {st : List Value} {Q : Option Value × jW → Prop} {ls : jL} {w : jW} : Wp d 116 38 ls (st) w Q = Wp d 116 42 ls (st) w Q := Wp.br e116_38 (Or.inl rfl) rfl rfl rfl rfl
theorem e116_41 : decode (j_co 116) 41 = .ok (.iconst 0, 1) := by decide +kernel
set_option maxRecDepth 20000 in
theorem w116_41 {d : Nat} {st : List Value} {Q : Option Value × jW → Prop} {ls : jL} {w : jW} : Wp d 116 41 ls (st) w Q = Wp d 116 42 ls (.int (nI 0) :: st) w Q := Wp.alu e116_41 rfl rfl
theorem e116_42 : decode (j_co 116) 42 = .ok (.ireturn, 1) := by decide +kernel
set_option maxRecDepth 20000 in
theorem w116_42 {d : Nat} {Q : Option Value × jW → Prop} {ls : jL} {w : jW} {x : Int32} (hx : x = 0 ∨ x = 1) : Wp d 116 42 ls [.int x] w Q = Q (some (.int x), w) := Wp.ret e116_42 (by rcases hx with rfl | rfl <;> rfl)
/-! M.tell -/
theorem e117_0 : decode (j_co 117) 0 = .ok (.aload_n 0, 1) := by decide +kernel
set_option maxRecDepth 20000 in
theorem w117_0 {d : Nat} {st : List Value} {Q : Option Value × jW → Prop} {w : jW} {a1 a2 a3 a4 : Option Value} {x : Nat} : Wp d 117 0 [some (.ref x), a1, a2, a3, a4] (st) w Q = Wp d 117 1 [some (.ref x), a1, a2, a3, a4] (.ref x :: st) w Q := Wp.loc e117_0 rfl rfl rfl
theorem e117_1 : decode (j_co 117) 1 = .ok (.iload_n 1, 1) := by decide +kernel
set_option maxRecDepth 20000 in
theorem w117_1 {d : Nat} {st : List Value} {Q : Option Value × jW → Prop} {w : jW} {a0 a2 a3 a4 : Option Value} {x : Int32} : Wp d 117 1 [a0, some (.int x), a2, a3, a4] (st) w Q = Wp d 117 2 [a0, some (.int x), a2, a3, a4] (.int x :: st) w Q := Wp.loc e117_1 rfl rfl rfl
theorem e117_2 : decode (j_co 117) 2 = .ok (.iconst 2, 1) := by decide +kernel
set_option maxRecDepth 20000 in
theorem w117_2 {d : Nat} {st : List Value} {Q : Option Value × jW → Prop} {ls : jL} {w : jW} : Wp d 117 2 ls (st) w Q = Wp d 117 3 ls (.int (nI 2) :: st) w Q := Wp.alu e117_2 rfl rfl
theorem e117_3 : decode (j_co 117) 3 = .ok (.iload_n 2, 1) := by decide +kernel
set_option maxRecDepth 20000 in
theorem w117_3 {d : Nat} {st : List Value} {Q : Option Value × jW → Prop} {w : jW} {a0 a1 a3 a4 : Option Value} {x : Int32} : Wp d 117 3 [a0, a1, some (.int x), a3, a4] (st) w Q = Wp d 117 4 [a0, a1, some (.int x), a3, a4] (.int x :: st) w Q := Wp.loc e117_3 rfl rfl rfl
theorem e117_4 : decode (j_co 117) 4 = .ok (.imul, 1) := by decide +kernel
set_option maxRecDepth 20000 in
theorem w117_4 {d : Nat} {st : List Value} {Q : Option Value × jW → Prop} {ls : jL} {w : jW} {a b : Int32} : Wp d 117 4 ls (.int b :: .int a :: st) w Q = Wp d 117 5 ls (.int (a * b) :: st) w Q := Wp.alu e117_4 rfl rfl
theorem e117_5 : decode (j_co 117) 5 = .ok (.iadd, 1) := by decide +kernel
set_option maxRecDepth 20000 in
theorem w117_5 {d : Nat} {st : List Value} {Q : Option Value × jW → Prop} {ls : jL} {w : jW} {a b : Int32} : Wp d 117 5 ls (.int b :: .int a :: st) w Q = Wp d 117 6 ls (.int (a + b) :: st) w Q := Wp.alu e117_5 rfl rfl
theorem e117_6 : decode (j_co 117) 6 = .ok (.iload_n 3, 1) := by decide +kernel
set_option maxRecDepth 20000 in
theorem w117_6 {d : Nat} {st : List Value} {Q : Option Value × jW → Prop} {w : jW} {a0 a1 a2 a4 : Option Value} {x : Int32} : Wp d 117 6 [a0, a1, a2, some (.int x), a4] (st) w Q = Wp d 117 7 [a0, a1, a2, some (.int x), a4] (.int x :: st) w Q := Wp.loc e117_6 rfl rfl rfl
theorem e117_7 : decode (j_co 117) 7 = .ok (.iastore, 1) := by decide +kernel
set_option maxRecDepth 20000 in
theorem w117_7 {d : Nat} {st : List Value} {Q : Option Value × jW → Prop} {ls : jL} {xs : List Value} {I : fI} {L : fL} {o : Nat} {i x : Int32} (ht : f_tg o = 100) (hi : ¬ (i < 0 ∨ f_ln o ≤ i.toNatClampNeg)) : Wp d 117 7 ls (.int x :: .int i :: .ref o :: st) (f_W xs I L) Q = Wp d 117 8 ls (st) (f_W xs (f_up I o i.toNatClampNeg x) L) Q := Wp.iast e117_7 ht hi
theorem e117_8 : decode (j_co 117) 8 = .ok (.aload_n 0, 1) := by decide +kernel
set_option maxRecDepth 20000 in
theorem w117_8 {d : Nat} {st : List Value} {Q : Option Value × jW → Prop} {w : jW} {a1 a2 a3 a4 : Option Value} {x : Nat} : Wp d 117 8 [some (.ref x), a1, a2, a3, a4] (st) w Q = Wp d 117 9 [some (.ref x), a1, a2, a3, a4] (.ref x :: st) w Q := Wp.loc e117_8 rfl rfl rfl
theorem e117_9 : decode (j_co 117) 9 = .ok (.iload_n 1, 1) := by decide +kernel
set_option maxRecDepth 20000 in
theorem w117_9 {d : Nat} {st : List Value} {Q : Option Value × jW → Prop} {w : jW} {a0 a2 a3 a4 : Option Value} {x : Int32} : Wp d 117 9 [a0, some (.int x), a2, a3, a4] (st) w Q = Wp d 117 10 [a0, some (.int x), a2, a3, a4] (.int x :: st) w Q := Wp.loc e117_9 rfl rfl rfl
theorem e117_10 : decode (j_co 117) 10 = .ok (.iconst 2, 1) := by decide +kernel
set_option maxRecDepth 20000 in
theorem w117_10 {d : Nat} {st : List Value} {Q : Option Value × jW → Prop} {ls : jL} {w : jW} : Wp d 117 10 ls (st) w Q = Wp d 117 11 ls (.int (nI 2) :: st) w Q := Wp.alu e117_10 rfl rfl
theorem e117_11 : decode (j_co 117) 11 = .ok (.iload_n 2, 1) := by decide +kernel
set_option maxRecDepth 20000 in
theorem w117_11 {d : Nat} {st : List Value} {Q : Option Value × jW → Prop} {w : jW} {a0 a1 a3 a4 : Option Value} {x : Int32} : Wp d 117 11 [a0, a1, some (.int x), a3, a4] (st) w Q = Wp d 117 12 [a0, a1, some (.int x), a3, a4] (.int x :: st) w Q := Wp.loc e117_11 rfl rfl rfl
theorem e117_12 : decode (j_co 117) 12 = .ok (.imul, 1) := by decide +kernel
set_option maxRecDepth 20000 in
theorem w117_12 {d : Nat} {st : List Value} {Q : Option Value × jW → Prop} {ls : jL} {w : jW} {a b : Int32} : Wp d 117 12 ls (.int b :: .int a :: st) w Q = Wp d 117 13 ls (.int (a * b) :: st) w Q := Wp.alu e117_12 rfl rfl
theorem e117_13 : decode (j_co 117) 13 = .ok (.iadd, 1) := by decide +kernel
set_option maxRecDepth 20000 in
theorem w117_13 {d : Nat} {st : List Value} {Q : Option Value × jW → Prop} {ls : jL} {w : jW} {a b : Int32} : Wp d 117 13 ls (.int b :: .int a :: st) w Q = Wp d 117 14 ls (.int (a + b) :: st) w Q := Wp.alu e117_13 rfl rfl
theorem e117_14 : decode (j_co 117) 14 = .ok (.iconst 1, 1) := by decide +kernel
set_option maxRecDepth 20000 in
theorem w117_14 {d : Nat} {st : List Value} {Q : Option Value × jW → Prop} {ls : jL} {w : jW} : Wp d 117 14 ls (st) w Q = Wp d 117 15 ls (.int (nI 1) :: st) w Q := Wp.alu e117_14 rfl rfl
theorem e117_15 : decode (j_co 117) 15 = .ok (.iadd, 1) := by decide +kernel
set_option maxRecDepth 20000 in
theorem w117_15 {d : Nat} {st : List Value} {Q : Option Value × jW → Prop} {ls : jL} {w : jW} {a b : Int32} : Wp d 117 15 ls (.int b :: .int a :: st) w Q = Wp d 117 16 ls (.int (a + b) :: st) w Q := Wp.alu e117_15 rfl rfl
theorem e117_16 : decode (j_co 117) 16 = .ok (.iload 4, 2) := by decide +kernel
set_option maxRecDepth 20000 in
theorem w117_16 {d : Nat} {st : List Value} {Q : Option Value × jW → Prop} {w : jW} {a0 a1 a2 a3 : Option Value} {x : Int32} : Wp d 117 16 [a0, a1, a2, a3, some (.int x)] (st) w Q = Wp d 117 18 [a0, a1, a2, a3, some (.int x)] (.int x :: st) w Q := Wp.loc e117_16 rfl rfl rfl
theorem e117_18 : decode (j_co 117) 18 = .ok (.iastore, 1) := by decide +kernel
set_option maxRecDepth 20000 in
theorem w117_18 {d : Nat} {st : List Value} {Q : Option Value × jW → Prop} {ls : jL} {xs : List Value} {I : fI} {L : fL} {o : Nat} {i x : Int32} (ht : f_tg o = 100) (hi : ¬ (i < 0 ∨ f_ln o ≤ i.toNatClampNeg)) : Wp d 117 18 ls (.int x :: .int i :: .ref o :: st) (f_W xs I L) Q = Wp d 117 19 ls (st) (f_W xs (f_up I o i.toNatClampNeg x) L) Q := Wp.iast e117_18 ht hi
theorem e117_19 : decode (j_co 117) 19 = .ok (.iconst 1, 1) := by decide +kernel
set_option maxRecDepth 20000 in
theorem w117_19 {d : Nat} {st : List Value} {Q : Option Value × jW → Prop} {ls : jL} {w : jW} : Wp d 117 19 ls (st) w Q = Wp d 117 20 ls (.int (nI 1) :: st) w Q := Wp.alu e117_19 rfl rfl
theorem e117_20 : decode (j_co 117) 20 = .ok (.ireturn, 1) := by decide +kernel
set_option maxRecDepth 20000 in
theorem w117_20 {d : Nat} {Q : Option Value × jW → Prop} {ls : jL} {w : jW} {x : Int32} : Wp d 117 20 ls [.int x] w Q = Q (some (.int x), w) := Wp.ret e117_20 rfl
/-! M.slope -/
theorem e118_0 : decode (j_co 118) 0 = .ok (.aload_n 0, 1) := by decide +kernel
set_option maxRecDepth 20000 in
theorem w118_0 {d : Nat} {st : List Value} {Q : Option Value × jW → Prop} {w : jW} {a1 a2 a3 a4 : Option Value} {x : Nat} : Wp d 118 0 [some (.ref x), a1, a2, a3, a4] (st) w Q = Wp d 118 1 [some (.ref x), a1, a2, a3, a4] (.ref x :: st) w Q := Wp.loc e118_0 rfl rfl rfl
theorem e118_1 : decode (j_co 118) 1 = .ok (.iload_n 1, 1) := by decide +kernel
set_option maxRecDepth 20000 in
theorem w118_1 {d : Nat} {st : List Value} {Q : Option Value × jW → Prop} {w : jW} {a0 a2 a3 a4 : Option Value} {x : Int32} : Wp d 118 1 [a0, some (.int x), a2, a3, a4] (st) w Q = Wp d 118 2 [a0, some (.int x), a2, a3, a4] (.int x :: st) w Q := Wp.loc e118_1 rfl rfl rfl
theorem e118_2 : decode (j_co 118) 2 = .ok (.invokevirtual 106, 3) := by decide +kernel
set_option maxRecDepth 20000 in
theorem w118_2 {d : Nat} {st : List Value} {Q : Option Value × jW → Prop} {ls : jL} {xs : List Value} {I : fI} {L : fL} {r : Nat} {x0 : Int32} (hs : j_sumc st ≤ 8) (ht : f_tg r = 11) : Wp (d + 1) 118 2 ls (.int x0 :: .ref r :: st) (f_W xs I L) Q = Wp d 114 0 [some (.ref r), some (.int x0)] [] (f_W xs I L) (fun r1 => Wp (d + 1) 118 5 ls (r1.1.toList ++ st) r1.2 Q) := Wp.cv (y' := 114) (as := [.int x0]) e118_2 rfl (by decide) rfl (show 2 ≤ 2 by decide) (by decide) hs ht
theorem e118_5 : decode (j_co 118) 5 = .ok (.ifCond .eq 32, 3) := by decide +kernel
set_option maxRecDepth 20000 in
theorem w118_5 {d : Nat} {st : List Value} {Q : Option Value × jW → Prop} {ls : jL} {w : jW} {a : Int32} : Wp d 118 5 ls (.int a :: st) w Q = ((a = nI 0 → Wp d 118 37 ls st w Q) ∧ (¬ a = nI 0 → Wp d 118 8 ls st w Q)) := Wp.if2 (c := a = nI 0) (off := 32) e118_5 rfl rfl rfl rfl rfl
theorem e118_8 : decode (j_co 118) 8 = .ok (.iload_n 2, 1) := by decide +kernel
set_option maxRecDepth 20000 in
theorem w118_8 {d : Nat} {st : List Value} {Q : Option Value × jW → Prop} {w : jW} {a0 a1 a3 a4 : Option Value} {x : Int32} : Wp d 118 8 [a0, a1, some (.int x), a3, a4] (st) w Q = Wp d 118 9 [a0, a1, some (.int x), a3, a4] (.int x :: st) w Q := Wp.loc e118_8 rfl rfl rfl
theorem e118_9 : decode (j_co 118) 9 = .ok (.iload_n 3, 1) := by decide +kernel
set_option maxRecDepth 20000 in
theorem w118_9 {d : Nat} {st : List Value} {Q : Option Value × jW → Prop} {w : jW} {a0 a1 a2 a4 : Option Value} {x : Int32} : Wp d 118 9 [a0, a1, a2, some (.int x), a4] (st) w Q = Wp d 118 10 [a0, a1, a2, some (.int x), a4] (.int x :: st) w Q := Wp.loc e118_9 rfl rfl rfl
theorem e118_10 : decode (j_co 118) 10 = .ok (.iload 4, 2) := by decide +kernel
set_option maxRecDepth 20000 in
theorem w118_10 {d : Nat} {st : List Value} {Q : Option Value × jW → Prop} {w : jW} {a0 a1 a2 a3 : Option Value} {x : Int32} : Wp d 118 10 [a0, a1, a2, a3, some (.int x)] (st) w Q = Wp d 118 12 [a0, a1, a2, a3, some (.int x)] (.int x :: st) w Q := Wp.loc e118_10 rfl rfl rfl
theorem e118_12 : decode (j_co 118) 12 = .ok (.iconst 5, 1) := by decide +kernel
set_option maxRecDepth 20000 in
theorem w118_12 {d : Nat} {st : List Value} {Q : Option Value × jW → Prop} {ls : jL} {w : jW} : Wp d 118 12 ls (st) w Q = Wp d 118 13 ls (.int (nI 5) :: st) w Q := Wp.alu e118_12 rfl rfl
theorem e118_13 : decode (j_co 118) 13 = .ok (.invokestatic 110, 3) := by decide +kernel
set_option maxRecDepth 20000 in
theorem w118_13 {d : Nat} {st : List Value} {Q : Option Value × jW → Prop} {ls : jL} {w : jW} {x0 : Int32} {x1 : Int32} {x2 : Int32} {x3 : Int32} (hs : j_sumc st ≤ 8) : Wp (d + 1) 118 13 ls (.int x3 :: .int x2 :: .int x1 :: .int x0 :: st) w Q = Wp d 116 0 [some (.int x0), some (.int x1), some (.int x2), some (.int x3)] [] w (fun r1 => Wp (d + 1) 118 16 ls (r1.1.toList ++ st) r1.2 Q) := Wp.cs (kd := 1) (y' := 116) (as := [.int x0, .int x1, .int x2, .int x3]) e118_13 rfl (by decide) (by decide) rfl (show 4 ≤ 4 by decide) hs
theorem e118_16 : decode (j_co 118) 16 = .ok (.ifCond .eq 21, 3) := by decide +kernel
set_option maxRecDepth 20000 in
theorem w118_16 {d : Nat} {st : List Value} {Q : Option Value × jW → Prop} {ls : jL} {w : jW} {a : Int32} : Wp d 118 16 ls (.int a :: st) w Q = ((a = nI 0 → Wp d 118 37 ls st w Q) ∧ (¬ a = nI 0 → Wp d 118 19 ls st w Q)) := Wp.if2 (c := a = nI 0) (off := 21) e118_16 rfl rfl rfl rfl rfl
theorem e118_19 : decode (j_co 118) 19 = .ok (.aload_n 0, 1) := by decide +kernel
set_option maxRecDepth 20000 in
theorem w118_19 {d : Nat} {st : List Value} {Q : Option Value × jW → Prop} {w : jW} {a1 a2 a3 a4 : Option Value} {x : Nat} : Wp d 118 19 [some (.ref x), a1, a2, a3, a4] (st) w Q = Wp d 118 20 [some (.ref x), a1, a2, a3, a4] (.ref x :: st) w Q := Wp.loc e118_19 rfl rfl rfl
theorem e118_20 : decode (j_co 118) 20 = .ok (.getfield 13, 3) := by decide +kernel
set_option maxRecDepth 20000 in
theorem w118_20 {d : Nat} {st : List Value} {Q : Option Value × jW → Prop} {ls : jL} {xs : List Value} {I : fI} {L : fL} {o : Nat} (ht : f_tg o = 11) : Wp d 118 20 ls (.ref o :: st) (f_W xs I L) Q = Wp d 118 23 ls (.ref (f_rf o 2) :: st) (f_W xs I L) Q := Wp.getR (ci := 11) (k := 2) e118_20 rfl (by decide) (by decide) rfl ht
theorem e118_23 : decode (j_co 118) 23 = .ok (.bipush 6, 2) := by decide +kernel
set_option maxRecDepth 20000 in
theorem w118_23 {d : Nat} {st : List Value} {Q : Option Value × jW → Prop} {ls : jL} {w : jW} : Wp d 118 23 ls (st) w Q = Wp d 118 25 ls (.int (nI 6) :: st) w Q := Wp.alu e118_23 rfl rfl
theorem e118_25 : decode (j_co 118) 25 = .ok (.iload_n 1, 1) := by decide +kernel
set_option maxRecDepth 20000 in
theorem w118_25 {d : Nat} {st : List Value} {Q : Option Value × jW → Prop} {w : jW} {a0 a2 a3 a4 : Option Value} {x : Int32} : Wp d 118 25 [a0, some (.int x), a2, a3, a4] (st) w Q = Wp d 118 26 [a0, some (.int x), a2, a3, a4] (.int x :: st) w Q := Wp.loc e118_25 rfl rfl rfl
theorem e118_26 : decode (j_co 118) 26 = .ok (.imul, 1) := by decide +kernel
set_option maxRecDepth 20000 in
theorem w118_26 {d : Nat} {st : List Value} {Q : Option Value × jW → Prop} {ls : jL} {w : jW} {a b : Int32} : Wp d 118 26 ls (.int b :: .int a :: st) w Q = Wp d 118 27 ls (.int (a * b) :: st) w Q := Wp.alu e118_26 rfl rfl
theorem e118_27 : decode (j_co 118) 27 = .ok (.iload_n 2, 1) := by decide +kernel
set_option maxRecDepth 20000 in
theorem w118_27 {d : Nat} {st : List Value} {Q : Option Value × jW → Prop} {w : jW} {a0 a1 a3 a4 : Option Value} {x : Int32} : Wp d 118 27 [a0, a1, some (.int x), a3, a4] (st) w Q = Wp d 118 28 [a0, a1, some (.int x), a3, a4] (.int x :: st) w Q := Wp.loc e118_27 rfl rfl rfl
theorem e118_28 : decode (j_co 118) 28 = .ok (.iload_n 3, 1) := by decide +kernel
set_option maxRecDepth 20000 in
theorem w118_28 {d : Nat} {st : List Value} {Q : Option Value × jW → Prop} {w : jW} {a0 a1 a2 a4 : Option Value} {x : Int32} : Wp d 118 28 [a0, a1, a2, some (.int x), a4] (st) w Q = Wp d 118 29 [a0, a1, a2, some (.int x), a4] (.int x :: st) w Q := Wp.loc e118_28 rfl rfl rfl
theorem e118_29 : decode (j_co 118) 29 = .ok (.iload 4, 2) := by decide +kernel
set_option maxRecDepth 20000 in
theorem w118_29 {d : Nat} {st : List Value} {Q : Option Value × jW → Prop} {w : jW} {a0 a1 a2 a3 : Option Value} {x : Int32} : Wp d 118 29 [a0, a1, a2, a3, some (.int x)] (st) w Q = Wp d 118 31 [a0, a1, a2, a3, some (.int x)] (.int x :: st) w Q := Wp.loc e118_29 rfl rfl rfl
theorem e118_31 : decode (j_co 118) 31 = .ok (.invokestatic 114, 3) := by decide +kernel
set_option maxRecDepth 20000 in
theorem w118_31 {d : Nat} {st : List Value} {Q : Option Value × jW → Prop} {ls : jL} {w : jW} {x0 : Nat} {x1 : Int32} {x2 : Int32} {x3 : Int32} {x4 : Int32} (hs : j_sumc st ≤ 8) : Wp (d + 1) 118 31 ls (.int x4 :: .int x3 :: .int x2 :: .int x1 :: .ref x0 :: st) w Q = Wp d 117 0 [some (.ref x0), some (.int x1), some (.int x2), some (.int x3), some (.int x4)] [] w (fun r1 => Wp (d + 1) 118 34 ls (r1.1.toList ++ st) r1.2 Q) := Wp.cs (kd := 1) (y' := 117) (as := [.ref x0, .int x1, .int x2, .int x3, .int x4]) e118_31 rfl (by decide) (by decide) rfl (show 5 ≤ 5 by decide) hs
theorem e118_34 : decode (j_co 118) 34 = .ok (.goto 4, 3) := by decide +kernel
set_option maxRecDepth 20000 in
theorem w118_34 {d : Nat} {st : List Value} {Q : Option Value × jW → Prop} {ls : jL} {w : jW} : Wp d 118 34 ls (st) w Q = Wp d 118 38 ls (st) w Q := Wp.br e118_34 (Or.inl rfl) rfl rfl rfl rfl
theorem e118_37 : decode (j_co 118) 37 = .ok (.iconst (-1), 1) := by decide +kernel
set_option maxRecDepth 20000 in
theorem w118_37 {d : Nat} {st : List Value} {Q : Option Value × jW → Prop} {ls : jL} {w : jW} : Wp d 118 37 ls (st) w Q = Wp d 118 38 ls (.int (-1) :: st) w Q := Wp.alu e118_37 rfl rfl
theorem e118_38 : decode (j_co 118) 38 = .ok (.ireturn, 1) := by decide +kernel
set_option maxRecDepth 20000 in
theorem w118_38 {d : Nat} {Q : Option Value × jW → Prop} {ls : jL} {w : jW} {x : Int32} : Wp d 118 38 ls [.int x] w Q = Q (some (.int x), w) := Wp.ret e118_38 rfl
/-! M.jump -/
theorem e119_0 : decode (j_co 119) 0 = .ok (.aload_n 0, 1) := by decide +kernel
set_option maxRecDepth 20000 in
theorem w119_0 {d : Nat} {st : List Value} {Q : Option Value × jW → Prop} {w : jW} {a1 a2 a3 : Option Value} {x : Nat} : Wp d 119 0 [some (.ref x), a1, a2, a3] (st) w Q = Wp d 119 1 [some (.ref x), a1, a2, a3] (.ref x :: st) w Q := Wp.loc e119_0 rfl rfl rfl
theorem e119_1 : decode (j_co 119) 1 = .ok (.iload_n 1, 1) := by decide +kernel
set_option maxRecDepth 20000 in
theorem w119_1 {d : Nat} {st : List Value} {Q : Option Value × jW → Prop} {w : jW} {a0 a2 a3 : Option Value} {x : Int32} : Wp d 119 1 [a0, some (.int x), a2, a3] (st) w Q = Wp d 119 2 [a0, some (.int x), a2, a3] (.int x :: st) w Q := Wp.loc e119_1 rfl rfl rfl
theorem e119_2 : decode (j_co 119) 2 = .ok (.invokevirtual 106, 3) := by decide +kernel
set_option maxRecDepth 20000 in
theorem w119_2 {d : Nat} {st : List Value} {Q : Option Value × jW → Prop} {ls : jL} {xs : List Value} {I : fI} {L : fL} {r : Nat} {x0 : Int32} (hs : j_sumc st ≤ 8) (ht : f_tg r = 11) : Wp (d + 1) 119 2 ls (.int x0 :: .ref r :: st) (f_W xs I L) Q = Wp d 114 0 [some (.ref r), some (.int x0)] [] (f_W xs I L) (fun r1 => Wp (d + 1) 119 5 ls (r1.1.toList ++ st) r1.2 Q) := Wp.cv (y' := 114) (as := [.int x0]) e119_2 rfl (by decide) rfl (show 2 ≤ 2 by decide) (by decide) hs ht
theorem e119_5 : decode (j_co 119) 5 = .ok (.ifCond .eq 11, 3) := by decide +kernel
set_option maxRecDepth 20000 in
theorem w119_5 {d : Nat} {st : List Value} {Q : Option Value × jW → Prop} {ls : jL} {w : jW} {a : Int32} : Wp d 119 5 ls (.int a :: st) w Q = ((a = nI 0 → Wp d 119 16 ls st w Q) ∧ (¬ a = nI 0 → Wp d 119 8 ls st w Q)) := Wp.if2 (c := a = nI 0) (off := 11) e119_5 rfl rfl rfl rfl rfl
theorem e119_8 : decode (j_co 119) 8 = .ok (.aload_n 0, 1) := by decide +kernel
set_option maxRecDepth 20000 in
theorem w119_8 {d : Nat} {st : List Value} {Q : Option Value × jW → Prop} {w : jW} {a1 a2 a3 : Option Value} {x : Nat} : Wp d 119 8 [some (.ref x), a1, a2, a3] (st) w Q = Wp d 119 9 [some (.ref x), a1, a2, a3] (.ref x :: st) w Q := Wp.loc e119_8 rfl rfl rfl
theorem e119_9 : decode (j_co 119) 9 = .ok (.iload_n 2, 1) := by decide +kernel
set_option maxRecDepth 20000 in
theorem w119_9 {d : Nat} {st : List Value} {Q : Option Value × jW → Prop} {w : jW} {a0 a1 a3 : Option Value} {x : Int32} : Wp d 119 9 [a0, a1, some (.int x), a3] (st) w Q = Wp d 119 10 [a0, a1, some (.int x), a3] (.int x :: st) w Q := Wp.loc e119_9 rfl rfl rfl
theorem e119_10 : decode (j_co 119) 10 = .ok (.invokevirtual 106, 3) := by decide +kernel
set_option maxRecDepth 20000 in
theorem w119_10 {d : Nat} {st : List Value} {Q : Option Value × jW → Prop} {ls : jL} {xs : List Value} {I : fI} {L : fL} {r : Nat} {x0 : Int32} (hs : j_sumc st ≤ 8) (ht : f_tg r = 11) : Wp (d + 1) 119 10 ls (.int x0 :: .ref r :: st) (f_W xs I L) Q = Wp d 114 0 [some (.ref r), some (.int x0)] [] (f_W xs I L) (fun r1 => Wp (d + 1) 119 13 ls (r1.1.toList ++ st) r1.2 Q) := Wp.cv (y' := 114) (as := [.int x0]) e119_10 rfl (by decide) rfl (show 2 ≤ 2 by decide) (by decide) hs ht
theorem e119_13 : decode (j_co 119) 13 = .ok (.ifCond .ne 5, 3) := by decide +kernel
set_option maxRecDepth 20000 in
theorem w119_13 {d : Nat} {st : List Value} {Q : Option Value × jW → Prop} {ls : jL} {w : jW} {a : Int32} : Wp d 119 13 ls (.int a :: st) w Q = ((a = nI 0 → Wp d 119 16 ls st w Q) ∧ (¬ a = nI 0 → Wp d 119 18 ls st w Q)) := Wp.if2n (c := a = nI 0) (off := 5) e119_13 rfl rfl rfl rfl rfl
theorem e119_16 : decode (j_co 119) 16 = .ok (.iconst (-1), 1) := by decide +kernel
set_option maxRecDepth 20000 in
theorem w119_16 {d : Nat} {st : List Value} {Q : Option Value × jW → Prop} {ls : jL} {w : jW} : Wp d 119 16 ls (st) w Q = Wp d 119 17 ls (.int (-1) :: st) w Q := Wp.alu e119_16 rfl rfl
theorem e119_17 : decode (j_co 119) 17 = .ok (.ireturn, 1) := by decide +kernel
set_option maxRecDepth 20000 in
theorem w119_17 {d : Nat} {Q : Option Value × jW → Prop} {ls : jL} {w : jW} {x : Int32} : Wp d 119 17 ls [.int x] w Q = Q (some (.int x), w) := Wp.ret e119_17 rfl
theorem e119_18 : decode (j_co 119) 18 = .ok (.aload_n 0, 1) := by decide +kernel
set_option maxRecDepth 20000 in
theorem w119_18 {d : Nat} {st : List Value} {Q : Option Value × jW → Prop} {w : jW} {a1 a2 a3 : Option Value} {x : Nat} : Wp d 119 18 [some (.ref x), a1, a2, a3] (st) w Q = Wp d 119 19 [some (.ref x), a1, a2, a3] (.ref x :: st) w Q := Wp.loc e119_18 rfl rfl rfl
theorem e119_19 : decode (j_co 119) 19 = .ok (.getfield 97, 3) := by decide +kernel
set_option maxRecDepth 20000 in
theorem w119_19 {d : Nat} {st : List Value} {Q : Option Value × jW → Prop} {ls : jL} {xs : List Value} {I : fI} {L : fL} {o : Nat} (ht : f_tg o = 11) : Wp d 119 19 ls (.ref o :: st) (f_W xs I L) Q = Wp d 119 22 ls (.int (I o 3) :: st) (f_W xs I L) Q := Wp.getI (ci := 11) (k := 3) e119_19 rfl (by decide) (by decide) (by decide) ht
theorem e119_22 : decode (j_co 119) 22 = .ok (.bipush 12, 2) := by decide +kernel
set_option maxRecDepth 20000 in
theorem w119_22 {d : Nat} {st : List Value} {Q : Option Value × jW → Prop} {ls : jL} {w : jW} : Wp d 119 22 ls (st) w Q = Wp d 119 24 ls (.int (nI 12) :: st) w Q := Wp.alu e119_22 rfl rfl
theorem e119_24 : decode (j_co 119) 24 = .ok (.if_icmp .ne 6, 3) := by decide +kernel
set_option maxRecDepth 20000 in
theorem w119_24 {d : Nat} {st : List Value} {Q : Option Value × jW → Prop} {ls : jL} {w : jW} {a b : Int32} : Wp d 119 24 ls (.int b :: .int a :: st) w Q = ((a = b → Wp d 119 27 ls st w Q) ∧ (¬ a = b → Wp d 119 30 ls st w Q)) := Wp.if2n (c := a = b) (off := 6) e119_24 rfl rfl rfl rfl rfl
theorem e119_27 : decode (j_co 119) 27 = .ok (.bipush (-3), 2) := by decide +kernel
set_option maxRecDepth 20000 in
theorem w119_27 {d : Nat} {st : List Value} {Q : Option Value × jW → Prop} {ls : jL} {w : jW} : Wp d 119 27 ls (st) w Q = Wp d 119 29 ls (.int (-3) :: st) w Q := Wp.alu e119_27 rfl rfl
theorem e119_29 : decode (j_co 119) 29 = .ok (.ireturn, 1) := by decide +kernel
set_option maxRecDepth 20000 in
theorem w119_29 {d : Nat} {Q : Option Value × jW → Prop} {ls : jL} {w : jW} {x : Int32} : Wp d 119 29 ls [.int x] w Q = Q (some (.int x), w) := Wp.ret e119_29 rfl
theorem e119_30 : decode (j_co 119) 30 = .ok (.aload_n 0, 1) := by decide +kernel
set_option maxRecDepth 20000 in
theorem w119_30 {d : Nat} {st : List Value} {Q : Option Value × jW → Prop} {w : jW} {a1 a2 a3 : Option Value} {x : Nat} : Wp d 119 30 [some (.ref x), a1, a2, a3] (st) w Q = Wp d 119 31 [some (.ref x), a1, a2, a3] (.ref x :: st) w Q := Wp.loc e119_30 rfl rfl rfl
theorem e119_31 : decode (j_co 119) 31 = .ok (.getfield 16, 3) := by decide +kernel
set_option maxRecDepth 20000 in
theorem w119_31 {d : Nat} {st : List Value} {Q : Option Value × jW → Prop} {ls : jL} {xs : List Value} {I : fI} {L : fL} {o : Nat} (ht : f_tg o = 11) : Wp d 119 31 ls (.ref o :: st) (f_W xs I L) Q = Wp d 119 34 ls (.ref (f_rf o 4) :: st) (f_W xs I L) Q := Wp.getR (ci := 11) (k := 4) e119_31 rfl (by decide) (by decide) rfl ht
theorem e119_34 : decode (j_co 119) 34 = .ok (.aload_n 0, 1) := by decide +kernel
set_option maxRecDepth 20000 in
theorem w119_34 {d : Nat} {st : List Value} {Q : Option Value × jW → Prop} {w : jW} {a1 a2 a3 : Option Value} {x : Nat} : Wp d 119 34 [some (.ref x), a1, a2, a3] (st) w Q = Wp d 119 35 [some (.ref x), a1, a2, a3] (.ref x :: st) w Q := Wp.loc e119_34 rfl rfl rfl
theorem e119_35 : decode (j_co 119) 35 = .ok (.getfield 97, 3) := by decide +kernel
set_option maxRecDepth 20000 in
theorem w119_35 {d : Nat} {st : List Value} {Q : Option Value × jW → Prop} {ls : jL} {xs : List Value} {I : fI} {L : fL} {o : Nat} (ht : f_tg o = 11) : Wp d 119 35 ls (.ref o :: st) (f_W xs I L) Q = Wp d 119 38 ls (.int (I o 3) :: st) (f_W xs I L) Q := Wp.getI (ci := 11) (k := 3) e119_35 rfl (by decide) (by decide) (by decide) ht
theorem e119_38 : decode (j_co 119) 38 = .ok (.iload_n 1, 1) := by decide +kernel
set_option maxRecDepth 20000 in
theorem w119_38 {d : Nat} {st : List Value} {Q : Option Value × jW → Prop} {w : jW} {a0 a2 a3 : Option Value} {x : Int32} : Wp d 119 38 [a0, some (.int x), a2, a3] (st) w Q = Wp d 119 39 [a0, some (.int x), a2, a3] (.int x :: st) w Q := Wp.loc e119_38 rfl rfl rfl
theorem e119_39 : decode (j_co 119) 39 = .ok (.iastore, 1) := by decide +kernel
set_option maxRecDepth 20000 in
theorem w119_39 {d : Nat} {st : List Value} {Q : Option Value × jW → Prop} {ls : jL} {xs : List Value} {I : fI} {L : fL} {o : Nat} {i x : Int32} (ht : f_tg o = 100) (hi : ¬ (i < 0 ∨ f_ln o ≤ i.toNatClampNeg)) : Wp d 119 39 ls (.int x :: .int i :: .ref o :: st) (f_W xs I L) Q = Wp d 119 40 ls (st) (f_W xs (f_up I o i.toNatClampNeg x) L) Q := Wp.iast e119_39 ht hi
theorem e119_40 : decode (j_co 119) 40 = .ok (.aload_n 0, 1) := by decide +kernel
set_option maxRecDepth 20000 in
theorem w119_40 {d : Nat} {st : List Value} {Q : Option Value × jW → Prop} {w : jW} {a1 a2 a3 : Option Value} {x : Nat} : Wp d 119 40 [some (.ref x), a1, a2, a3] (st) w Q = Wp d 119 41 [some (.ref x), a1, a2, a3] (.ref x :: st) w Q := Wp.loc e119_40 rfl rfl rfl
theorem e119_41 : decode (j_co 119) 41 = .ok (.getfield 19, 3) := by decide +kernel
set_option maxRecDepth 20000 in
theorem w119_41 {d : Nat} {st : List Value} {Q : Option Value × jW → Prop} {ls : jL} {xs : List Value} {I : fI} {L : fL} {o : Nat} (ht : f_tg o = 11) : Wp d 119 41 ls (.ref o :: st) (f_W xs I L) Q = Wp d 119 44 ls (.ref (f_rf o 5) :: st) (f_W xs I L) Q := Wp.getR (ci := 11) (k := 5) e119_41 rfl (by decide) (by decide) rfl ht
theorem e119_44 : decode (j_co 119) 44 = .ok (.aload_n 0, 1) := by decide +kernel
set_option maxRecDepth 20000 in
theorem w119_44 {d : Nat} {st : List Value} {Q : Option Value × jW → Prop} {w : jW} {a1 a2 a3 : Option Value} {x : Nat} : Wp d 119 44 [some (.ref x), a1, a2, a3] (st) w Q = Wp d 119 45 [some (.ref x), a1, a2, a3] (.ref x :: st) w Q := Wp.loc e119_44 rfl rfl rfl
theorem e119_45 : decode (j_co 119) 45 = .ok (.getfield 97, 3) := by decide +kernel
set_option maxRecDepth 20000 in
theorem w119_45 {d : Nat} {st : List Value} {Q : Option Value × jW → Prop} {ls : jL} {xs : List Value} {I : fI} {L : fL} {o : Nat} (ht : f_tg o = 11) : Wp d 119 45 ls (.ref o :: st) (f_W xs I L) Q = Wp d 119 48 ls (.int (I o 3) :: st) (f_W xs I L) Q := Wp.getI (ci := 11) (k := 3) e119_45 rfl (by decide) (by decide) (by decide) ht
theorem e119_48 : decode (j_co 119) 48 = .ok (.iload_n 2, 1) := by decide +kernel
set_option maxRecDepth 20000 in
theorem w119_48 {d : Nat} {st : List Value} {Q : Option Value × jW → Prop} {w : jW} {a0 a1 a3 : Option Value} {x : Int32} : Wp d 119 48 [a0, a1, some (.int x), a3] (st) w Q = Wp d 119 49 [a0, a1, some (.int x), a3] (.int x :: st) w Q := Wp.loc e119_48 rfl rfl rfl
theorem e119_49 : decode (j_co 119) 49 = .ok (.iastore, 1) := by decide +kernel
set_option maxRecDepth 20000 in
theorem w119_49 {d : Nat} {st : List Value} {Q : Option Value × jW → Prop} {ls : jL} {xs : List Value} {I : fI} {L : fL} {o : Nat} {i x : Int32} (ht : f_tg o = 100) (hi : ¬ (i < 0 ∨ f_ln o ≤ i.toNatClampNeg)) : Wp d 119 49 ls (.int x :: .int i :: .ref o :: st) (f_W xs I L) Q = Wp d 119 50 ls (st) (f_W xs (f_up I o i.toNatClampNeg x) L) Q := Wp.iast e119_49 ht hi
theorem e119_50 : decode (j_co 119) 50 = .ok (.aload_n 0, 1) := by decide +kernel
set_option maxRecDepth 20000 in
theorem w119_50 {d : Nat} {st : List Value} {Q : Option Value × jW → Prop} {w : jW} {a1 a2 a3 : Option Value} {x : Nat} : Wp d 119 50 [some (.ref x), a1, a2, a3] (st) w Q = Wp d 119 51 [some (.ref x), a1, a2, a3] (.ref x :: st) w Q := Wp.loc e119_50 rfl rfl rfl
theorem e119_51 : decode (j_co 119) 51 = .ok (.getfield 22, 3) := by decide +kernel
set_option maxRecDepth 20000 in
theorem w119_51 {d : Nat} {st : List Value} {Q : Option Value × jW → Prop} {ls : jL} {xs : List Value} {I : fI} {L : fL} {o : Nat} (ht : f_tg o = 11) : Wp d 119 51 ls (.ref o :: st) (f_W xs I L) Q = Wp d 119 54 ls (.ref (f_rf o 6) :: st) (f_W xs I L) Q := Wp.getR (ci := 11) (k := 6) e119_51 rfl (by decide) (by decide) rfl ht
theorem e119_54 : decode (j_co 119) 54 = .ok (.bipush 6, 2) := by decide +kernel
set_option maxRecDepth 20000 in
theorem w119_54 {d : Nat} {st : List Value} {Q : Option Value × jW → Prop} {ls : jL} {w : jW} : Wp d 119 54 ls (st) w Q = Wp d 119 56 ls (.int (nI 6) :: st) w Q := Wp.alu e119_54 rfl rfl
theorem e119_56 : decode (j_co 119) 56 = .ok (.aload_n 0, 1) := by decide +kernel
set_option maxRecDepth 20000 in
theorem w119_56 {d : Nat} {st : List Value} {Q : Option Value × jW → Prop} {w : jW} {a1 a2 a3 : Option Value} {x : Nat} : Wp d 119 56 [some (.ref x), a1, a2, a3] (st) w Q = Wp d 119 57 [some (.ref x), a1, a2, a3] (.ref x :: st) w Q := Wp.loc e119_56 rfl rfl rfl
theorem e119_57 : decode (j_co 119) 57 = .ok (.getfield 97, 3) := by decide +kernel
set_option maxRecDepth 20000 in
theorem w119_57 {d : Nat} {st : List Value} {Q : Option Value × jW → Prop} {ls : jL} {xs : List Value} {I : fI} {L : fL} {o : Nat} (ht : f_tg o = 11) : Wp d 119 57 ls (.ref o :: st) (f_W xs I L) Q = Wp d 119 60 ls (.int (I o 3) :: st) (f_W xs I L) Q := Wp.getI (ci := 11) (k := 3) e119_57 rfl (by decide) (by decide) (by decide) ht
theorem e119_60 : decode (j_co 119) 60 = .ok (.imul, 1) := by decide +kernel
set_option maxRecDepth 20000 in
theorem w119_60 {d : Nat} {st : List Value} {Q : Option Value × jW → Prop} {ls : jL} {w : jW} {a b : Int32} : Wp d 119 60 ls (.int b :: .int a :: st) w Q = Wp d 119 61 ls (.int (a * b) :: st) w Q := Wp.alu e119_60 rfl rfl
theorem e119_61 : decode (j_co 119) 61 = .ok (.invokestatic 102, 3) := by decide +kernel
set_option maxRecDepth 20000 in
theorem w119_61 {d : Nat} {st : List Value} {Q : Option Value × jW → Prop} {ls : jL} {w : jW} {x0 : Nat} {x1 : Int32} (hs : j_sumc st ≤ 8) : Wp (d + 1) 119 61 ls (.int x1 :: .ref x0 :: st) w Q = Wp d 112 0 [some (.ref x0), some (.int x1), none] [] w (fun r1 => Wp (d + 1) 119 64 ls (r1.1.toList ++ st) r1.2 Q) := Wp.cs (kd := 1) (y' := 112) (as := [.ref x0, .int x1]) e119_61 rfl (by decide) (by decide) rfl (show 2 ≤ 3 by decide) hs
theorem e119_64 : decode (j_co 119) 64 = .ok (.iconst 0, 1) := by decide +kernel
set_option maxRecDepth 20000 in
theorem w119_64 {d : Nat} {st : List Value} {Q : Option Value × jW → Prop} {ls : jL} {w : jW} : Wp d 119 64 ls (st) w Q = Wp d 119 65 ls (.int (nI 0) :: st) w Q := Wp.alu e119_64 rfl rfl
theorem e119_65 : decode (j_co 119) 65 = .ok (.istore_n 3, 1) := by decide +kernel
set_option maxRecDepth 20000 in
theorem w119_65 {d : Nat} {st : List Value} {Q : Option Value × jW → Prop} {w : jW} {a0 a1 a2 a3 : Option Value} {x : Int32} (h : j_cp a2) : Wp d 119 65 [a0, a1, a2, a3] (.int x :: st) w Q = Wp d 119 66 [a0, a1, a2, some (.int x)] (st) w Q := Wp.loc e119_65 rfl rfl (v_stI (ls := [a0, a1, a2, a3]) (k := 3) (show 3 < 4 by decide) h)
theorem e119_66 : decode (j_co 119) 66 = .ok (.iload_n 3, 1) := by decide +kernel
set_option maxRecDepth 20000 in
theorem w119_66 {d : Nat} {st : List Value} {Q : Option Value × jW → Prop} {w : jW} {a0 a1 a2 : Option Value} {x : Int32} : Wp d 119 66 [a0, a1, a2, some (.int x)] (st) w Q = Wp d 119 67 [a0, a1, a2, some (.int x)] (.int x :: st) w Q := Wp.loc e119_66 rfl rfl rfl
theorem e119_67 : decode (j_co 119) 67 = .ok (.iconst 3, 1) := by decide +kernel
set_option maxRecDepth 20000 in
theorem w119_67 {d : Nat} {st : List Value} {Q : Option Value × jW → Prop} {ls : jL} {w : jW} : Wp d 119 67 ls (st) w Q = Wp d 119 68 ls (.int (nI 3) :: st) w Q := Wp.alu e119_67 rfl rfl
theorem e119_68 : decode (j_co 119) 68 = .ok (.if_icmp .ge 23, 3) := by decide +kernel
set_option maxRecDepth 20000 in
theorem w119_68 {d : Nat} {st : List Value} {Q : Option Value × jW → Prop} {ls : jL} {w : jW} {a b : Int32} : Wp d 119 68 ls (.int b :: .int a :: st) w Q = ((b ≤ a → Wp d 119 91 ls st w Q) ∧ (¬ b ≤ a → Wp d 119 71 ls st w Q)) := Wp.if2 (c := b ≤ a) (off := 23) e119_68 rfl rfl rfl rfl rfl
theorem e119_71 : decode (j_co 119) 71 = .ok (.aload_n 0, 1) := by decide +kernel
set_option maxRecDepth 20000 in
theorem w119_71 {d : Nat} {st : List Value} {Q : Option Value × jW → Prop} {w : jW} {a1 a2 a3 : Option Value} {x : Nat} : Wp d 119 71 [some (.ref x), a1, a2, a3] (st) w Q = Wp d 119 72 [some (.ref x), a1, a2, a3] (.ref x :: st) w Q := Wp.loc e119_71 rfl rfl rfl
theorem e119_72 : decode (j_co 119) 72 = .ok (.getfield 28, 3) := by decide +kernel
set_option maxRecDepth 20000 in
theorem w119_72 {d : Nat} {st : List Value} {Q : Option Value × jW → Prop} {ls : jL} {xs : List Value} {I : fI} {L : fL} {o : Nat} (ht : f_tg o = 11) : Wp d 119 72 ls (.ref o :: st) (f_W xs I L) Q = Wp d 119 75 ls (.ref (f_rf o 8) :: st) (f_W xs I L) Q := Wp.getR (ci := 11) (k := 8) e119_72 rfl (by decide) (by decide) rfl ht
theorem e119_75 : decode (j_co 119) 75 = .ok (.iconst 3, 1) := by decide +kernel
set_option maxRecDepth 20000 in
theorem w119_75 {d : Nat} {st : List Value} {Q : Option Value × jW → Prop} {ls : jL} {w : jW} : Wp d 119 75 ls (st) w Q = Wp d 119 76 ls (.int (nI 3) :: st) w Q := Wp.alu e119_75 rfl rfl
theorem e119_76 : decode (j_co 119) 76 = .ok (.aload_n 0, 1) := by decide +kernel
set_option maxRecDepth 20000 in
theorem w119_76 {d : Nat} {st : List Value} {Q : Option Value × jW → Prop} {w : jW} {a1 a2 a3 : Option Value} {x : Nat} : Wp d 119 76 [some (.ref x), a1, a2, a3] (st) w Q = Wp d 119 77 [some (.ref x), a1, a2, a3] (.ref x :: st) w Q := Wp.loc e119_76 rfl rfl rfl
theorem e119_77 : decode (j_co 119) 77 = .ok (.getfield 97, 3) := by decide +kernel
set_option maxRecDepth 20000 in
theorem w119_77 {d : Nat} {st : List Value} {Q : Option Value × jW → Prop} {ls : jL} {xs : List Value} {I : fI} {L : fL} {o : Nat} (ht : f_tg o = 11) : Wp d 119 77 ls (.ref o :: st) (f_W xs I L) Q = Wp d 119 80 ls (.int (I o 3) :: st) (f_W xs I L) Q := Wp.getI (ci := 11) (k := 3) e119_77 rfl (by decide) (by decide) (by decide) ht
theorem e119_80 : decode (j_co 119) 80 = .ok (.imul, 1) := by decide +kernel
set_option maxRecDepth 20000 in
theorem w119_80 {d : Nat} {st : List Value} {Q : Option Value × jW → Prop} {ls : jL} {w : jW} {a b : Int32} : Wp d 119 80 ls (.int b :: .int a :: st) w Q = Wp d 119 81 ls (.int (a * b) :: st) w Q := Wp.alu e119_80 rfl rfl
theorem e119_81 : decode (j_co 119) 81 = .ok (.iload_n 3, 1) := by decide +kernel
set_option maxRecDepth 20000 in
theorem w119_81 {d : Nat} {st : List Value} {Q : Option Value × jW → Prop} {w : jW} {a0 a1 a2 : Option Value} {x : Int32} : Wp d 119 81 [a0, a1, a2, some (.int x)] (st) w Q = Wp d 119 82 [a0, a1, a2, some (.int x)] (.int x :: st) w Q := Wp.loc e119_81 rfl rfl rfl
theorem e119_82 : decode (j_co 119) 82 = .ok (.iadd, 1) := by decide +kernel
set_option maxRecDepth 20000 in
theorem w119_82 {d : Nat} {st : List Value} {Q : Option Value × jW → Prop} {ls : jL} {w : jW} {a b : Int32} : Wp d 119 82 ls (.int b :: .int a :: st) w Q = Wp d 119 83 ls (.int (a + b) :: st) w Q := Wp.alu e119_82 rfl rfl
theorem e119_83 : decode (j_co 119) 83 = .ok (.iconst 0, 1) := by decide +kernel
set_option maxRecDepth 20000 in
theorem w119_83 {d : Nat} {st : List Value} {Q : Option Value × jW → Prop} {ls : jL} {w : jW} : Wp d 119 83 ls (st) w Q = Wp d 119 84 ls (.int (nI 0) :: st) w Q := Wp.alu e119_83 rfl rfl
theorem e119_84 : decode (j_co 119) 84 = .ok (.bastore, 1) := by decide +kernel
set_option maxRecDepth 20000 in
theorem w119_84 {d : Nat} {st : List Value} {Q : Option Value × jW → Prop} {ls : jL} {xs : List Value} {I : fI} {L : fL} {o : Nat} {i x : Int32} (ht : f_tg o = 101) (hi : ¬ (i < 0 ∨ f_ln o ≤ i.toNatClampNeg)) (hx : x = 0 ∨ x = 1) : Wp d 119 84 ls (.int x :: .int i :: .ref o :: st) (f_W xs I L) Q = Wp d 119 85 ls (st) (f_W xs (f_up I o i.toNatClampNeg x) L) Q := Wp.zast e119_84 ht hi hx
theorem e119_85 : decode (j_co 119) 85 = .ok (.iinc 3 1, 3) := by decide +kernel
set_option maxRecDepth 20000 in
theorem w119_85 {d : Nat} {st : List Value} {Q : Option Value × jW → Prop} {w : jW} {a0 a1 a2 : Option Value} {x : Int32} (h : j_cp a2) : Wp d 119 85 [a0, a1, a2, some (.int x)] (st) w Q = Wp d 119 88 [a0, a1, a2, some (.int (x + nI 1))] (st) w Q := Wp.loc e119_85 rfl rfl (v_inc (ls := [a0, a1, a2, some (.int x)]) (k := 3) (n := 1) rfl (show 3 < 4 by decide) h)
theorem e119_88 : decode (j_co 119) 88 = .ok (.goto (-22), 3) := by decide +kernel
set_option maxRecDepth 20000 in
theorem w119_88 {d : Nat} {st : List Value} {Q : Option Value × jW → Prop} {ls : jL} {w : jW} : Wp d 119 88 ls (st) w Q = Wp d 119 66 ls (st) w Q := Wp.br e119_88 (Or.inl rfl) rfl rfl rfl rfl
theorem e119_91 : decode (j_co 119) 91 = .ok (.aload_n 0, 1) := by decide +kernel
set_option maxRecDepth 20000 in
theorem w119_91 {d : Nat} {st : List Value} {Q : Option Value × jW → Prop} {w : jW} {a1 a2 a3 : Option Value} {x : Nat} : Wp d 119 91 [some (.ref x), a1, a2, a3] (st) w Q = Wp d 119 92 [some (.ref x), a1, a2, a3] (.ref x :: st) w Q := Wp.loc e119_91 rfl rfl rfl
theorem e119_92 : decode (j_co 119) 92 = .ok (.dup, 1) := by decide +kernel
set_option maxRecDepth 20000 in
theorem w119_92 {d : Nat} {st : List Value} {Q : Option Value × jW → Prop} {ls : jL} {w : jW} {a : Int32} : Wp d 119 92 ls (.int a :: st) w Q = Wp d 119 93 ls (.int a :: .int a :: st) w Q := Wp.alu e119_92 rfl rfl
set_option maxRecDepth 20000 in
theorem w119_92r {d : Nat} {st : List Value} {Q : Option Value × jW → Prop} {ls : jL} {w : jW} {a : Nat} : Wp d 119 92 ls (.ref a :: st) w Q = Wp d 119 93 ls (.ref a :: .ref a :: st) w Q := Wp.alu e119_92 rfl rfl
theorem e119_93 : decode (j_co 119) 93 = .ok (.getfield 97, 3) := by decide +kernel
set_option maxRecDepth 20000 in
theorem w119_93 {d : Nat} {st : List Value} {Q : Option Value × jW → Prop} {ls : jL} {xs : List Value} {I : fI} {L : fL} {o : Nat} (ht : f_tg o = 11) : Wp d 119 93 ls (.ref o :: st) (f_W xs I L) Q = Wp d 119 96 ls (.int (I o 3) :: st) (f_W xs I L) Q := Wp.getI (ci := 11) (k := 3) e119_93 rfl (by decide) (by decide) (by decide) ht
theorem e119_96 : decode (j_co 119) 96 = .ok (.iconst 1, 1) := by decide +kernel
set_option maxRecDepth 20000 in
theorem w119_96 {d : Nat} {st : List Value} {Q : Option Value × jW → Prop} {ls : jL} {w : jW} : Wp d 119 96 ls (st) w Q = Wp d 119 97 ls (.int (nI 1) :: st) w Q := Wp.alu e119_96 rfl rfl
theorem e119_97 : decode (j_co 119) 97 = .ok (.iadd, 1) := by decide +kernel
set_option maxRecDepth 20000 in
theorem w119_97 {d : Nat} {st : List Value} {Q : Option Value × jW → Prop} {ls : jL} {w : jW} {a b : Int32} : Wp d 119 97 ls (.int b :: .int a :: st) w Q = Wp d 119 98 ls (.int (a + b) :: st) w Q := Wp.alu e119_97 rfl rfl
theorem e119_98 : decode (j_co 119) 98 = .ok (.putfield 97, 3) := by decide +kernel
set_option maxRecDepth 20000 in
theorem w119_98 {d : Nat} {st : List Value} {Q : Option Value × jW → Prop} {ls : jL} {xs : List Value} {I : fI} {L : fL} {o : Nat} {x : Int32} (ht : f_tg o = 11) : Wp d 119 98 ls (.int x :: .ref o :: st) (f_W xs I L) Q = Wp d 119 101 ls (st) (f_W xs (f_up I o 3 x) L) Q := Wp.putI (ci := 11) (k := 3) e119_98 rfl (by decide) (by decide) rfl (by decide) ht
theorem e119_101 : decode (j_co 119) 101 = .ok (.aload_n 0, 1) := by decide +kernel
set_option maxRecDepth 20000 in
theorem w119_101 {d : Nat} {st : List Value} {Q : Option Value × jW → Prop} {w : jW} {a1 a2 a3 : Option Value} {x : Nat} : Wp d 119 101 [some (.ref x), a1, a2, a3] (st) w Q = Wp d 119 102 [some (.ref x), a1, a2, a3] (.ref x :: st) w Q := Wp.loc e119_101 rfl rfl rfl
theorem e119_102 : decode (j_co 119) 102 = .ok (.getfield 97, 3) := by decide +kernel
set_option maxRecDepth 20000 in
theorem w119_102 {d : Nat} {st : List Value} {Q : Option Value × jW → Prop} {ls : jL} {xs : List Value} {I : fI} {L : fL} {o : Nat} (ht : f_tg o = 11) : Wp d 119 102 ls (.ref o :: st) (f_W xs I L) Q = Wp d 119 105 ls (.int (I o 3) :: st) (f_W xs I L) Q := Wp.getI (ci := 11) (k := 3) e119_102 rfl (by decide) (by decide) (by decide) ht
theorem e119_105 : decode (j_co 119) 105 = .ok (.iconst 1, 1) := by decide +kernel
set_option maxRecDepth 20000 in
theorem w119_105 {d : Nat} {st : List Value} {Q : Option Value × jW → Prop} {ls : jL} {w : jW} : Wp d 119 105 ls (st) w Q = Wp d 119 106 ls (.int (nI 1) :: st) w Q := Wp.alu e119_105 rfl rfl
theorem e119_106 : decode (j_co 119) 106 = .ok (.isub, 1) := by decide +kernel
set_option maxRecDepth 20000 in
theorem w119_106 {d : Nat} {st : List Value} {Q : Option Value × jW → Prop} {ls : jL} {w : jW} {a b : Int32} : Wp d 119 106 ls (.int b :: .int a :: st) w Q = Wp d 119 107 ls (.int (a - b) :: st) w Q := Wp.alu e119_106 rfl rfl
theorem e119_107 : decode (j_co 119) 107 = .ok (.ireturn, 1) := by decide +kernel
set_option maxRecDepth 20000 in
theorem w119_107 {d : Nat} {Q : Option Value × jW → Prop} {ls : jL} {w : jW} {x : Int32} : Wp d 119 107 ls [.int x] w Q = Q (some (.int x), w) := Wp.ret e119_107 rfl
/-! M.guard -/
theorem e120_0 : decode (j_co 120) 0 = .ok (.aload_n 0, 1) := by decide +kernel
set_option maxRecDepth 20000 in
theorem w120_0 {d : Nat} {st : List Value} {Q : Option Value × jW → Prop} {w : jW} {a1 a2 a3 a4 : Option Value} {x : Nat} : Wp d 120 0 [some (.ref x), a1, a2, a3, a4] (st) w Q = Wp d 120 1 [some (.ref x), a1, a2, a3, a4] (.ref x :: st) w Q := Wp.loc e120_0 rfl rfl rfl
theorem e120_1 : decode (j_co 120) 1 = .ok (.iload_n 1, 1) := by decide +kernel
set_option maxRecDepth 20000 in
theorem w120_1 {d : Nat} {st : List Value} {Q : Option Value × jW → Prop} {w : jW} {a0 a2 a3 a4 : Option Value} {x : Int32} : Wp d 120 1 [a0, some (.int x), a2, a3, a4] (st) w Q = Wp d 120 2 [a0, some (.int x), a2, a3, a4] (.int x :: st) w Q := Wp.loc e120_1 rfl rfl rfl
theorem e120_2 : decode (j_co 120) 2 = .ok (.invokevirtual 118, 3) := by decide +kernel
set_option maxRecDepth 20000 in
theorem w120_2 {d : Nat} {st : List Value} {Q : Option Value × jW → Prop} {ls : jL} {xs : List Value} {I : fI} {L : fL} {r : Nat} {x0 : Int32} (hs : j_sumc st ≤ 8) (ht : f_tg r = 11) : Wp (d + 1) 120 2 ls (.int x0 :: .ref r :: st) (f_W xs I L) Q = Wp d 121 0 [some (.ref r), some (.int x0)] [] (f_W xs I L) (fun r1 => Wp (d + 1) 120 5 ls (r1.1.toList ++ st) r1.2 Q) := Wp.cv (y' := 121) (as := [.int x0]) e120_2 rfl (by decide) rfl (show 2 ≤ 2 by decide) (by decide) hs ht
theorem e120_5 : decode (j_co 120) 5 = .ok (.ifCond .eq 33, 3) := by decide +kernel
set_option maxRecDepth 20000 in
theorem w120_5 {d : Nat} {st : List Value} {Q : Option Value × jW → Prop} {ls : jL} {w : jW} {a : Int32} : Wp d 120 5 ls (.int a :: st) w Q = ((a = nI 0 → Wp d 120 38 ls st w Q) ∧ (¬ a = nI 0 → Wp d 120 8 ls st w Q)) := Wp.if2 (c := a = nI 0) (off := 33) e120_5 rfl rfl rfl rfl rfl
theorem e120_8 : decode (j_co 120) 8 = .ok (.iload_n 2, 1) := by decide +kernel
set_option maxRecDepth 20000 in
theorem w120_8 {d : Nat} {st : List Value} {Q : Option Value × jW → Prop} {w : jW} {a0 a1 a3 a4 : Option Value} {x : Int32} : Wp d 120 8 [a0, a1, some (.int x), a3, a4] (st) w Q = Wp d 120 9 [a0, a1, some (.int x), a3, a4] (.int x :: st) w Q := Wp.loc e120_8 rfl rfl rfl
theorem e120_9 : decode (j_co 120) 9 = .ok (.iload_n 3, 1) := by decide +kernel
set_option maxRecDepth 20000 in
theorem w120_9 {d : Nat} {st : List Value} {Q : Option Value × jW → Prop} {w : jW} {a0 a1 a2 a4 : Option Value} {x : Int32} : Wp d 120 9 [a0, a1, a2, some (.int x), a4] (st) w Q = Wp d 120 10 [a0, a1, a2, some (.int x), a4] (.int x :: st) w Q := Wp.loc e120_9 rfl rfl rfl
theorem e120_10 : decode (j_co 120) 10 = .ok (.iload 4, 2) := by decide +kernel
set_option maxRecDepth 20000 in
theorem w120_10 {d : Nat} {st : List Value} {Q : Option Value × jW → Prop} {w : jW} {a0 a1 a2 a3 : Option Value} {x : Int32} : Wp d 120 10 [a0, a1, a2, a3, some (.int x)] (st) w Q = Wp d 120 12 [a0, a1, a2, a3, some (.int x)] (.int x :: st) w Q := Wp.loc e120_10 rfl rfl rfl
theorem e120_12 : decode (j_co 120) 12 = .ok (.bipush 20, 2) := by decide +kernel
set_option maxRecDepth 20000 in
theorem w120_12 {d : Nat} {st : List Value} {Q : Option Value × jW → Prop} {ls : jL} {w : jW} : Wp d 120 12 ls (st) w Q = Wp d 120 14 ls (.int (nI 20) :: st) w Q := Wp.alu e120_12 rfl rfl
theorem e120_14 : decode (j_co 120) 14 = .ok (.invokestatic 110, 3) := by decide +kernel
set_option maxRecDepth 20000 in
theorem w120_14 {d : Nat} {st : List Value} {Q : Option Value × jW → Prop} {ls : jL} {w : jW} {x0 : Int32} {x1 : Int32} {x2 : Int32} {x3 : Int32} (hs : j_sumc st ≤ 8) : Wp (d + 1) 120 14 ls (.int x3 :: .int x2 :: .int x1 :: .int x0 :: st) w Q = Wp d 116 0 [some (.int x0), some (.int x1), some (.int x2), some (.int x3)] [] w (fun r1 => Wp (d + 1) 120 17 ls (r1.1.toList ++ st) r1.2 Q) := Wp.cs (kd := 1) (y' := 116) (as := [.int x0, .int x1, .int x2, .int x3]) e120_14 rfl (by decide) (by decide) rfl (show 4 ≤ 4 by decide) hs
theorem e120_17 : decode (j_co 120) 17 = .ok (.ifCond .eq 21, 3) := by decide +kernel
set_option maxRecDepth 20000 in
theorem w120_17 {d : Nat} {st : List Value} {Q : Option Value × jW → Prop} {ls : jL} {w : jW} {a : Int32} : Wp d 120 17 ls (.int a :: st) w Q = ((a = nI 0 → Wp d 120 38 ls st w Q) ∧ (¬ a = nI 0 → Wp d 120 20 ls st w Q)) := Wp.if2 (c := a = nI 0) (off := 21) e120_17 rfl rfl rfl rfl rfl
theorem e120_20 : decode (j_co 120) 20 = .ok (.aload_n 0, 1) := by decide +kernel
set_option maxRecDepth 20000 in
theorem w120_20 {d : Nat} {st : List Value} {Q : Option Value × jW → Prop} {w : jW} {a1 a2 a3 a4 : Option Value} {x : Nat} : Wp d 120 20 [some (.ref x), a1, a2, a3, a4] (st) w Q = Wp d 120 21 [some (.ref x), a1, a2, a3, a4] (.ref x :: st) w Q := Wp.loc e120_20 rfl rfl rfl
theorem e120_21 : decode (j_co 120) 21 = .ok (.getfield 22, 3) := by decide +kernel
set_option maxRecDepth 20000 in
theorem w120_21 {d : Nat} {st : List Value} {Q : Option Value × jW → Prop} {ls : jL} {xs : List Value} {I : fI} {L : fL} {o : Nat} (ht : f_tg o = 11) : Wp d 120 21 ls (.ref o :: st) (f_W xs I L) Q = Wp d 120 24 ls (.ref (f_rf o 6) :: st) (f_W xs I L) Q := Wp.getR (ci := 11) (k := 6) e120_21 rfl (by decide) (by decide) rfl ht
theorem e120_24 : decode (j_co 120) 24 = .ok (.bipush 6, 2) := by decide +kernel
set_option maxRecDepth 20000 in
theorem w120_24 {d : Nat} {st : List Value} {Q : Option Value × jW → Prop} {ls : jL} {w : jW} : Wp d 120 24 ls (st) w Q = Wp d 120 26 ls (.int (nI 6) :: st) w Q := Wp.alu e120_24 rfl rfl
theorem e120_26 : decode (j_co 120) 26 = .ok (.iload_n 1, 1) := by decide +kernel
set_option maxRecDepth 20000 in
theorem w120_26 {d : Nat} {st : List Value} {Q : Option Value × jW → Prop} {w : jW} {a0 a2 a3 a4 : Option Value} {x : Int32} : Wp d 120 26 [a0, some (.int x), a2, a3, a4] (st) w Q = Wp d 120 27 [a0, some (.int x), a2, a3, a4] (.int x :: st) w Q := Wp.loc e120_26 rfl rfl rfl
theorem e120_27 : decode (j_co 120) 27 = .ok (.imul, 1) := by decide +kernel
set_option maxRecDepth 20000 in
theorem w120_27 {d : Nat} {st : List Value} {Q : Option Value × jW → Prop} {ls : jL} {w : jW} {a b : Int32} : Wp d 120 27 ls (.int b :: .int a :: st) w Q = Wp d 120 28 ls (.int (a * b) :: st) w Q := Wp.alu e120_27 rfl rfl
theorem e120_28 : decode (j_co 120) 28 = .ok (.iload_n 2, 1) := by decide +kernel
set_option maxRecDepth 20000 in
theorem w120_28 {d : Nat} {st : List Value} {Q : Option Value × jW → Prop} {w : jW} {a0 a1 a3 a4 : Option Value} {x : Int32} : Wp d 120 28 [a0, a1, some (.int x), a3, a4] (st) w Q = Wp d 120 29 [a0, a1, some (.int x), a3, a4] (.int x :: st) w Q := Wp.loc e120_28 rfl rfl rfl
theorem e120_29 : decode (j_co 120) 29 = .ok (.iload_n 3, 1) := by decide +kernel
set_option maxRecDepth 20000 in
theorem w120_29 {d : Nat} {st : List Value} {Q : Option Value × jW → Prop} {w : jW} {a0 a1 a2 a4 : Option Value} {x : Int32} : Wp d 120 29 [a0, a1, a2, some (.int x), a4] (st) w Q = Wp d 120 30 [a0, a1, a2, some (.int x), a4] (.int x :: st) w Q := Wp.loc e120_29 rfl rfl rfl
theorem e120_30 : decode (j_co 120) 30 = .ok (.iload 4, 2) := by decide +kernel
set_option maxRecDepth 20000 in
theorem w120_30 {d : Nat} {st : List Value} {Q : Option Value × jW → Prop} {w : jW} {a0 a1 a2 a3 : Option Value} {x : Int32} : Wp d 120 30 [a0, a1, a2, a3, some (.int x)] (st) w Q = Wp d 120 32 [a0, a1, a2, a3, some (.int x)] (.int x :: st) w Q := Wp.loc e120_30 rfl rfl rfl
theorem e120_32 : decode (j_co 120) 32 = .ok (.invokestatic 114, 3) := by decide +kernel
set_option maxRecDepth 20000 in
theorem w120_32 {d : Nat} {st : List Value} {Q : Option Value × jW → Prop} {ls : jL} {w : jW} {x0 : Nat} {x1 : Int32} {x2 : Int32} {x3 : Int32} {x4 : Int32} (hs : j_sumc st ≤ 8) : Wp (d + 1) 120 32 ls (.int x4 :: .int x3 :: .int x2 :: .int x1 :: .ref x0 :: st) w Q = Wp d 117 0 [some (.ref x0), some (.int x1), some (.int x2), some (.int x3), some (.int x4)] [] w (fun r1 => Wp (d + 1) 120 35 ls (r1.1.toList ++ st) r1.2 Q) := Wp.cs (kd := 1) (y' := 117) (as := [.ref x0, .int x1, .int x2, .int x3, .int x4]) e120_32 rfl (by decide) (by decide) rfl (show 5 ≤ 5 by decide) hs
theorem e120_35 : decode (j_co 120) 35 = .ok (.goto 4, 3) := by decide +kernel
set_option maxRecDepth 20000 in
theorem w120_35 {d : Nat} {st : List Value} {Q : Option Value × jW → Prop} {ls : jL} {w : jW} : Wp d 120 35 ls (st) w Q = Wp d 120 39 ls (st) w Q := Wp.br e120_35 (Or.inl rfl) rfl rfl rfl rfl
theorem e120_38 : decode (j_co 120) 38 = .ok (.iconst (-1), 1) := by decide +kernel
set_option maxRecDepth 20000 in
theorem w120_38 {d : Nat} {st : List Value} {Q : Option Value × jW → Prop} {ls : jL} {w : jW} : Wp d 120 38 ls (st) w Q = Wp d 120 39 ls (.int (-1) :: st) w Q := Wp.alu e120_38 rfl rfl
theorem e120_39 : decode (j_co 120) 39 = .ok (.ireturn, 1) := by decide +kernel
set_option maxRecDepth 20000 in
theorem w120_39 {d : Nat} {Q : Option Value × jW → Prop} {ls : jL} {w : jW} {x : Int32} : Wp d 120 39 ls [.int x] w Q = Q (some (.int x), w) := Wp.ret e120_39 rfl
/-! M.isJump -/
theorem e121_0 : decode (j_co 121) 0 = .ok (.iload_n 1, 1) := by decide +kernel
set_option maxRecDepth 20000 in
theorem w121_0 {d : Nat} {st : List Value} {Q : Option Value × jW → Prop} {w : jW} {a0 : Option Value} {x : Int32} : Wp d 121 0 [a0, some (.int x)] (st) w Q = Wp d 121 1 [a0, some (.int x)] (.int x :: st) w Q := Wp.loc e121_0 rfl rfl rfl
theorem e121_1 : decode (j_co 121) 1 = .ok (.i2l, 1) := by decide +kernel
set_option maxRecDepth 20000 in
theorem w121_1 {d : Nat} {st : List Value} {Q : Option Value × jW → Prop} {ls : jL} {w : jW} {a : Int32} : Wp d 121 1 ls (.int a :: st) w Q = Wp d 121 2 ls (.long a.toInt64 :: st) w Q := Wp.alu e121_1 rfl rfl
theorem e121_2 : decode (j_co 121) 2 = .ok (.lconst 0, 1) := by decide +kernel
set_option maxRecDepth 20000 in
theorem w121_2 {d : Nat} {st : List Value} {Q : Option Value × jW → Prop} {ls : jL} {w : jW} : Wp d 121 2 ls (st) w Q = Wp d 121 3 ls (.long (lN 0) :: st) w Q := Wp.alu e121_2 rfl rfl
theorem e121_3 : decode (j_co 121) 3 = .ok (.aload_n 0, 1) := by decide +kernel
set_option maxRecDepth 20000 in
theorem w121_3 {d : Nat} {st : List Value} {Q : Option Value × jW → Prop} {w : jW} {a1 : Option Value} {x : Nat} : Wp d 121 3 [some (.ref x), a1] (st) w Q = Wp d 121 4 [some (.ref x), a1] (.ref x :: st) w Q := Wp.loc e121_3 rfl rfl rfl
theorem e121_4 : decode (j_co 121) 4 = .ok (.getfield 97, 3) := by decide +kernel
set_option maxRecDepth 20000 in
theorem w121_4 {d : Nat} {st : List Value} {Q : Option Value × jW → Prop} {ls : jL} {xs : List Value} {I : fI} {L : fL} {o : Nat} (ht : f_tg o = 11) : Wp d 121 4 ls (.ref o :: st) (f_W xs I L) Q = Wp d 121 7 ls (.int (I o 3) :: st) (f_W xs I L) Q := Wp.getI (ci := 11) (k := 3) e121_4 rfl (by decide) (by decide) (by decide) ht
theorem e121_7 : decode (j_co 121) 7 = .ok (.iconst 1, 1) := by decide +kernel
set_option maxRecDepth 20000 in
theorem w121_7 {d : Nat} {st : List Value} {Q : Option Value × jW → Prop} {ls : jL} {w : jW} : Wp d 121 7 ls (st) w Q = Wp d 121 8 ls (.int (nI 1) :: st) w Q := Wp.alu e121_7 rfl rfl
theorem e121_8 : decode (j_co 121) 8 = .ok (.isub, 1) := by decide +kernel
set_option maxRecDepth 20000 in
theorem w121_8 {d : Nat} {st : List Value} {Q : Option Value × jW → Prop} {ls : jL} {w : jW} {a b : Int32} : Wp d 121 8 ls (.int b :: .int a :: st) w Q = Wp d 121 9 ls (.int (a - b) :: st) w Q := Wp.alu e121_8 rfl rfl
theorem e121_9 : decode (j_co 121) 9 = .ok (.i2l, 1) := by decide +kernel
set_option maxRecDepth 20000 in
theorem w121_9 {d : Nat} {st : List Value} {Q : Option Value × jW → Prop} {ls : jL} {w : jW} {a : Int32} : Wp d 121 9 ls (.int a :: st) w Q = Wp d 121 10 ls (.long a.toInt64 :: st) w Q := Wp.alu e121_9 rfl rfl
theorem e121_10 : decode (j_co 121) 10 = .ok (.invokestatic 93, 3) := by decide +kernel
set_option maxRecDepth 20000 in
theorem w121_10 {d : Nat} {st : List Value} {Q : Option Value × jW → Prop} {ls : jL} {w : jW} {x0 : Int64} {x1 : Int64} {x2 : Int64} (hs : j_sumc st ≤ 8) : Wp (d + 1) 121 10 ls (.long x2 :: .long x1 :: .long x0 :: st) w Q = Wp d 115 0 [some (.long x0), none, some (.long x1), none, some (.long x2), none] [] w (fun r1 => Wp (d + 1) 121 13 ls (r1.1.toList ++ st) r1.2 Q) := Wp.cs (kd := 1) (y' := 115) (as := [.long x0, .long x1, .long x2]) e121_10 rfl (by decide) (by decide) rfl (show 6 ≤ 6 by decide) hs
theorem e121_13 : decode (j_co 121) 13 = .ok (.ireturn, 1) := by decide +kernel
set_option maxRecDepth 20000 in
theorem w121_13 {d : Nat} {Q : Option Value × jW → Prop} {ls : jL} {w : jW} {x : Int32} (hx : x = 0 ∨ x = 1) : Wp d 121 13 ls [.int x] w Q = Q (some (.int x), w) := Wp.ret e121_13 (by rcases hx with rfl | rfl <;> rfl)
/-! M.set -/
theorem e122_0 : decode (j_co 122) 0 = .ok (.aload_n 0, 1) := by decide +kernel
set_option maxRecDepth 20000 in
theorem w122_0 {d : Nat} {st : List Value} {Q : Option Value × jW → Prop} {w : jW} {a1 a2 a3 a4 a5 : Option Value} {x : Nat} : Wp d 122 0 [some (.ref x), a1, a2, a3, a4, a5] (st) w Q = Wp d 122 1 [some (.ref x), a1, a2, a3, a4, a5] (.ref x :: st) w Q := Wp.loc e122_0 rfl rfl rfl
theorem e122_1 : decode (j_co 122) 1 = .ok (.iload_n 1, 1) := by decide +kernel
set_option maxRecDepth 20000 in
theorem w122_1 {d : Nat} {st : List Value} {Q : Option Value × jW → Prop} {w : jW} {a0 a2 a3 a4 a5 : Option Value} {x : Int32} : Wp d 122 1 [a0, some (.int x), a2, a3, a4, a5] (st) w Q = Wp d 122 2 [a0, some (.int x), a2, a3, a4, a5] (.int x :: st) w Q := Wp.loc e122_1 rfl rfl rfl
theorem e122_2 : decode (j_co 122) 2 = .ok (.invokevirtual 118, 3) := by decide +kernel
set_option maxRecDepth 20000 in
theorem w122_2 {d : Nat} {st : List Value} {Q : Option Value × jW → Prop} {ls : jL} {xs : List Value} {I : fI} {L : fL} {r : Nat} {x0 : Int32} (hs : j_sumc st ≤ 8) (ht : f_tg r = 11) : Wp (d + 1) 122 2 ls (.int x0 :: .ref r :: st) (f_W xs I L) Q = Wp d 121 0 [some (.ref r), some (.int x0)] [] (f_W xs I L) (fun r1 => Wp (d + 1) 122 5 ls (r1.1.toList ++ st) r1.2 Q) := Wp.cv (y' := 121) (as := [.int x0]) e122_2 rfl (by decide) rfl (show 2 ≤ 2 by decide) (by decide) hs ht
theorem e122_5 : decode (j_co 122) 5 = .ok (.ifCond .eq 32, 3) := by decide +kernel
set_option maxRecDepth 20000 in
theorem w122_5 {d : Nat} {st : List Value} {Q : Option Value × jW → Prop} {ls : jL} {w : jW} {a : Int32} : Wp d 122 5 ls (.int a :: st) w Q = ((a = nI 0 → Wp d 122 37 ls st w Q) ∧ (¬ a = nI 0 → Wp d 122 8 ls st w Q)) := Wp.if2 (c := a = nI 0) (off := 32) e122_5 rfl rfl rfl rfl rfl
theorem e122_8 : decode (j_co 122) 8 = .ok (.iload_n 2, 1) := by decide +kernel
set_option maxRecDepth 20000 in
theorem w122_8 {d : Nat} {st : List Value} {Q : Option Value × jW → Prop} {w : jW} {a0 a1 a3 a4 a5 : Option Value} {x : Int32} : Wp d 122 8 [a0, a1, some (.int x), a3, a4, a5] (st) w Q = Wp d 122 9 [a0, a1, some (.int x), a3, a4, a5] (.int x :: st) w Q := Wp.loc e122_8 rfl rfl rfl
theorem e122_9 : decode (j_co 122) 9 = .ok (.i2l, 1) := by decide +kernel
set_option maxRecDepth 20000 in
theorem w122_9 {d : Nat} {st : List Value} {Q : Option Value × jW → Prop} {ls : jL} {w : jW} {a : Int32} : Wp d 122 9 ls (.int a :: st) w Q = Wp d 122 10 ls (.long a.toInt64 :: st) w Q := Wp.alu e122_9 rfl rfl
theorem e122_10 : decode (j_co 122) 10 = .ok (.lconst 0, 1) := by decide +kernel
set_option maxRecDepth 20000 in
theorem w122_10 {d : Nat} {st : List Value} {Q : Option Value × jW → Prop} {ls : jL} {w : jW} : Wp d 122 10 ls (st) w Q = Wp d 122 11 ls (.long (lN 0) :: st) w Q := Wp.alu e122_10 rfl rfl
theorem e122_11 : decode (j_co 122) 11 = .ok (.ldc2_w 100, 3) := by decide +kernel
set_option maxRecDepth 20000 in
theorem w122_11 {d : Nat} {st : List Value} {Q : Option Value × jW → Prop} {ls : jL} {w : jW} : Wp d 122 11 ls (st) w Q = Wp d 122 14 ls (.long (lN 2) :: st) w Q := Wp.ldc2 e122_11 rfl
theorem e122_14 : decode (j_co 122) 14 = .ok (.invokestatic 93, 3) := by decide +kernel
set_option maxRecDepth 20000 in
theorem w122_14 {d : Nat} {st : List Value} {Q : Option Value × jW → Prop} {ls : jL} {w : jW} {x0 : Int64} {x1 : Int64} {x2 : Int64} (hs : j_sumc st ≤ 8) : Wp (d + 1) 122 14 ls (.long x2 :: .long x1 :: .long x0 :: st) w Q = Wp d 115 0 [some (.long x0), none, some (.long x1), none, some (.long x2), none] [] w (fun r1 => Wp (d + 1) 122 17 ls (r1.1.toList ++ st) r1.2 Q) := Wp.cs (kd := 1) (y' := 115) (as := [.long x0, .long x1, .long x2]) e122_14 rfl (by decide) (by decide) rfl (show 6 ≤ 6 by decide) hs
theorem e122_17 : decode (j_co 122) 17 = .ok (.ifCond .eq 20, 3) := by decide +kernel
set_option maxRecDepth 20000 in
theorem w122_17 {d : Nat} {st : List Value} {Q : Option Value × jW → Prop} {ls : jL} {w : jW} {a : Int32} : Wp d 122 17 ls (.int a :: st) w Q = ((a = nI 0 → Wp d 122 37 ls st w Q) ∧ (¬ a = nI 0 → Wp d 122 20 ls st w Q)) := Wp.if2 (c := a = nI 0) (off := 20) e122_17 rfl rfl rfl rfl rfl
theorem e122_20 : decode (j_co 122) 20 = .ok (.iload_n 3, 1) := by decide +kernel
set_option maxRecDepth 20000 in
theorem w122_20 {d : Nat} {st : List Value} {Q : Option Value × jW → Prop} {w : jW} {a0 a1 a2 a4 a5 : Option Value} {x : Int32} : Wp d 122 20 [a0, a1, a2, some (.int x), a4, a5] (st) w Q = Wp d 122 21 [a0, a1, a2, some (.int x), a4, a5] (.int x :: st) w Q := Wp.loc e122_20 rfl rfl rfl
theorem e122_21 : decode (j_co 122) 21 = .ok (.ifCond .ne 18, 3) := by decide +kernel
set_option maxRecDepth 20000 in
theorem w122_21 {d : Nat} {st : List Value} {Q : Option Value × jW → Prop} {ls : jL} {w : jW} {a : Int32} : Wp d 122 21 ls (.int a :: st) w Q = ((a = nI 0 → Wp d 122 24 ls st w Q) ∧ (¬ a = nI 0 → Wp d 122 39 ls st w Q)) := Wp.if2n (c := a = nI 0) (off := 18) e122_21 rfl rfl rfl rfl rfl
theorem e122_24 : decode (j_co 122) 24 = .ok (.iload_n 2, 1) := by decide +kernel
set_option maxRecDepth 20000 in
theorem w122_24 {d : Nat} {st : List Value} {Q : Option Value × jW → Prop} {w : jW} {a0 a1 a3 a4 a5 : Option Value} {x : Int32} : Wp d 122 24 [a0, a1, some (.int x), a3, a4, a5] (st) w Q = Wp d 122 25 [a0, a1, some (.int x), a3, a4, a5] (.int x :: st) w Q := Wp.loc e122_24 rfl rfl rfl
theorem e122_25 : decode (j_co 122) 25 = .ok (.iload 4, 2) := by decide +kernel
set_option maxRecDepth 20000 in
theorem w122_25 {d : Nat} {st : List Value} {Q : Option Value × jW → Prop} {w : jW} {a0 a1 a2 a3 a5 : Option Value} {x : Int32} : Wp d 122 25 [a0, a1, a2, a3, some (.int x), a5] (st) w Q = Wp d 122 27 [a0, a1, a2, a3, some (.int x), a5] (.int x :: st) w Q := Wp.loc e122_25 rfl rfl rfl
theorem e122_27 : decode (j_co 122) 27 = .ok (.iload 5, 2) := by decide +kernel
set_option maxRecDepth 20000 in
theorem w122_27 {d : Nat} {st : List Value} {Q : Option Value × jW → Prop} {w : jW} {a0 a1 a2 a3 a4 : Option Value} {x : Int32} : Wp d 122 27 [a0, a1, a2, a3, a4, some (.int x)] (st) w Q = Wp d 122 29 [a0, a1, a2, a3, a4, some (.int x)] (.int x :: st) w Q := Wp.loc e122_27 rfl rfl rfl
theorem e122_29 : decode (j_co 122) 29 = .ok (.bipush 20, 2) := by decide +kernel
set_option maxRecDepth 20000 in
theorem w122_29 {d : Nat} {st : List Value} {Q : Option Value × jW → Prop} {ls : jL} {w : jW} : Wp d 122 29 ls (st) w Q = Wp d 122 31 ls (.int (nI 20) :: st) w Q := Wp.alu e122_29 rfl rfl
theorem e122_31 : decode (j_co 122) 31 = .ok (.invokestatic 110, 3) := by decide +kernel
set_option maxRecDepth 20000 in
theorem w122_31 {d : Nat} {st : List Value} {Q : Option Value × jW → Prop} {ls : jL} {w : jW} {x0 : Int32} {x1 : Int32} {x2 : Int32} {x3 : Int32} (hs : j_sumc st ≤ 8) : Wp (d + 1) 122 31 ls (.int x3 :: .int x2 :: .int x1 :: .int x0 :: st) w Q = Wp d 116 0 [some (.int x0), some (.int x1), some (.int x2), some (.int x3)] [] w (fun r1 => Wp (d + 1) 122 34 ls (r1.1.toList ++ st) r1.2 Q) := Wp.cs (kd := 1) (y' := 116) (as := [.int x0, .int x1, .int x2, .int x3]) e122_31 rfl (by decide) (by decide) rfl (show 4 ≤ 4 by decide) hs
theorem e122_34 : decode (j_co 122) 34 = .ok (.ifCond .ne 5, 3) := by decide +kernel
set_option maxRecDepth 20000 in
theorem w122_34 {d : Nat} {st : List Value} {Q : Option Value × jW → Prop} {ls : jL} {w : jW} {a : Int32} : Wp d 122 34 ls (.int a :: st) w Q = ((a = nI 0 → Wp d 122 37 ls st w Q) ∧ (¬ a = nI 0 → Wp d 122 39 ls st w Q)) := Wp.if2n (c := a = nI 0) (off := 5) e122_34 rfl rfl rfl rfl rfl
theorem e122_37 : decode (j_co 122) 37 = .ok (.iconst (-1), 1) := by decide +kernel
set_option maxRecDepth 20000 in
theorem w122_37 {d : Nat} {st : List Value} {Q : Option Value × jW → Prop} {ls : jL} {w : jW} : Wp d 122 37 ls (st) w Q = Wp d 122 38 ls (.int (-1) :: st) w Q := Wp.alu e122_37 rfl rfl
theorem e122_38 : decode (j_co 122) 38 = .ok (.ireturn, 1) := by decide +kernel
set_option maxRecDepth 20000 in
theorem w122_38 {d : Nat} {Q : Option Value × jW → Prop} {ls : jL} {w : jW} {x : Int32} : Wp d 122 38 ls [.int x] w Q = Q (some (.int x), w) := Wp.ret e122_38 rfl
theorem e122_39 : decode (j_co 122) 39 = .ok (.aload_n 0, 1) := by decide +kernel
set_option maxRecDepth 20000 in
theorem w122_39 {d : Nat} {st : List Value} {Q : Option Value × jW → Prop} {w : jW} {a1 a2 a3 a4 a5 : Option Value} {x : Nat} : Wp d 122 39 [some (.ref x), a1, a2, a3, a4, a5] (st) w Q = Wp d 122 40 [some (.ref x), a1, a2, a3, a4, a5] (.ref x :: st) w Q := Wp.loc e122_39 rfl rfl rfl
theorem e122_40 : decode (j_co 122) 40 = .ok (.getfield 28, 3) := by decide +kernel
set_option maxRecDepth 20000 in
theorem w122_40 {d : Nat} {st : List Value} {Q : Option Value × jW → Prop} {ls : jL} {xs : List Value} {I : fI} {L : fL} {o : Nat} (ht : f_tg o = 11) : Wp d 122 40 ls (.ref o :: st) (f_W xs I L) Q = Wp d 122 43 ls (.ref (f_rf o 8) :: st) (f_W xs I L) Q := Wp.getR (ci := 11) (k := 8) e122_40 rfl (by decide) (by decide) rfl ht
theorem e122_43 : decode (j_co 122) 43 = .ok (.iconst 3, 1) := by decide +kernel
set_option maxRecDepth 20000 in
theorem w122_43 {d : Nat} {st : List Value} {Q : Option Value × jW → Prop} {ls : jL} {w : jW} : Wp d 122 43 ls (st) w Q = Wp d 122 44 ls (.int (nI 3) :: st) w Q := Wp.alu e122_43 rfl rfl
theorem e122_44 : decode (j_co 122) 44 = .ok (.iload_n 1, 1) := by decide +kernel
set_option maxRecDepth 20000 in
theorem w122_44 {d : Nat} {st : List Value} {Q : Option Value × jW → Prop} {w : jW} {a0 a2 a3 a4 a5 : Option Value} {x : Int32} : Wp d 122 44 [a0, some (.int x), a2, a3, a4, a5] (st) w Q = Wp d 122 45 [a0, some (.int x), a2, a3, a4, a5] (.int x :: st) w Q := Wp.loc e122_44 rfl rfl rfl
theorem e122_45 : decode (j_co 122) 45 = .ok (.imul, 1) := by decide +kernel
set_option maxRecDepth 20000 in
theorem w122_45 {d : Nat} {st : List Value} {Q : Option Value × jW → Prop} {ls : jL} {w : jW} {a b : Int32} : Wp d 122 45 ls (.int b :: .int a :: st) w Q = Wp d 122 46 ls (.int (a * b) :: st) w Q := Wp.alu e122_45 rfl rfl
theorem e122_46 : decode (j_co 122) 46 = .ok (.iload_n 2, 1) := by decide +kernel
set_option maxRecDepth 20000 in
theorem w122_46 {d : Nat} {st : List Value} {Q : Option Value × jW → Prop} {w : jW} {a0 a1 a3 a4 a5 : Option Value} {x : Int32} : Wp d 122 46 [a0, a1, some (.int x), a3, a4, a5] (st) w Q = Wp d 122 47 [a0, a1, some (.int x), a3, a4, a5] (.int x :: st) w Q := Wp.loc e122_46 rfl rfl rfl
theorem e122_47 : decode (j_co 122) 47 = .ok (.iadd, 1) := by decide +kernel
set_option maxRecDepth 20000 in
theorem w122_47 {d : Nat} {st : List Value} {Q : Option Value × jW → Prop} {ls : jL} {w : jW} {a b : Int32} : Wp d 122 47 ls (.int b :: .int a :: st) w Q = Wp d 122 48 ls (.int (a + b) :: st) w Q := Wp.alu e122_47 rfl rfl
theorem e122_48 : decode (j_co 122) 48 = .ok (.iload_n 3, 1) := by decide +kernel
set_option maxRecDepth 20000 in
theorem w122_48 {d : Nat} {st : List Value} {Q : Option Value × jW → Prop} {w : jW} {a0 a1 a2 a4 a5 : Option Value} {x : Int32} : Wp d 122 48 [a0, a1, a2, some (.int x), a4, a5] (st) w Q = Wp d 122 49 [a0, a1, a2, some (.int x), a4, a5] (.int x :: st) w Q := Wp.loc e122_48 rfl rfl rfl
theorem e122_49 : decode (j_co 122) 49 = .ok (.ifCond .ne 7, 3) := by decide +kernel
set_option maxRecDepth 20000 in
theorem w122_49 {d : Nat} {st : List Value} {Q : Option Value × jW → Prop} {ls : jL} {w : jW} {a : Int32} : Wp d 122 49 ls (.int a :: st) w Q = ((a = nI 0 → Wp d 122 52 ls st w Q) ∧ (¬ a = nI 0 → Wp d 122 56 ls st w Q)) := Wp.if2n (c := a = nI 0) (off := 7) e122_49 rfl rfl rfl rfl rfl
theorem e122_52 : decode (j_co 122) 52 = .ok (.iconst 1, 1) := by decide +kernel
set_option maxRecDepth 20000 in
theorem w122_52 {d : Nat} {st : List Value} {Q : Option Value × jW → Prop} {ls : jL} {w : jW} : Wp d 122 52 ls (st) w Q = Wp d 122 53 ls (.int (nI 1) :: st) w Q := Wp.alu e122_52 rfl rfl
theorem e122_53 : decode (j_co 122) 53 = .ok (.goto 4, 3) := by decide +kernel
set_option maxRecDepth 20000 in
theorem w122_53 {d : Nat} {st : List Value} {Q : Option Value × jW → Prop} {ls : jL} {w : jW} : Wp d 122 53 ls (st) w Q = Wp d 122 57 ls (st) w Q := Wp.br e122_53 (Or.inl rfl) rfl rfl rfl rfl
theorem e122_56 : decode (j_co 122) 56 = .ok (.iconst 0, 1) := by decide +kernel
set_option maxRecDepth 20000 in
theorem w122_56 {d : Nat} {st : List Value} {Q : Option Value × jW → Prop} {ls : jL} {w : jW} : Wp d 122 56 ls (st) w Q = Wp d 122 57 ls (.int (nI 0) :: st) w Q := Wp.alu e122_56 rfl rfl
theorem e122_57 : decode (j_co 122) 57 = .ok (.bastore, 1) := by decide +kernel
set_option maxRecDepth 20000 in
theorem w122_57 {d : Nat} {st : List Value} {Q : Option Value × jW → Prop} {ls : jL} {xs : List Value} {I : fI} {L : fL} {o : Nat} {i x : Int32} (ht : f_tg o = 101) (hi : ¬ (i < 0 ∨ f_ln o ≤ i.toNatClampNeg)) (hx : x = 0 ∨ x = 1) : Wp d 122 57 ls (.int x :: .int i :: .ref o :: st) (f_W xs I L) Q = Wp d 122 58 ls (st) (f_W xs (f_up I o i.toNatClampNeg x) L) Q := Wp.zast e122_57 ht hi hx
theorem e122_58 : decode (j_co 122) 58 = .ok (.iload_n 3, 1) := by decide +kernel
set_option maxRecDepth 20000 in
theorem w122_58 {d : Nat} {st : List Value} {Q : Option Value × jW → Prop} {w : jW} {a0 a1 a2 a4 a5 : Option Value} {x : Int32} : Wp d 122 58 [a0, a1, a2, some (.int x), a4, a5] (st) w Q = Wp d 122 59 [a0, a1, a2, some (.int x), a4, a5] (.int x :: st) w Q := Wp.loc e122_58 rfl rfl rfl
theorem e122_59 : decode (j_co 122) 59 = .ok (.ifCond .eq 7, 3) := by decide +kernel
set_option maxRecDepth 20000 in
theorem w122_59 {d : Nat} {st : List Value} {Q : Option Value × jW → Prop} {ls : jL} {w : jW} {a : Int32} : Wp d 122 59 ls (.int a :: st) w Q = ((a = nI 0 → Wp d 122 66 ls st w Q) ∧ (¬ a = nI 0 → Wp d 122 62 ls st w Q)) := Wp.if2 (c := a = nI 0) (off := 7) e122_59 rfl rfl rfl rfl rfl
theorem e122_62 : decode (j_co 122) 62 = .ok (.iconst 1, 1) := by decide +kernel
set_option maxRecDepth 20000 in
theorem w122_62 {d : Nat} {st : List Value} {Q : Option Value × jW → Prop} {ls : jL} {w : jW} : Wp d 122 62 ls (st) w Q = Wp d 122 63 ls (.int (nI 1) :: st) w Q := Wp.alu e122_62 rfl rfl
theorem e122_63 : decode (j_co 122) 63 = .ok (.goto 19, 3) := by decide +kernel
set_option maxRecDepth 20000 in
theorem w122_63 {d : Nat} {st : List Value} {Q : Option Value × jW → Prop} {ls : jL} {w : jW} : Wp d 122 63 ls (st) w Q = Wp d 122 82 ls (st) w Q := Wp.br e122_63 (Or.inl rfl) rfl rfl rfl rfl
theorem e122_66 : decode (j_co 122) 66 = .ok (.aload_n 0, 1) := by decide +kernel
set_option maxRecDepth 20000 in
theorem w122_66 {d : Nat} {st : List Value} {Q : Option Value × jW → Prop} {w : jW} {a1 a2 a3 a4 a5 : Option Value} {x : Nat} : Wp d 122 66 [some (.ref x), a1, a2, a3, a4, a5] (st) w Q = Wp d 122 67 [some (.ref x), a1, a2, a3, a4, a5] (.ref x :: st) w Q := Wp.loc e122_66 rfl rfl rfl
theorem e122_67 : decode (j_co 122) 67 = .ok (.getfield 25, 3) := by decide +kernel
set_option maxRecDepth 20000 in
theorem w122_67 {d : Nat} {st : List Value} {Q : Option Value × jW → Prop} {ls : jL} {xs : List Value} {I : fI} {L : fL} {o : Nat} (ht : f_tg o = 11) : Wp d 122 67 ls (.ref o :: st) (f_W xs I L) Q = Wp d 122 70 ls (.ref (f_rf o 7) :: st) (f_W xs I L) Q := Wp.getR (ci := 11) (k := 7) e122_67 rfl (by decide) (by decide) rfl ht
theorem e122_70 : decode (j_co 122) 70 = .ok (.bipush 6, 2) := by decide +kernel
set_option maxRecDepth 20000 in
theorem w122_70 {d : Nat} {st : List Value} {Q : Option Value × jW → Prop} {ls : jL} {w : jW} : Wp d 122 70 ls (st) w Q = Wp d 122 72 ls (.int (nI 6) :: st) w Q := Wp.alu e122_70 rfl rfl
theorem e122_72 : decode (j_co 122) 72 = .ok (.iload_n 1, 1) := by decide +kernel
set_option maxRecDepth 20000 in
theorem w122_72 {d : Nat} {st : List Value} {Q : Option Value × jW → Prop} {w : jW} {a0 a2 a3 a4 a5 : Option Value} {x : Int32} : Wp d 122 72 [a0, some (.int x), a2, a3, a4, a5] (st) w Q = Wp d 122 73 [a0, some (.int x), a2, a3, a4, a5] (.int x :: st) w Q := Wp.loc e122_72 rfl rfl rfl
theorem e122_73 : decode (j_co 122) 73 = .ok (.imul, 1) := by decide +kernel
set_option maxRecDepth 20000 in
theorem w122_73 {d : Nat} {st : List Value} {Q : Option Value × jW → Prop} {ls : jL} {w : jW} {a b : Int32} : Wp d 122 73 ls (.int b :: .int a :: st) w Q = Wp d 122 74 ls (.int (a * b) :: st) w Q := Wp.alu e122_73 rfl rfl
theorem e122_74 : decode (j_co 122) 74 = .ok (.iload_n 2, 1) := by decide +kernel
set_option maxRecDepth 20000 in
theorem w122_74 {d : Nat} {st : List Value} {Q : Option Value × jW → Prop} {w : jW} {a0 a1 a3 a4 a5 : Option Value} {x : Int32} : Wp d 122 74 [a0, a1, some (.int x), a3, a4, a5] (st) w Q = Wp d 122 75 [a0, a1, some (.int x), a3, a4, a5] (.int x :: st) w Q := Wp.loc e122_74 rfl rfl rfl
theorem e122_75 : decode (j_co 122) 75 = .ok (.iload 4, 2) := by decide +kernel
set_option maxRecDepth 20000 in
theorem w122_75 {d : Nat} {st : List Value} {Q : Option Value × jW → Prop} {w : jW} {a0 a1 a2 a3 a5 : Option Value} {x : Int32} : Wp d 122 75 [a0, a1, a2, a3, some (.int x), a5] (st) w Q = Wp d 122 77 [a0, a1, a2, a3, some (.int x), a5] (.int x :: st) w Q := Wp.loc e122_75 rfl rfl rfl
theorem e122_77 : decode (j_co 122) 77 = .ok (.iload 5, 2) := by decide +kernel
set_option maxRecDepth 20000 in
theorem w122_77 {d : Nat} {st : List Value} {Q : Option Value × jW → Prop} {w : jW} {a0 a1 a2 a3 a4 : Option Value} {x : Int32} : Wp d 122 77 [a0, a1, a2, a3, a4, some (.int x)] (st) w Q = Wp d 122 79 [a0, a1, a2, a3, a4, some (.int x)] (.int x :: st) w Q := Wp.loc e122_77 rfl rfl rfl
theorem e122_79 : decode (j_co 122) 79 = .ok (.invokestatic 114, 3) := by decide +kernel
set_option maxRecDepth 20000 in
theorem w122_79 {d : Nat} {st : List Value} {Q : Option Value × jW → Prop} {ls : jL} {w : jW} {x0 : Nat} {x1 : Int32} {x2 : Int32} {x3 : Int32} {x4 : Int32} (hs : j_sumc st ≤ 8) : Wp (d + 1) 122 79 ls (.int x4 :: .int x3 :: .int x2 :: .int x1 :: .ref x0 :: st) w Q = Wp d 117 0 [some (.ref x0), some (.int x1), some (.int x2), some (.int x3), some (.int x4)] [] w (fun r1 => Wp (d + 1) 122 82 ls (r1.1.toList ++ st) r1.2 Q) := Wp.cs (kd := 1) (y' := 117) (as := [.ref x0, .int x1, .int x2, .int x3, .int x4]) e122_79 rfl (by decide) (by decide) rfl (show 5 ≤ 5 by decide) hs
theorem e122_82 : decode (j_co 122) 82 = .ok (.ireturn, 1) := by decide +kernel
set_option maxRecDepth 20000 in
theorem w122_82 {d : Nat} {Q : Option Value × jW → Prop} {ls : jL} {w : jW} {x : Int32} : Wp d 122 82 ls [.int x] w Q = Q (some (.int x), w) := Wp.ret e122_82 rfl
/-! M.start -/
theorem e123_0 : decode (j_co 123) 0 = .ok (.iload_n 1, 1) := by decide +kernel
set_option maxRecDepth 20000 in
theorem w123_0 {d : Nat} {st : List Value} {Q : Option Value × jW → Prop} {w : jW} {a0 a2 : Option Value} {x : Int32} : Wp d 123 0 [a0, some (.int x), a2] (st) w Q = Wp d 123 1 [a0, some (.int x), a2] (.int x :: st) w Q := Wp.loc e123_0 rfl rfl rfl
theorem e123_1 : decode (j_co 123) 1 = .ok (.i2l, 1) := by decide +kernel
set_option maxRecDepth 20000 in
theorem w123_1 {d : Nat} {st : List Value} {Q : Option Value × jW → Prop} {ls : jL} {w : jW} {a : Int32} : Wp d 123 1 ls (.int a :: st) w Q = Wp d 123 2 ls (.long a.toInt64 :: st) w Q := Wp.alu e123_1 rfl rfl
theorem e123_2 : decode (j_co 123) 2 = .ok (.lconst 0, 1) := by decide +kernel
set_option maxRecDepth 20000 in
theorem w123_2 {d : Nat} {st : List Value} {Q : Option Value × jW → Prop} {ls : jL} {w : jW} : Wp d 123 2 ls (st) w Q = Wp d 123 3 ls (.long (lN 0) :: st) w Q := Wp.alu e123_2 rfl rfl
theorem e123_3 : decode (j_co 123) 3 = .ok (.ldc2_w 121, 3) := by decide +kernel
set_option maxRecDepth 20000 in
theorem w123_3 {d : Nat} {st : List Value} {Q : Option Value × jW → Prop} {ls : jL} {w : jW} : Wp d 123 3 ls (st) w Q = Wp d 123 6 ls (.long (lN 5) :: st) w Q := Wp.ldc2 e123_3 rfl
theorem e123_6 : decode (j_co 123) 6 = .ok (.invokestatic 93, 3) := by decide +kernel
set_option maxRecDepth 20000 in
theorem w123_6 {d : Nat} {st : List Value} {Q : Option Value × jW → Prop} {ls : jL} {w : jW} {x0 : Int64} {x1 : Int64} {x2 : Int64} (hs : j_sumc st ≤ 8) : Wp (d + 1) 123 6 ls (.long x2 :: .long x1 :: .long x0 :: st) w Q = Wp d 115 0 [some (.long x0), none, some (.long x1), none, some (.long x2), none] [] w (fun r1 => Wp (d + 1) 123 9 ls (r1.1.toList ++ st) r1.2 Q) := Wp.cs (kd := 1) (y' := 115) (as := [.long x0, .long x1, .long x2]) e123_6 rfl (by decide) (by decide) rfl (show 6 ≤ 6 by decide) hs
theorem e123_9 : decode (j_co 123) 9 = .ok (.ifCond .ne 5, 3) := by decide +kernel
set_option maxRecDepth 20000 in
theorem w123_9 {d : Nat} {st : List Value} {Q : Option Value × jW → Prop} {ls : jL} {w : jW} {a : Int32} : Wp d 123 9 ls (.int a :: st) w Q = ((a = nI 0 → Wp d 123 12 ls st w Q) ∧ (¬ a = nI 0 → Wp d 123 14 ls st w Q)) := Wp.if2n (c := a = nI 0) (off := 5) e123_9 rfl rfl rfl rfl rfl
theorem e123_12 : decode (j_co 123) 12 = .ok (.iconst (-1), 1) := by decide +kernel
set_option maxRecDepth 20000 in
theorem w123_12 {d : Nat} {st : List Value} {Q : Option Value × jW → Prop} {ls : jL} {w : jW} : Wp d 123 12 ls (st) w Q = Wp d 123 13 ls (.int (-1) :: st) w Q := Wp.alu e123_12 rfl rfl
theorem e123_13 : decode (j_co 123) 13 = .ok (.ireturn, 1) := by decide +kernel
set_option maxRecDepth 20000 in
theorem w123_13 {d : Nat} {Q : Option Value × jW → Prop} {ls : jL} {w : jW} {x : Int32} : Wp d 123 13 ls [.int x] w Q = Q (some (.int x), w) := Wp.ret e123_13 rfl
theorem e123_14 : decode (j_co 123) 14 = .ok (.aload_n 0, 1) := by decide +kernel
set_option maxRecDepth 20000 in
theorem w123_14 {d : Nat} {st : List Value} {Q : Option Value × jW → Prop} {w : jW} {a1 a2 : Option Value} {x : Nat} : Wp d 123 14 [some (.ref x), a1, a2] (st) w Q = Wp d 123 15 [some (.ref x), a1, a2] (.ref x :: st) w Q := Wp.loc e123_14 rfl rfl rfl
theorem e123_15 : decode (j_co 123) 15 = .ok (.getfield 123, 3) := by decide +kernel
set_option maxRecDepth 20000 in
theorem w123_15 {d : Nat} {st : List Value} {Q : Option Value × jW → Prop} {ls : jL} {xs : List Value} {I : fI} {L : fL} {o : Nat} (ht : f_tg o = 11) : Wp d 123 15 ls (.ref o :: st) (f_W xs I L) Q = Wp d 123 18 ls (.int (I o 9) :: st) (f_W xs I L) Q := Wp.getI (ci := 11) (k := 9) e123_15 rfl (by decide) (by decide) (by decide) ht
theorem e123_18 : decode (j_co 123) 18 = .ok (.istore_n 2, 1) := by decide +kernel
set_option maxRecDepth 20000 in
theorem w123_18 {d : Nat} {st : List Value} {Q : Option Value × jW → Prop} {w : jW} {a0 a1 a2 : Option Value} {x : Int32} (h : j_cp a1) : Wp d 123 18 [a0, a1, a2] (.int x :: st) w Q = Wp d 123 19 [a0, a1, some (.int x)] (st) w Q := Wp.loc e123_18 rfl rfl (v_stI (ls := [a0, a1, a2]) (k := 2) (show 2 < 3 by decide) h)
theorem e123_19 : decode (j_co 123) 19 = .ok (.aload_n 0, 1) := by decide +kernel
set_option maxRecDepth 20000 in
theorem w123_19 {d : Nat} {st : List Value} {Q : Option Value × jW → Prop} {w : jW} {a1 a2 : Option Value} {x : Nat} : Wp d 123 19 [some (.ref x), a1, a2] (st) w Q = Wp d 123 20 [some (.ref x), a1, a2] (.ref x :: st) w Q := Wp.loc e123_19 rfl rfl rfl
theorem e123_20 : decode (j_co 123) 20 = .ok (.iload_n 1, 1) := by decide +kernel
set_option maxRecDepth 20000 in
theorem w123_20 {d : Nat} {st : List Value} {Q : Option Value × jW → Prop} {w : jW} {a0 a2 : Option Value} {x : Int32} : Wp d 123 20 [a0, some (.int x), a2] (st) w Q = Wp d 123 21 [a0, some (.int x), a2] (.int x :: st) w Q := Wp.loc e123_20 rfl rfl rfl
theorem e123_21 : decode (j_co 123) 21 = .ok (.putfield 123, 3) := by decide +kernel
set_option maxRecDepth 20000 in
theorem w123_21 {d : Nat} {st : List Value} {Q : Option Value × jW → Prop} {ls : jL} {xs : List Value} {I : fI} {L : fL} {o : Nat} {x : Int32} (ht : f_tg o = 11) : Wp d 123 21 ls (.int x :: .ref o :: st) (f_W xs I L) Q = Wp d 123 24 ls (st) (f_W xs (f_up I o 9 x) L) Q := Wp.putI (ci := 11) (k := 9) e123_21 rfl (by decide) (by decide) rfl (by decide) ht
theorem e123_24 : decode (j_co 123) 24 = .ok (.iload_n 2, 1) := by decide +kernel
set_option maxRecDepth 20000 in
theorem w123_24 {d : Nat} {st : List Value} {Q : Option Value × jW → Prop} {w : jW} {a0 a1 : Option Value} {x : Int32} : Wp d 123 24 [a0, a1, some (.int x)] (st) w Q = Wp d 123 25 [a0, a1, some (.int x)] (.int x :: st) w Q := Wp.loc e123_24 rfl rfl rfl
theorem e123_25 : decode (j_co 123) 25 = .ok (.ireturn, 1) := by decide +kernel
set_option maxRecDepth 20000 in
theorem w123_25 {d : Nat} {Q : Option Value × jW → Prop} {ls : jL} {w : jW} {x : Int32} : Wp d 123 25 ls [.int x] w Q = Q (some (.int x), w) := Wp.ret e123_25 rfl
/-! M.box -/
theorem e124_0 : decode (j_co 124) 0 = .ok (.iload_n 1, 1) := by decide +kernel
set_option maxRecDepth 20000 in
theorem w124_0 {d : Nat} {st : List Value} {Q : Option Value × jW → Prop} {w : jW} {a0 a2 a3 a4 : Option Value} {x : Int32} : Wp d 124 0 [a0, some (.int x), a2, a3, a4] (st) w Q = Wp d 124 1 [a0, some (.int x), a2, a3, a4] (.int x :: st) w Q := Wp.loc e124_0 rfl rfl rfl
theorem e124_1 : decode (j_co 124) 1 = .ok (.i2l, 1) := by decide +kernel
set_option maxRecDepth 20000 in
theorem w124_1 {d : Nat} {st : List Value} {Q : Option Value × jW → Prop} {ls : jL} {w : jW} {a : Int32} : Wp d 124 1 ls (.int a :: st) w Q = Wp d 124 2 ls (.long a.toInt64 :: st) w Q := Wp.alu e124_1 rfl rfl
theorem e124_2 : decode (j_co 124) 2 = .ok (.lconst 0, 1) := by decide +kernel
set_option maxRecDepth 20000 in
theorem w124_2 {d : Nat} {st : List Value} {Q : Option Value × jW → Prop} {ls : jL} {w : jW} : Wp d 124 2 ls (st) w Q = Wp d 124 3 ls (.long (lN 0) :: st) w Q := Wp.alu e124_2 rfl rfl
theorem e124_3 : decode (j_co 124) 3 = .ok (.lconst 1, 1) := by decide +kernel
set_option maxRecDepth 20000 in
theorem w124_3 {d : Nat} {st : List Value} {Q : Option Value × jW → Prop} {ls : jL} {w : jW} : Wp d 124 3 ls (st) w Q = Wp d 124 4 ls (.long (lN 1) :: st) w Q := Wp.alu e124_3 rfl rfl
theorem e124_4 : decode (j_co 124) 4 = .ok (.invokestatic 93, 3) := by decide +kernel
set_option maxRecDepth 20000 in
theorem w124_4 {d : Nat} {st : List Value} {Q : Option Value × jW → Prop} {ls : jL} {w : jW} {x0 : Int64} {x1 : Int64} {x2 : Int64} (hs : j_sumc st ≤ 8) : Wp (d + 1) 124 4 ls (.long x2 :: .long x1 :: .long x0 :: st) w Q = Wp d 115 0 [some (.long x0), none, some (.long x1), none, some (.long x2), none] [] w (fun r1 => Wp (d + 1) 124 7 ls (r1.1.toList ++ st) r1.2 Q) := Wp.cs (kd := 1) (y' := 115) (as := [.long x0, .long x1, .long x2]) e124_4 rfl (by decide) (by decide) rfl (show 6 ≤ 6 by decide) hs
theorem e124_7 : decode (j_co 124) 7 = .ok (.ifCond .eq 33, 3) := by decide +kernel
set_option maxRecDepth 20000 in
theorem w124_7 {d : Nat} {st : List Value} {Q : Option Value × jW → Prop} {ls : jL} {w : jW} {a : Int32} : Wp d 124 7 ls (.int a :: st) w Q = ((a = nI 0 → Wp d 124 40 ls st w Q) ∧ (¬ a = nI 0 → Wp d 124 10 ls st w Q)) := Wp.if2 (c := a = nI 0) (off := 33) e124_7 rfl rfl rfl rfl rfl
theorem e124_10 : decode (j_co 124) 10 = .ok (.iload_n 2, 1) := by decide +kernel
set_option maxRecDepth 20000 in
theorem w124_10 {d : Nat} {st : List Value} {Q : Option Value × jW → Prop} {w : jW} {a0 a1 a3 a4 : Option Value} {x : Int32} : Wp d 124 10 [a0, a1, some (.int x), a3, a4] (st) w Q = Wp d 124 11 [a0, a1, some (.int x), a3, a4] (.int x :: st) w Q := Wp.loc e124_10 rfl rfl rfl
theorem e124_11 : decode (j_co 124) 11 = .ok (.iload_n 3, 1) := by decide +kernel
set_option maxRecDepth 20000 in
theorem w124_11 {d : Nat} {st : List Value} {Q : Option Value × jW → Prop} {w : jW} {a0 a1 a2 a4 : Option Value} {x : Int32} : Wp d 124 11 [a0, a1, a2, some (.int x), a4] (st) w Q = Wp d 124 12 [a0, a1, a2, some (.int x), a4] (.int x :: st) w Q := Wp.loc e124_11 rfl rfl rfl
theorem e124_12 : decode (j_co 124) 12 = .ok (.iload 4, 2) := by decide +kernel
set_option maxRecDepth 20000 in
theorem w124_12 {d : Nat} {st : List Value} {Q : Option Value × jW → Prop} {w : jW} {a0 a1 a2 a3 : Option Value} {x : Int32} : Wp d 124 12 [a0, a1, a2, a3, some (.int x)] (st) w Q = Wp d 124 14 [a0, a1, a2, a3, some (.int x)] (.int x :: st) w Q := Wp.loc e124_12 rfl rfl rfl
theorem e124_14 : decode (j_co 124) 14 = .ok (.bipush 20, 2) := by decide +kernel
set_option maxRecDepth 20000 in
theorem w124_14 {d : Nat} {st : List Value} {Q : Option Value × jW → Prop} {ls : jL} {w : jW} : Wp d 124 14 ls (st) w Q = Wp d 124 16 ls (.int (nI 20) :: st) w Q := Wp.alu e124_14 rfl rfl
theorem e124_16 : decode (j_co 124) 16 = .ok (.invokestatic 110, 3) := by decide +kernel
set_option maxRecDepth 20000 in
theorem w124_16 {d : Nat} {st : List Value} {Q : Option Value × jW → Prop} {ls : jL} {w : jW} {x0 : Int32} {x1 : Int32} {x2 : Int32} {x3 : Int32} (hs : j_sumc st ≤ 8) : Wp (d + 1) 124 16 ls (.int x3 :: .int x2 :: .int x1 :: .int x0 :: st) w Q = Wp d 116 0 [some (.int x0), some (.int x1), some (.int x2), some (.int x3)] [] w (fun r1 => Wp (d + 1) 124 19 ls (r1.1.toList ++ st) r1.2 Q) := Wp.cs (kd := 1) (y' := 116) (as := [.int x0, .int x1, .int x2, .int x3]) e124_16 rfl (by decide) (by decide) rfl (show 4 ≤ 4 by decide) hs
theorem e124_19 : decode (j_co 124) 19 = .ok (.ifCond .eq 21, 3) := by decide +kernel
set_option maxRecDepth 20000 in
theorem w124_19 {d : Nat} {st : List Value} {Q : Option Value × jW → Prop} {ls : jL} {w : jW} {a : Int32} : Wp d 124 19 ls (.int a :: st) w Q = ((a = nI 0 → Wp d 124 40 ls st w Q) ∧ (¬ a = nI 0 → Wp d 124 22 ls st w Q)) := Wp.if2 (c := a = nI 0) (off := 21) e124_19 rfl rfl rfl rfl rfl
theorem e124_22 : decode (j_co 124) 22 = .ok (.aload_n 0, 1) := by decide +kernel
set_option maxRecDepth 20000 in
theorem w124_22 {d : Nat} {st : List Value} {Q : Option Value × jW → Prop} {w : jW} {a1 a2 a3 a4 : Option Value} {x : Nat} : Wp d 124 22 [some (.ref x), a1, a2, a3, a4] (st) w Q = Wp d 124 23 [some (.ref x), a1, a2, a3, a4] (.ref x :: st) w Q := Wp.loc e124_22 rfl rfl rfl
theorem e124_23 : decode (j_co 124) 23 = .ok (.getfield 36, 3) := by decide +kernel
set_option maxRecDepth 20000 in
theorem w124_23 {d : Nat} {st : List Value} {Q : Option Value × jW → Prop} {ls : jL} {xs : List Value} {I : fI} {L : fL} {o : Nat} (ht : f_tg o = 11) : Wp d 124 23 ls (.ref o :: st) (f_W xs I L) Q = Wp d 124 26 ls (.ref (f_rf o 11) :: st) (f_W xs I L) Q := Wp.getR (ci := 11) (k := 11) e124_23 rfl (by decide) (by decide) rfl ht
theorem e124_26 : decode (j_co 124) 26 = .ok (.bipush 6, 2) := by decide +kernel
set_option maxRecDepth 20000 in
theorem w124_26 {d : Nat} {st : List Value} {Q : Option Value × jW → Prop} {ls : jL} {w : jW} : Wp d 124 26 ls (st) w Q = Wp d 124 28 ls (.int (nI 6) :: st) w Q := Wp.alu e124_26 rfl rfl
theorem e124_28 : decode (j_co 124) 28 = .ok (.iload_n 1, 1) := by decide +kernel
set_option maxRecDepth 20000 in
theorem w124_28 {d : Nat} {st : List Value} {Q : Option Value × jW → Prop} {w : jW} {a0 a2 a3 a4 : Option Value} {x : Int32} : Wp d 124 28 [a0, some (.int x), a2, a3, a4] (st) w Q = Wp d 124 29 [a0, some (.int x), a2, a3, a4] (.int x :: st) w Q := Wp.loc e124_28 rfl rfl rfl
theorem e124_29 : decode (j_co 124) 29 = .ok (.imul, 1) := by decide +kernel
set_option maxRecDepth 20000 in
theorem w124_29 {d : Nat} {st : List Value} {Q : Option Value × jW → Prop} {ls : jL} {w : jW} {a b : Int32} : Wp d 124 29 ls (.int b :: .int a :: st) w Q = Wp d 124 30 ls (.int (a * b) :: st) w Q := Wp.alu e124_29 rfl rfl
theorem e124_30 : decode (j_co 124) 30 = .ok (.iload_n 2, 1) := by decide +kernel
set_option maxRecDepth 20000 in
theorem w124_30 {d : Nat} {st : List Value} {Q : Option Value × jW → Prop} {w : jW} {a0 a1 a3 a4 : Option Value} {x : Int32} : Wp d 124 30 [a0, a1, some (.int x), a3, a4] (st) w Q = Wp d 124 31 [a0, a1, some (.int x), a3, a4] (.int x :: st) w Q := Wp.loc e124_30 rfl rfl rfl
theorem e124_31 : decode (j_co 124) 31 = .ok (.iload_n 3, 1) := by decide +kernel
set_option maxRecDepth 20000 in
theorem w124_31 {d : Nat} {st : List Value} {Q : Option Value × jW → Prop} {w : jW} {a0 a1 a2 a4 : Option Value} {x : Int32} : Wp d 124 31 [a0, a1, a2, some (.int x), a4] (st) w Q = Wp d 124 32 [a0, a1, a2, some (.int x), a4] (.int x :: st) w Q := Wp.loc e124_31 rfl rfl rfl
theorem e124_32 : decode (j_co 124) 32 = .ok (.iload 4, 2) := by decide +kernel
set_option maxRecDepth 20000 in
theorem w124_32 {d : Nat} {st : List Value} {Q : Option Value × jW → Prop} {w : jW} {a0 a1 a2 a3 : Option Value} {x : Int32} : Wp d 124 32 [a0, a1, a2, a3, some (.int x)] (st) w Q = Wp d 124 34 [a0, a1, a2, a3, some (.int x)] (.int x :: st) w Q := Wp.loc e124_32 rfl rfl rfl
theorem e124_34 : decode (j_co 124) 34 = .ok (.invokestatic 114, 3) := by decide +kernel
set_option maxRecDepth 20000 in
theorem w124_34 {d : Nat} {st : List Value} {Q : Option Value × jW → Prop} {ls : jL} {w : jW} {x0 : Nat} {x1 : Int32} {x2 : Int32} {x3 : Int32} {x4 : Int32} (hs : j_sumc st ≤ 8) : Wp (d + 1) 124 34 ls (.int x4 :: .int x3 :: .int x2 :: .int x1 :: .ref x0 :: st) w Q = Wp d 117 0 [some (.ref x0), some (.int x1), some (.int x2), some (.int x3), some (.int x4)] [] w (fun r1 => Wp (d + 1) 124 37 ls (r1.1.toList ++ st) r1.2 Q) := Wp.cs (kd := 1) (y' := 117) (as := [.ref x0, .int x1, .int x2, .int x3, .int x4]) e124_34 rfl (by decide) (by decide) rfl (show 5 ≤ 5 by decide) hs
theorem e124_37 : decode (j_co 124) 37 = .ok (.goto 4, 3) := by decide +kernel
set_option maxRecDepth 20000 in
theorem w124_37 {d : Nat} {st : List Value} {Q : Option Value × jW → Prop} {ls : jL} {w : jW} : Wp d 124 37 ls (st) w Q = Wp d 124 41 ls (st) w Q := Wp.br e124_37 (Or.inl rfl) rfl rfl rfl rfl
theorem e124_40 : decode (j_co 124) 40 = .ok (.iconst (-1), 1) := by decide +kernel
set_option maxRecDepth 20000 in
theorem w124_40 {d : Nat} {st : List Value} {Q : Option Value × jW → Prop} {ls : jL} {w : jW} : Wp d 124 40 ls (st) w Q = Wp d 124 41 ls (.int (-1) :: st) w Q := Wp.alu e124_40 rfl rfl
theorem e124_41 : decode (j_co 124) 41 = .ok (.ireturn, 1) := by decide +kernel
set_option maxRecDepth 20000 in
theorem w124_41 {d : Nat} {Q : Option Value × jW → Prop} {ls : jL} {w : jW} {x : Int32} : Wp d 124 41 ls [.int x] w Q = Q (some (.int x), w) := Wp.ret e124_41 rfl
/-! M.wrong -/
theorem e125_0 : decode (j_co 125) 0 = .ok (.iload_n 1, 1) := by decide +kernel
set_option maxRecDepth 20000 in
theorem w125_0 {d : Nat} {st : List Value} {Q : Option Value × jW → Prop} {w : jW} {a0 a2 : Option Value} {x : Int32} : Wp d 125 0 [a0, some (.int x), a2] (st) w Q = Wp d 125 1 [a0, some (.int x), a2] (.int x :: st) w Q := Wp.loc e125_0 rfl rfl rfl
theorem e125_1 : decode (j_co 125) 1 = .ok (.bipush (-4), 2) := by decide +kernel
set_option maxRecDepth 20000 in
theorem w125_1 {d : Nat} {st : List Value} {Q : Option Value × jW → Prop} {ls : jL} {w : jW} : Wp d 125 1 ls (st) w Q = Wp d 125 3 ls (.int (-4) :: st) w Q := Wp.alu e125_1 rfl rfl
theorem e125_3 : decode (j_co 125) 3 = .ok (.if_icmp .eq 17, 3) := by decide +kernel
set_option maxRecDepth 20000 in
theorem w125_3 {d : Nat} {st : List Value} {Q : Option Value × jW → Prop} {ls : jL} {w : jW} {a b : Int32} : Wp d 125 3 ls (.int b :: .int a :: st) w Q = ((a = b → Wp d 125 20 ls st w Q) ∧ (¬ a = b → Wp d 125 6 ls st w Q)) := Wp.if2 (c := a = b) (off := 17) e125_3 rfl rfl rfl rfl rfl
theorem e125_6 : decode (j_co 125) 6 = .ok (.iload_n 1, 1) := by decide +kernel
set_option maxRecDepth 20000 in
theorem w125_6 {d : Nat} {st : List Value} {Q : Option Value × jW → Prop} {w : jW} {a0 a2 : Option Value} {x : Int32} : Wp d 125 6 [a0, some (.int x), a2] (st) w Q = Wp d 125 7 [a0, some (.int x), a2] (.int x :: st) w Q := Wp.loc e125_6 rfl rfl rfl
theorem e125_7 : decode (j_co 125) 7 = .ok (.i2l, 1) := by decide +kernel
set_option maxRecDepth 20000 in
theorem w125_7 {d : Nat} {st : List Value} {Q : Option Value × jW → Prop} {ls : jL} {w : jW} {a : Int32} : Wp d 125 7 ls (.int a :: st) w Q = Wp d 125 8 ls (.long a.toInt64 :: st) w Q := Wp.alu e125_7 rfl rfl
theorem e125_8 : decode (j_co 125) 8 = .ok (.lconst 0, 1) := by decide +kernel
set_option maxRecDepth 20000 in
theorem w125_8 {d : Nat} {st : List Value} {Q : Option Value × jW → Prop} {ls : jL} {w : jW} : Wp d 125 8 ls (st) w Q = Wp d 125 9 ls (.long (lN 0) :: st) w Q := Wp.alu e125_8 rfl rfl
theorem e125_9 : decode (j_co 125) 9 = .ok (.ldc2_w 121, 3) := by decide +kernel
set_option maxRecDepth 20000 in
theorem w125_9 {d : Nat} {st : List Value} {Q : Option Value × jW → Prop} {ls : jL} {w : jW} : Wp d 125 9 ls (st) w Q = Wp d 125 12 ls (.long (lN 5) :: st) w Q := Wp.ldc2 e125_9 rfl
theorem e125_12 : decode (j_co 125) 12 = .ok (.invokestatic 93, 3) := by decide +kernel
set_option maxRecDepth 20000 in
theorem w125_12 {d : Nat} {st : List Value} {Q : Option Value × jW → Prop} {ls : jL} {w : jW} {x0 : Int64} {x1 : Int64} {x2 : Int64} (hs : j_sumc st ≤ 8) : Wp (d + 1) 125 12 ls (.long x2 :: .long x1 :: .long x0 :: st) w Q = Wp d 115 0 [some (.long x0), none, some (.long x1), none, some (.long x2), none] [] w (fun r1 => Wp (d + 1) 125 15 ls (r1.1.toList ++ st) r1.2 Q) := Wp.cs (kd := 1) (y' := 115) (as := [.long x0, .long x1, .long x2]) e125_12 rfl (by decide) (by decide) rfl (show 6 ≤ 6 by decide) hs
theorem e125_15 : decode (j_co 125) 15 = .ok (.ifCond .ne 5, 3) := by decide +kernel
set_option maxRecDepth 20000 in
theorem w125_15 {d : Nat} {st : List Value} {Q : Option Value × jW → Prop} {ls : jL} {w : jW} {a : Int32} : Wp d 125 15 ls (.int a :: st) w Q = ((a = nI 0 → Wp d 125 18 ls st w Q) ∧ (¬ a = nI 0 → Wp d 125 20 ls st w Q)) := Wp.if2n (c := a = nI 0) (off := 5) e125_15 rfl rfl rfl rfl rfl
theorem e125_18 : decode (j_co 125) 18 = .ok (.iconst (-1), 1) := by decide +kernel
set_option maxRecDepth 20000 in
theorem w125_18 {d : Nat} {st : List Value} {Q : Option Value × jW → Prop} {ls : jL} {w : jW} : Wp d 125 18 ls (st) w Q = Wp d 125 19 ls (.int (-1) :: st) w Q := Wp.alu e125_18 rfl rfl
theorem e125_19 : decode (j_co 125) 19 = .ok (.ireturn, 1) := by decide +kernel
set_option maxRecDepth 20000 in
theorem w125_19 {d : Nat} {Q : Option Value × jW → Prop} {ls : jL} {w : jW} {x : Int32} : Wp d 125 19 ls [.int x] w Q = Q (some (.int x), w) := Wp.ret e125_19 rfl
theorem e125_20 : decode (j_co 125) 20 = .ok (.aload_n 0, 1) := by decide +kernel
set_option maxRecDepth 20000 in
theorem w125_20 {d : Nat} {st : List Value} {Q : Option Value × jW → Prop} {w : jW} {a1 a2 : Option Value} {x : Nat} : Wp d 125 20 [some (.ref x), a1, a2] (st) w Q = Wp d 125 21 [some (.ref x), a1, a2] (.ref x :: st) w Q := Wp.loc e125_20 rfl rfl rfl
theorem e125_21 : decode (j_co 125) 21 = .ok (.getfield 32, 3) := by decide +kernel
set_option maxRecDepth 20000 in
theorem w125_21 {d : Nat} {st : List Value} {Q : Option Value × jW → Prop} {ls : jL} {xs : List Value} {I : fI} {L : fL} {o : Nat} (ht : f_tg o = 11) : Wp d 125 21 ls (.ref o :: st) (f_W xs I L) Q = Wp d 125 24 ls (.int (I o 10) :: st) (f_W xs I L) Q := Wp.getI (ci := 11) (k := 10) e125_21 rfl (by decide) (by decide) (by decide) ht
theorem e125_24 : decode (j_co 125) 24 = .ok (.istore_n 2, 1) := by decide +kernel
set_option maxRecDepth 20000 in
theorem w125_24 {d : Nat} {st : List Value} {Q : Option Value × jW → Prop} {w : jW} {a0 a1 a2 : Option Value} {x : Int32} (h : j_cp a1) : Wp d 125 24 [a0, a1, a2] (.int x :: st) w Q = Wp d 125 25 [a0, a1, some (.int x)] (st) w Q := Wp.loc e125_24 rfl rfl (v_stI (ls := [a0, a1, a2]) (k := 2) (show 2 < 3 by decide) h)
theorem e125_25 : decode (j_co 125) 25 = .ok (.aload_n 0, 1) := by decide +kernel
set_option maxRecDepth 20000 in
theorem w125_25 {d : Nat} {st : List Value} {Q : Option Value × jW → Prop} {w : jW} {a1 a2 : Option Value} {x : Nat} : Wp d 125 25 [some (.ref x), a1, a2] (st) w Q = Wp d 125 26 [some (.ref x), a1, a2] (.ref x :: st) w Q := Wp.loc e125_25 rfl rfl rfl
theorem e125_26 : decode (j_co 125) 26 = .ok (.iload_n 1, 1) := by decide +kernel
set_option maxRecDepth 20000 in
theorem w125_26 {d : Nat} {st : List Value} {Q : Option Value × jW → Prop} {w : jW} {a0 a2 : Option Value} {x : Int32} : Wp d 125 26 [a0, some (.int x), a2] (st) w Q = Wp d 125 27 [a0, some (.int x), a2] (.int x :: st) w Q := Wp.loc e125_26 rfl rfl rfl
theorem e125_27 : decode (j_co 125) 27 = .ok (.putfield 32, 3) := by decide +kernel
set_option maxRecDepth 20000 in
theorem w125_27 {d : Nat} {st : List Value} {Q : Option Value × jW → Prop} {ls : jL} {xs : List Value} {I : fI} {L : fL} {o : Nat} {x : Int32} (ht : f_tg o = 11) : Wp d 125 27 ls (.int x :: .ref o :: st) (f_W xs I L) Q = Wp d 125 30 ls (st) (f_W xs (f_up I o 10 x) L) Q := Wp.putI (ci := 11) (k := 10) e125_27 rfl (by decide) (by decide) rfl (by decide) ht
theorem e125_30 : decode (j_co 125) 30 = .ok (.iload_n 2, 1) := by decide +kernel
set_option maxRecDepth 20000 in
theorem w125_30 {d : Nat} {st : List Value} {Q : Option Value × jW → Prop} {w : jW} {a0 a1 : Option Value} {x : Int32} : Wp d 125 30 [a0, a1, some (.int x)] (st) w Q = Wp d 125 31 [a0, a1, some (.int x)] (.int x :: st) w Q := Wp.loc e125_30 rfl rfl rfl
theorem e125_31 : decode (j_co 125) 31 = .ok (.ireturn, 1) := by decide +kernel
set_option maxRecDepth 20000 in
theorem w125_31 {d : Nat} {Q : Option Value × jW → Prop} {ls : jL} {w : jW} {x : Int32} : Wp d 125 31 ls [.int x] w Q = Q (some (.int x), w) := Wp.ret e125_31 rfl
/-! M.most -/
theorem e126_0 : decode (j_co 126) 0 = .ok (.iload_n 1, 1) := by decide +kernel
set_option maxRecDepth 20000 in
theorem w126_0 {d : Nat} {st : List Value} {Q : Option Value × jW → Prop} {w : jW} {a0 a2 : Option Value} {x : Int32} : Wp d 126 0 [a0, some (.int x), a2] (st) w Q = Wp d 126 1 [a0, some (.int x), a2] (.int x :: st) w Q := Wp.loc e126_0 rfl rfl rfl
theorem e126_1 : decode (j_co 126) 1 = .ok (.i2l, 1) := by decide +kernel
set_option maxRecDepth 20000 in
theorem w126_1 {d : Nat} {st : List Value} {Q : Option Value × jW → Prop} {ls : jL} {w : jW} {a : Int32} : Wp d 126 1 ls (.int a :: st) w Q = Wp d 126 2 ls (.long a.toInt64 :: st) w Q := Wp.alu e126_1 rfl rfl
theorem e126_2 : decode (j_co 126) 2 = .ok (.lconst 1, 1) := by decide +kernel
set_option maxRecDepth 20000 in
theorem w126_2 {d : Nat} {st : List Value} {Q : Option Value × jW → Prop} {ls : jL} {w : jW} : Wp d 126 2 ls (st) w Q = Wp d 126 3 ls (.long (lN 1) :: st) w Q := Wp.alu e126_2 rfl rfl
theorem e126_3 : decode (j_co 126) 3 = .ok (.ldc2_w 126, 3) := by decide +kernel
set_option maxRecDepth 20000 in
theorem w126_3 {d : Nat} {st : List Value} {Q : Option Value × jW → Prop} {ls : jL} {w : jW} : Wp d 126 3 ls (st) w Q = Wp d 126 6 ls (.long (lN 12) :: st) w Q := Wp.ldc2 e126_3 rfl
theorem e126_6 : decode (j_co 126) 6 = .ok (.invokestatic 93, 3) := by decide +kernel
set_option maxRecDepth 20000 in
theorem w126_6 {d : Nat} {st : List Value} {Q : Option Value × jW → Prop} {ls : jL} {w : jW} {x0 : Int64} {x1 : Int64} {x2 : Int64} (hs : j_sumc st ≤ 8) : Wp (d + 1) 126 6 ls (.long x2 :: .long x1 :: .long x0 :: st) w Q = Wp d 115 0 [some (.long x0), none, some (.long x1), none, some (.long x2), none] [] w (fun r1 => Wp (d + 1) 126 9 ls (r1.1.toList ++ st) r1.2 Q) := Wp.cs (kd := 1) (y' := 115) (as := [.long x0, .long x1, .long x2]) e126_6 rfl (by decide) (by decide) rfl (show 6 ≤ 6 by decide) hs
theorem e126_9 : decode (j_co 126) 9 = .ok (.ifCond .ne 5, 3) := by decide +kernel
set_option maxRecDepth 20000 in
theorem w126_9 {d : Nat} {st : List Value} {Q : Option Value × jW → Prop} {ls : jL} {w : jW} {a : Int32} : Wp d 126 9 ls (.int a :: st) w Q = ((a = nI 0 → Wp d 126 12 ls st w Q) ∧ (¬ a = nI 0 → Wp d 126 14 ls st w Q)) := Wp.if2n (c := a = nI 0) (off := 5) e126_9 rfl rfl rfl rfl rfl
theorem e126_12 : decode (j_co 126) 12 = .ok (.iconst (-1), 1) := by decide +kernel
set_option maxRecDepth 20000 in
theorem w126_12 {d : Nat} {st : List Value} {Q : Option Value × jW → Prop} {ls : jL} {w : jW} : Wp d 126 12 ls (st) w Q = Wp d 126 13 ls (.int (-1) :: st) w Q := Wp.alu e126_12 rfl rfl
theorem e126_13 : decode (j_co 126) 13 = .ok (.ireturn, 1) := by decide +kernel
set_option maxRecDepth 20000 in
theorem w126_13 {d : Nat} {Q : Option Value × jW → Prop} {ls : jL} {w : jW} {x : Int32} : Wp d 126 13 ls [.int x] w Q = Q (some (.int x), w) := Wp.ret e126_13 rfl
theorem e126_14 : decode (j_co 126) 14 = .ok (.aload_n 0, 1) := by decide +kernel
set_option maxRecDepth 20000 in
theorem w126_14 {d : Nat} {st : List Value} {Q : Option Value × jW → Prop} {w : jW} {a1 a2 : Option Value} {x : Nat} : Wp d 126 14 [some (.ref x), a1, a2] (st) w Q = Wp d 126 15 [some (.ref x), a1, a2] (.ref x :: st) w Q := Wp.loc e126_14 rfl rfl rfl
theorem e126_15 : decode (j_co 126) 15 = .ok (.getfield 39, 3) := by decide +kernel
set_option maxRecDepth 20000 in
theorem w126_15 {d : Nat} {st : List Value} {Q : Option Value × jW → Prop} {ls : jL} {xs : List Value} {I : fI} {L : fL} {o : Nat} (ht : f_tg o = 11) : Wp d 126 15 ls (.ref o :: st) (f_W xs I L) Q = Wp d 126 18 ls (.int (I o 12) :: st) (f_W xs I L) Q := Wp.getI (ci := 11) (k := 12) e126_15 rfl (by decide) (by decide) (by decide) ht
theorem e126_18 : decode (j_co 126) 18 = .ok (.istore_n 2, 1) := by decide +kernel
set_option maxRecDepth 20000 in
theorem w126_18 {d : Nat} {st : List Value} {Q : Option Value × jW → Prop} {w : jW} {a0 a1 a2 : Option Value} {x : Int32} (h : j_cp a1) : Wp d 126 18 [a0, a1, a2] (.int x :: st) w Q = Wp d 126 19 [a0, a1, some (.int x)] (st) w Q := Wp.loc e126_18 rfl rfl (v_stI (ls := [a0, a1, a2]) (k := 2) (show 2 < 3 by decide) h)
theorem e126_19 : decode (j_co 126) 19 = .ok (.aload_n 0, 1) := by decide +kernel
set_option maxRecDepth 20000 in
theorem w126_19 {d : Nat} {st : List Value} {Q : Option Value × jW → Prop} {w : jW} {a1 a2 : Option Value} {x : Nat} : Wp d 126 19 [some (.ref x), a1, a2] (st) w Q = Wp d 126 20 [some (.ref x), a1, a2] (.ref x :: st) w Q := Wp.loc e126_19 rfl rfl rfl
theorem e126_20 : decode (j_co 126) 20 = .ok (.iload_n 1, 1) := by decide +kernel
set_option maxRecDepth 20000 in
theorem w126_20 {d : Nat} {st : List Value} {Q : Option Value × jW → Prop} {w : jW} {a0 a2 : Option Value} {x : Int32} : Wp d 126 20 [a0, some (.int x), a2] (st) w Q = Wp d 126 21 [a0, some (.int x), a2] (.int x :: st) w Q := Wp.loc e126_20 rfl rfl rfl
theorem e126_21 : decode (j_co 126) 21 = .ok (.putfield 39, 3) := by decide +kernel
set_option maxRecDepth 20000 in
theorem w126_21 {d : Nat} {st : List Value} {Q : Option Value × jW → Prop} {ls : jL} {xs : List Value} {I : fI} {L : fL} {o : Nat} {x : Int32} (ht : f_tg o = 11) : Wp d 126 21 ls (.int x :: .ref o :: st) (f_W xs I L) Q = Wp d 126 24 ls (st) (f_W xs (f_up I o 12 x) L) Q := Wp.putI (ci := 11) (k := 12) e126_21 rfl (by decide) (by decide) rfl (by decide) ht
theorem e126_24 : decode (j_co 126) 24 = .ok (.iload_n 2, 1) := by decide +kernel
set_option maxRecDepth 20000 in
theorem w126_24 {d : Nat} {st : List Value} {Q : Option Value × jW → Prop} {w : jW} {a0 a1 : Option Value} {x : Int32} : Wp d 126 24 [a0, a1, some (.int x)] (st) w Q = Wp d 126 25 [a0, a1, some (.int x)] (.int x :: st) w Q := Wp.loc e126_24 rfl rfl rfl
theorem e126_25 : decode (j_co 126) 25 = .ok (.ireturn, 1) := by decide +kernel
set_option maxRecDepth 20000 in
theorem w126_25 {d : Nat} {Q : Option Value × jW → Prop} {ls : jL} {w : jW} {x : Int32} : Wp d 126 25 ls [.int x] w Q = Q (some (.int x), w) := Wp.ret e126_25 rfl
/-! M.safe -/
theorem e127_0 : decode (j_co 127) 0 = .ok (.aload_n 0, 1) := by decide +kernel
set_option maxRecDepth 20000 in
theorem w127_0 {d : Nat} {st : List Value} {Q : Option Value × jW → Prop} {w : jW} {x : Nat} : Wp d 127 0 [some (.ref x)] (st) w Q = Wp d 127 1 [some (.ref x)] (.ref x :: st) w Q := Wp.loc e127_0 rfl rfl rfl
theorem e127_1 : decode (j_co 127) 1 = .ok (.invokevirtual 191, 3) := by decide +kernel
set_option maxRecDepth 20000 in
theorem w127_1 {d : Nat} {st : List Value} {Q : Option Value × jW → Prop} {ls : jL} {xs : List Value} {I : fI} {L : fL} {r : Nat} (hs : j_sumc st ≤ 8) (ht : f_tg r = 11) : Wp (d + 1) 127 1 ls (.ref r :: st) (f_W xs I L) Q = Wp d 128 0 [some (.ref r), none] [] (f_W xs I L) (fun r1 => Wp (d + 1) 127 4 ls (r1.1.toList ++ st) r1.2 Q) := Wp.cv (y' := 128) (as := []) e127_1 rfl (by decide) rfl (show 1 ≤ 2 by decide) (by decide) hs ht
theorem e127_4 : decode (j_co 127) 4 = .ok (.aload_n 0, 1) := by decide +kernel
set_option maxRecDepth 20000 in
theorem w127_4 {d : Nat} {st : List Value} {Q : Option Value × jW → Prop} {w : jW} {x : Nat} : Wp d 127 4 [some (.ref x)] (st) w Q = Wp d 127 5 [some (.ref x)] (.ref x :: st) w Q := Wp.loc e127_4 rfl rfl rfl
theorem e127_5 : decode (j_co 127) 5 = .ok (.invokevirtual 194, 3) := by decide +kernel
set_option maxRecDepth 20000 in
theorem w127_5 {d : Nat} {st : List Value} {Q : Option Value × jW → Prop} {ls : jL} {xs : List Value} {I : fI} {L : fL} {r : Nat} (hs : j_sumc st ≤ 8) (ht : f_tg r = 11) : Wp (d + 1) 127 5 ls (.ref r :: st) (f_W xs I L) Q = Wp d 141 0 [some (.ref r), none, none] [] (f_W xs I L) (fun r1 => Wp (d + 1) 127 8 ls (r1.1.toList ++ st) r1.2 Q) := Wp.cv (y' := 141) (as := []) e127_5 rfl (by decide) rfl (show 1 ≤ 3 by decide) (by decide) hs ht
theorem e127_8 : decode (j_co 127) 8 = .ok (.ireturn, 1) := by decide +kernel
set_option maxRecDepth 20000 in
theorem w127_8 {d : Nat} {Q : Option Value × jW → Prop} {ls : jL} {w : jW} {x : Int32} : Wp d 127 8 ls [.int x] w Q = Q (some (.int x), w) := Wp.ret e127_8 rfl
/-! M.layHeaps -/
theorem e128_0 : decode (j_co 128) 0 = .ok (.aload_n 0, 1) := by decide +kernel
set_option maxRecDepth 20000 in
theorem w128_0 {d : Nat} {st : List Value} {Q : Option Value × jW → Prop} {w : jW} {a1 : Option Value} {x : Nat} : Wp d 128 0 [some (.ref x), a1] (st) w Q = Wp d 128 1 [some (.ref x), a1] (.ref x :: st) w Q := Wp.loc e128_0 rfl rfl rfl
theorem e128_1 : decode (j_co 128) 1 = .ok (.iconst 0, 1) := by decide +kernel
set_option maxRecDepth 20000 in
theorem w128_1 {d : Nat} {st : List Value} {Q : Option Value × jW → Prop} {ls : jL} {w : jW} : Wp d 128 1 ls (st) w Q = Wp d 128 2 ls (.int (nI 0) :: st) w Q := Wp.alu e128_1 rfl rfl
theorem e128_2 : decode (j_co 128) 2 = .ok (.putfield 135, 3) := by decide +kernel
set_option maxRecDepth 20000 in
theorem w128_2 {d : Nat} {st : List Value} {Q : Option Value × jW → Prop} {ls : jL} {xs : List Value} {I : fI} {L : fL} {o : Nat} {x : Int32} (ht : f_tg o = 11) : Wp d 128 2 ls (.int x :: .ref o :: st) (f_W xs I L) Q = Wp d 128 5 ls (st) (f_W xs (f_up I o 16 x) L) Q := Wp.putI (ci := 11) (k := 16) e128_2 rfl (by decide) (by decide) rfl (by decide) ht
theorem e128_5 : decode (j_co 128) 5 = .ok (.aload_n 0, 1) := by decide +kernel
set_option maxRecDepth 20000 in
theorem w128_5 {d : Nat} {st : List Value} {Q : Option Value × jW → Prop} {w : jW} {a1 : Option Value} {x : Nat} : Wp d 128 5 [some (.ref x), a1] (st) w Q = Wp d 128 6 [some (.ref x), a1] (.ref x :: st) w Q := Wp.loc e128_5 rfl rfl rfl
theorem e128_6 : decode (j_co 128) 6 = .ok (.iconst 0, 1) := by decide +kernel
set_option maxRecDepth 20000 in
theorem w128_6 {d : Nat} {st : List Value} {Q : Option Value × jW → Prop} {ls : jL} {w : jW} : Wp d 128 6 ls (st) w Q = Wp d 128 7 ls (.int (nI 0) :: st) w Q := Wp.alu e128_6 rfl rfl
theorem e128_7 : decode (j_co 128) 7 = .ok (.putfield 156, 3) := by decide +kernel
set_option maxRecDepth 20000 in
theorem w128_7 {d : Nat} {st : List Value} {Q : Option Value × jW → Prop} {ls : jL} {xs : List Value} {I : fI} {L : fL} {o : Nat} {x : Int32} (ht : f_tg o = 11) : Wp d 128 7 ls (.int x :: .ref o :: st) (f_W xs I L) Q = Wp d 128 10 ls (st) (f_W xs (f_up I o 23 x) L) Q := Wp.putI (ci := 11) (k := 23) e128_7 rfl (by decide) (by decide) rfl (by decide) ht
theorem e128_10 : decode (j_co 128) 10 = .ok (.aload_n 0, 1) := by decide +kernel
set_option maxRecDepth 20000 in
theorem w128_10 {d : Nat} {st : List Value} {Q : Option Value × jW → Prop} {w : jW} {a1 : Option Value} {x : Nat} : Wp d 128 10 [some (.ref x), a1] (st) w Q = Wp d 128 11 [some (.ref x), a1] (.ref x :: st) w Q := Wp.loc e128_10 rfl rfl rfl
theorem e128_11 : decode (j_co 128) 11 = .ok (.iconst 0, 1) := by decide +kernel
set_option maxRecDepth 20000 in
theorem w128_11 {d : Nat} {st : List Value} {Q : Option Value × jW → Prop} {ls : jL} {w : jW} : Wp d 128 11 ls (st) w Q = Wp d 128 12 ls (.int (nI 0) :: st) w Q := Wp.alu e128_11 rfl rfl
theorem e128_12 : decode (j_co 128) 12 = .ok (.putfield 145, 3) := by decide +kernel
set_option maxRecDepth 20000 in
theorem w128_12 {d : Nat} {st : List Value} {Q : Option Value × jW → Prop} {ls : jL} {xs : List Value} {I : fI} {L : fL} {o : Nat} {x : Int32} (ht : f_tg o = 11) (hx : x = 0 ∨ x = 1) : Wp d 128 12 ls (.int x :: .ref o :: st) (f_W xs I L) Q = Wp d 128 15 ls (st) (f_W xs (f_up I o 24 x) L) Q := Wp.putI (ci := 11) (k := 24) e128_12 rfl (by decide) (by decide) (by rcases hx with rfl | rfl <;> rfl) (by decide) ht
theorem e128_15 : decode (j_co 128) 15 = .ok (.aload_n 0, 1) := by decide +kernel
set_option maxRecDepth 20000 in
theorem w128_15 {d : Nat} {st : List Value} {Q : Option Value × jW → Prop} {w : jW} {a1 : Option Value} {x : Nat} : Wp d 128 15 [some (.ref x), a1] (st) w Q = Wp d 128 16 [some (.ref x), a1] (.ref x :: st) w Q := Wp.loc e128_15 rfl rfl rfl
theorem e128_16 : decode (j_co 128) 16 = .ok (.invokevirtual 172, 3) := by decide +kernel
set_option maxRecDepth 20000 in
theorem w128_16 {d : Nat} {st : List Value} {Q : Option Value × jW → Prop} {ls : jL} {xs : List Value} {I : fI} {L : fL} {r : Nat} (hs : j_sumc st ≤ 8) (ht : f_tg r = 11) : Wp (d + 1) 128 16 ls (.ref r :: st) (f_W xs I L) Q = Wp d 129 0 [some (.ref r)] [] (f_W xs I L) (fun r1 => Wp (d + 1) 128 19 ls (r1.1.toList ++ st) r1.2 Q) := Wp.cv (y' := 129) (as := []) e128_16 rfl (by decide) rfl (show 1 ≤ 1 by decide) (by decide) hs ht
theorem e128_19 : decode (j_co 128) 19 = .ok (.ifCond .eq 15, 3) := by decide +kernel
set_option maxRecDepth 20000 in
theorem w128_19 {d : Nat} {st : List Value} {Q : Option Value × jW → Prop} {ls : jL} {w : jW} {a : Int32} : Wp d 128 19 ls (.int a :: st) w Q = ((a = nI 0 → Wp d 128 34 ls st w Q) ∧ (¬ a = nI 0 → Wp d 128 22 ls st w Q)) := Wp.if2 (c := a = nI 0) (off := 15) e128_19 rfl rfl rfl rfl rfl
theorem e128_22 : decode (j_co 128) 22 = .ok (.aload_n 0, 1) := by decide +kernel
set_option maxRecDepth 20000 in
theorem w128_22 {d : Nat} {st : List Value} {Q : Option Value × jW → Prop} {w : jW} {a1 : Option Value} {x : Nat} : Wp d 128 22 [some (.ref x), a1] (st) w Q = Wp d 128 23 [some (.ref x), a1] (.ref x :: st) w Q := Wp.loc e128_22 rfl rfl rfl
theorem e128_23 : decode (j_co 128) 23 = .ok (.aload_n 0, 1) := by decide +kernel
set_option maxRecDepth 20000 in
theorem w128_23 {d : Nat} {st : List Value} {Q : Option Value × jW → Prop} {w : jW} {a1 : Option Value} {x : Nat} : Wp d 128 23 [some (.ref x), a1] (st) w Q = Wp d 128 24 [some (.ref x), a1] (.ref x :: st) w Q := Wp.loc e128_23 rfl rfl rfl
theorem e128_24 : decode (j_co 128) 24 = .ok (.getfield 123, 3) := by decide +kernel
set_option maxRecDepth 20000 in
theorem w128_24 {d : Nat} {st : List Value} {Q : Option Value × jW → Prop} {ls : jL} {xs : List Value} {I : fI} {L : fL} {o : Nat} (ht : f_tg o = 11) : Wp d 128 24 ls (.ref o :: st) (f_W xs I L) Q = Wp d 128 27 ls (.int (I o 9) :: st) (f_W xs I L) Q := Wp.getI (ci := 11) (k := 9) e128_24 rfl (by decide) (by decide) (by decide) ht
theorem e128_27 : decode (j_co 128) 27 = .ok (.bipush (-4), 2) := by decide +kernel
set_option maxRecDepth 20000 in
theorem w128_27 {d : Nat} {st : List Value} {Q : Option Value × jW → Prop} {ls : jL} {w : jW} : Wp d 128 27 ls (st) w Q = Wp d 128 29 ls (.int (-4) :: st) w Q := Wp.alu e128_27 rfl rfl
theorem e128_29 : decode (j_co 128) 29 = .ok (.bipush (-4), 2) := by decide +kernel
set_option maxRecDepth 20000 in
theorem w128_29 {d : Nat} {st : List Value} {Q : Option Value × jW → Prop} {ls : jL} {w : jW} : Wp d 128 29 ls (st) w Q = Wp d 128 31 ls (.int (-4) :: st) w Q := Wp.alu e128_29 rfl rfl
theorem e128_31 : decode (j_co 128) 31 = .ok (.invokevirtual 149, 3) := by decide +kernel
set_option maxRecDepth 20000 in
theorem w128_31 {d : Nat} {st : List Value} {Q : Option Value × jW → Prop} {ls : jL} {xs : List Value} {I : fI} {L : fL} {r : Nat} {x0 : Int32} {x1 : Int32} {x2 : Int32} (hs : j_sumc st ≤ 8) (ht : f_tg r = 11) : Wp (d + 1) 128 31 ls (.int x2 :: .int x1 :: .int x0 :: .ref r :: st) (f_W xs I L) Q = Wp d 133 0 [some (.ref r), some (.int x0), some (.int x1), some (.int x2), none] [] (f_W xs I L) (fun r1 => Wp (d + 1) 128 34 ls (r1.1.toList ++ st) r1.2 Q) := Wp.cv (y' := 133) (as := [.int x0, .int x1, .int x2]) e128_31 rfl (by decide) rfl (show 4 ≤ 5 by decide) (by decide) hs ht
theorem e128_34 : decode (j_co 128) 34 = .ok (.aload_n 0, 1) := by decide +kernel
set_option maxRecDepth 20000 in
theorem w128_34 {d : Nat} {st : List Value} {Q : Option Value × jW → Prop} {w : jW} {a1 : Option Value} {x : Nat} : Wp d 128 34 [some (.ref x), a1] (st) w Q = Wp d 128 35 [some (.ref x), a1] (.ref x :: st) w Q := Wp.loc e128_34 rfl rfl rfl
theorem e128_35 : decode (j_co 128) 35 = .ok (.invokevirtual 175, 3) := by decide +kernel
set_option maxRecDepth 20000 in
theorem w128_35 {d : Nat} {st : List Value} {Q : Option Value × jW → Prop} {ls : jL} {xs : List Value} {I : fI} {L : fL} {r : Nat} (hs : j_sumc st ≤ 8) (ht : f_tg r = 11) : Wp (d + 1) 128 35 ls (.ref r :: st) (f_W xs I L) Q = Wp d 134 0 [some (.ref r), none] [] (f_W xs I L) (fun r1 => Wp (d + 1) 128 38 ls (r1.1.toList ++ st) r1.2 Q) := Wp.cv (y' := 134) (as := []) e128_35 rfl (by decide) rfl (show 1 ≤ 2 by decide) (by decide) hs ht
theorem e128_38 : decode (j_co 128) 38 = .ok (.istore_n 1, 1) := by decide +kernel
set_option maxRecDepth 20000 in
theorem w128_38 {d : Nat} {st : List Value} {Q : Option Value × jW → Prop} {w : jW} {a0 a1 : Option Value} {x : Int32} (h : j_cp a0) : Wp d 128 38 [a0, a1] (.int x :: st) w Q = Wp d 128 39 [a0, some (.int x)] (st) w Q := Wp.loc e128_38 rfl rfl (v_stI (ls := [a0, a1]) (k := 1) (show 1 < 2 by decide) h)
theorem e128_39 : decode (j_co 128) 39 = .ok (.iload_n 1, 1) := by decide +kernel
set_option maxRecDepth 20000 in
theorem w128_39 {d : Nat} {st : List Value} {Q : Option Value × jW → Prop} {w : jW} {a0 : Option Value} {x : Int32} : Wp d 128 39 [a0, some (.int x)] (st) w Q = Wp d 128 40 [a0, some (.int x)] (.int x :: st) w Q := Wp.loc e128_39 rfl rfl rfl
theorem e128_40 : decode (j_co 128) 40 = .ok (.bipush (-4), 2) := by decide +kernel
set_option maxRecDepth 20000 in
theorem w128_40 {d : Nat} {st : List Value} {Q : Option Value × jW → Prop} {ls : jL} {w : jW} : Wp d 128 40 ls (st) w Q = Wp d 128 42 ls (.int (-4) :: st) w Q := Wp.alu e128_40 rfl rfl
theorem e128_42 : decode (j_co 128) 42 = .ok (.if_icmp .eq 41, 3) := by decide +kernel
set_option maxRecDepth 20000 in
theorem w128_42 {d : Nat} {st : List Value} {Q : Option Value × jW → Prop} {ls : jL} {w : jW} {a b : Int32} : Wp d 128 42 ls (.int b :: .int a :: st) w Q = ((a = b → Wp d 128 83 ls st w Q) ∧ (¬ a = b → Wp d 128 45 ls st w Q)) := Wp.if2 (c := a = b) (off := 41) e128_42 rfl rfl rfl rfl rfl
theorem e128_45 : decode (j_co 128) 45 = .ok (.aload_n 0, 1) := by decide +kernel
set_option maxRecDepth 20000 in
theorem w128_45 {d : Nat} {st : List Value} {Q : Option Value × jW → Prop} {w : jW} {a1 : Option Value} {x : Nat} : Wp d 128 45 [some (.ref x), a1] (st) w Q = Wp d 128 46 [some (.ref x), a1] (.ref x :: st) w Q := Wp.loc e128_45 rfl rfl rfl
theorem e128_46 : decode (j_co 128) 46 = .ok (.getfield 145, 3) := by decide +kernel
set_option maxRecDepth 20000 in
theorem w128_46 {d : Nat} {st : List Value} {Q : Option Value × jW → Prop} {ls : jL} {xs : List Value} {I : fI} {L : fL} {o : Nat} (ht : f_tg o = 11) : Wp d 128 46 ls (.ref o :: st) (f_W xs I L) Q = Wp d 128 49 ls (.int (I o 24) :: st) (f_W xs I L) Q := Wp.getI (ci := 11) (k := 24) e128_46 rfl (by decide) (by decide) (by decide) ht
theorem e128_49 : decode (j_co 128) 49 = .ok (.ifCond .ne 34, 3) := by decide +kernel
set_option maxRecDepth 20000 in
theorem w128_49 {d : Nat} {st : List Value} {Q : Option Value × jW → Prop} {ls : jL} {w : jW} {a : Int32} : Wp d 128 49 ls (.int a :: st) w Q = ((a = nI 0 → Wp d 128 52 ls st w Q) ∧ (¬ a = nI 0 → Wp d 128 83 ls st w Q)) := Wp.if2n (c := a = nI 0) (off := 34) e128_49 rfl rfl rfl rfl rfl
theorem e128_52 : decode (j_co 128) 52 = .ok (.aload_n 0, 1) := by decide +kernel
set_option maxRecDepth 20000 in
theorem w128_52 {d : Nat} {st : List Value} {Q : Option Value × jW → Prop} {w : jW} {a1 : Option Value} {x : Nat} : Wp d 128 52 [some (.ref x), a1] (st) w Q = Wp d 128 53 [some (.ref x), a1] (.ref x :: st) w Q := Wp.loc e128_52 rfl rfl rfl
theorem e128_53 : decode (j_co 128) 53 = .ok (.getfield 156, 3) := by decide +kernel
set_option maxRecDepth 20000 in
theorem w128_53 {d : Nat} {st : List Value} {Q : Option Value × jW → Prop} {ls : jL} {xs : List Value} {I : fI} {L : fL} {o : Nat} (ht : f_tg o = 11) : Wp d 128 53 ls (.ref o :: st) (f_W xs I L) Q = Wp d 128 56 ls (.int (I o 23) :: st) (f_W xs I L) Q := Wp.getI (ci := 11) (k := 23) e128_53 rfl (by decide) (by decide) (by decide) ht
theorem e128_56 : decode (j_co 128) 56 = .ok (.sipush 500, 3) := by decide +kernel
set_option maxRecDepth 20000 in
theorem w128_56 {d : Nat} {st : List Value} {Q : Option Value × jW → Prop} {ls : jL} {w : jW} : Wp d 128 56 ls (st) w Q = Wp d 128 59 ls (.int (nI 500) :: st) w Q := Wp.alu e128_56 rfl rfl
theorem e128_59 : decode (j_co 128) 59 = .ok (.if_icmp .ne 11, 3) := by decide +kernel
set_option maxRecDepth 20000 in
theorem w128_59 {d : Nat} {st : List Value} {Q : Option Value × jW → Prop} {ls : jL} {w : jW} {a b : Int32} : Wp d 128 59 ls (.int b :: .int a :: st) w Q = ((a = b → Wp d 128 62 ls st w Q) ∧ (¬ a = b → Wp d 128 70 ls st w Q)) := Wp.if2n (c := a = b) (off := 11) e128_59 rfl rfl rfl rfl rfl
theorem e128_62 : decode (j_co 128) 62 = .ok (.aload_n 0, 1) := by decide +kernel
set_option maxRecDepth 20000 in
theorem w128_62 {d : Nat} {st : List Value} {Q : Option Value × jW → Prop} {w : jW} {a1 : Option Value} {x : Nat} : Wp d 128 62 [some (.ref x), a1] (st) w Q = Wp d 128 63 [some (.ref x), a1] (.ref x :: st) w Q := Wp.loc e128_62 rfl rfl rfl
theorem e128_63 : decode (j_co 128) 63 = .ok (.iconst 1, 1) := by decide +kernel
set_option maxRecDepth 20000 in
theorem w128_63 {d : Nat} {st : List Value} {Q : Option Value × jW → Prop} {ls : jL} {w : jW} : Wp d 128 63 ls (st) w Q = Wp d 128 64 ls (.int (nI 1) :: st) w Q := Wp.alu e128_63 rfl rfl
theorem e128_64 : decode (j_co 128) 64 = .ok (.putfield 145, 3) := by decide +kernel
set_option maxRecDepth 20000 in
theorem w128_64 {d : Nat} {st : List Value} {Q : Option Value × jW → Prop} {ls : jL} {xs : List Value} {I : fI} {L : fL} {o : Nat} {x : Int32} (ht : f_tg o = 11) (hx : x = 0 ∨ x = 1) : Wp d 128 64 ls (.int x :: .ref o :: st) (f_W xs I L) Q = Wp d 128 67 ls (st) (f_W xs (f_up I o 24 x) L) Q := Wp.putI (ci := 11) (k := 24) e128_64 rfl (by decide) (by decide) (by rcases hx with rfl | rfl <;> rfl) (by decide) ht
theorem e128_67 : decode (j_co 128) 67 = .ok (.goto (-28), 3) := by decide +kernel
set_option maxRecDepth 20000 in
theorem w128_67 {d : Nat} {st : List Value} {Q : Option Value × jW → Prop} {ls : jL} {w : jW} : Wp d 128 67 ls (st) w Q = Wp d 128 39 ls (st) w Q := Wp.br e128_67 (Or.inl rfl) rfl rfl rfl rfl
theorem e128_70 : decode (j_co 128) 70 = .ok (.aload_n 0, 1) := by decide +kernel
set_option maxRecDepth 20000 in
theorem w128_70 {d : Nat} {st : List Value} {Q : Option Value × jW → Prop} {w : jW} {a1 : Option Value} {x : Nat} : Wp d 128 70 [some (.ref x), a1] (st) w Q = Wp d 128 71 [some (.ref x), a1] (.ref x :: st) w Q := Wp.loc e128_70 rfl rfl rfl
theorem e128_71 : decode (j_co 128) 71 = .ok (.iload_n 1, 1) := by decide +kernel
set_option maxRecDepth 20000 in
theorem w128_71 {d : Nat} {st : List Value} {Q : Option Value × jW → Prop} {w : jW} {a0 : Option Value} {x : Int32} : Wp d 128 71 [a0, some (.int x)] (st) w Q = Wp d 128 72 [a0, some (.int x)] (.int x :: st) w Q := Wp.loc e128_71 rfl rfl rfl
theorem e128_72 : decode (j_co 128) 72 = .ok (.invokevirtual 179, 3) := by decide +kernel
set_option maxRecDepth 20000 in
theorem w128_72 {d : Nat} {st : List Value} {Q : Option Value × jW → Prop} {ls : jL} {xs : List Value} {I : fI} {L : fL} {r : Nat} {x0 : Int32} (hs : j_sumc st ≤ 8) (ht : f_tg r = 11) : Wp (d + 1) 128 72 ls (.int x0 :: .ref r :: st) (f_W xs I L) Q = Wp d 135 0 [some (.ref r), some (.int x0), none, none] [] (f_W xs I L) (fun r1 => Wp (d + 1) 128 75 ls (r1.1.toList ++ st) r1.2 Q) := Wp.cv (y' := 135) (as := [.int x0]) e128_72 rfl (by decide) rfl (show 2 ≤ 4 by decide) (by decide) hs ht
theorem e128_75 : decode (j_co 128) 75 = .ok (.aload_n 0, 1) := by decide +kernel
set_option maxRecDepth 20000 in
theorem w128_75 {d : Nat} {st : List Value} {Q : Option Value × jW → Prop} {w : jW} {a1 : Option Value} {x : Nat} : Wp d 128 75 [some (.ref x), a1] (st) w Q = Wp d 128 76 [some (.ref x), a1] (.ref x :: st) w Q := Wp.loc e128_75 rfl rfl rfl
theorem e128_76 : decode (j_co 128) 76 = .ok (.invokevirtual 175, 3) := by decide +kernel
set_option maxRecDepth 20000 in
theorem w128_76 {d : Nat} {st : List Value} {Q : Option Value × jW → Prop} {ls : jL} {xs : List Value} {I : fI} {L : fL} {r : Nat} (hs : j_sumc st ≤ 8) (ht : f_tg r = 11) : Wp (d + 1) 128 76 ls (.ref r :: st) (f_W xs I L) Q = Wp d 134 0 [some (.ref r), none] [] (f_W xs I L) (fun r1 => Wp (d + 1) 128 79 ls (r1.1.toList ++ st) r1.2 Q) := Wp.cv (y' := 134) (as := []) e128_76 rfl (by decide) rfl (show 1 ≤ 2 by decide) (by decide) hs ht
theorem e128_79 : decode (j_co 128) 79 = .ok (.istore_n 1, 1) := by decide +kernel
set_option maxRecDepth 20000 in
theorem w128_79 {d : Nat} {st : List Value} {Q : Option Value × jW → Prop} {w : jW} {a0 a1 : Option Value} {x : Int32} (h : j_cp a0) : Wp d 128 79 [a0, a1] (.int x :: st) w Q = Wp d 128 80 [a0, some (.int x)] (st) w Q := Wp.loc e128_79 rfl rfl (v_stI (ls := [a0, a1]) (k := 1) (show 1 < 2 by decide) h)
theorem e128_80 : decode (j_co 128) 80 = .ok (.goto (-41), 3) := by decide +kernel
set_option maxRecDepth 20000 in
theorem w128_80 {d : Nat} {st : List Value} {Q : Option Value × jW → Prop} {ls : jL} {w : jW} : Wp d 128 80 ls (st) w Q = Wp d 128 39 ls (st) w Q := Wp.br e128_80 (Or.inl rfl) rfl rfl rfl rfl
theorem e128_83 : decode (j_co 128) 83 = .ok (.return_, 1) := by decide +kernel
set_option maxRecDepth 20000 in
theorem w128_83 {d : Nat} {Q : Option Value × jW → Prop} {ls : jL} {w : jW} : Wp d 128 83 ls [] w Q = Q (none, w) := Wp.ret e128_83 rfl
/-! M.startBox -/
theorem e129_0 : decode (j_co 129) 0 = .ok (.aload_n 0, 1) := by decide +kernel
set_option maxRecDepth 20000 in
theorem w129_0 {d : Nat} {st : List Value} {Q : Option Value × jW → Prop} {w : jW} {x : Nat} : Wp d 129 0 [some (.ref x)] (st) w Q = Wp d 129 1 [some (.ref x)] (.ref x :: st) w Q := Wp.loc e129_0 rfl rfl rfl
theorem e129_1 : decode (j_co 129) 1 = .ok (.aload_n 0, 1) := by decide +kernel
set_option maxRecDepth 20000 in
theorem w129_1 {d : Nat} {st : List Value} {Q : Option Value × jW → Prop} {w : jW} {x : Nat} : Wp d 129 1 [some (.ref x)] (st) w Q = Wp d 129 2 [some (.ref x)] (.ref x :: st) w Q := Wp.loc e129_1 rfl rfl rfl
theorem e129_2 : decode (j_co 129) 2 = .ok (.getfield 36, 3) := by decide +kernel
set_option maxRecDepth 20000 in
theorem w129_2 {d : Nat} {st : List Value} {Q : Option Value × jW → Prop} {ls : jL} {xs : List Value} {I : fI} {L : fL} {o : Nat} (ht : f_tg o = 11) : Wp d 129 2 ls (.ref o :: st) (f_W xs I L) Q = Wp d 129 5 ls (.ref (f_rf o 11) :: st) (f_W xs I L) Q := Wp.getR (ci := 11) (k := 11) e129_2 rfl (by decide) (by decide) rfl ht
theorem e129_5 : decode (j_co 129) 5 = .ok (.iconst 0, 1) := by decide +kernel
set_option maxRecDepth 20000 in
theorem w129_5 {d : Nat} {st : List Value} {Q : Option Value × jW → Prop} {ls : jL} {w : jW} : Wp d 129 5 ls (st) w Q = Wp d 129 6 ls (.int (nI 0) :: st) w Q := Wp.alu e129_5 rfl rfl
theorem e129_6 : decode (j_co 129) 6 = .ok (.invokevirtual 159, 3) := by decide +kernel
set_option maxRecDepth 20000 in
theorem w129_6 {d : Nat} {st : List Value} {Q : Option Value × jW → Prop} {ls : jL} {xs : List Value} {I : fI} {L : fL} {r : Nat} {x0 : Nat} {x1 : Int32} (hs : j_sumc st ≤ 8) (ht : f_tg r = 11) : Wp (d + 1) 129 6 ls (.int x1 :: .ref x0 :: .ref r :: st) (f_W xs I L) Q = Wp d 130 0 [some (.ref r), some (.ref x0), some (.int x1), none] [] (f_W xs I L) (fun r1 => Wp (d + 1) 129 9 ls (r1.1.toList ++ st) r1.2 Q) := Wp.cv (y' := 130) (as := [.ref x0, .int x1]) e129_6 rfl (by decide) rfl (show 3 ≤ 4 by decide) (by decide) hs ht
theorem e129_9 : decode (j_co 129) 9 = .ok (.aload_n 0, 1) := by decide +kernel
set_option maxRecDepth 20000 in
theorem w129_9 {d : Nat} {st : List Value} {Q : Option Value × jW → Prop} {w : jW} {x : Nat} : Wp d 129 9 [some (.ref x)] (st) w Q = Wp d 129 10 [some (.ref x)] (.ref x :: st) w Q := Wp.loc e129_9 rfl rfl rfl
theorem e129_10 : decode (j_co 129) 10 = .ok (.aload_n 0, 1) := by decide +kernel
set_option maxRecDepth 20000 in
theorem w129_10 {d : Nat} {st : List Value} {Q : Option Value × jW → Prop} {w : jW} {x : Nat} : Wp d 129 10 [some (.ref x)] (st) w Q = Wp d 129 11 [some (.ref x)] (.ref x :: st) w Q := Wp.loc e129_10 rfl rfl rfl
theorem e129_11 : decode (j_co 129) 11 = .ok (.getfield 123, 3) := by decide +kernel
set_option maxRecDepth 20000 in
theorem w129_11 {d : Nat} {st : List Value} {Q : Option Value × jW → Prop} {ls : jL} {xs : List Value} {I : fI} {L : fL} {o : Nat} (ht : f_tg o = 11) : Wp d 129 11 ls (.ref o :: st) (f_W xs I L) Q = Wp d 129 14 ls (.int (I o 9) :: st) (f_W xs I L) Q := Wp.getI (ci := 11) (k := 9) e129_11 rfl (by decide) (by decide) (by decide) ht
theorem e129_14 : decode (j_co 129) 14 = .ok (.invokevirtual 106, 3) := by decide +kernel
set_option maxRecDepth 20000 in
theorem w129_14 {d : Nat} {st : List Value} {Q : Option Value × jW → Prop} {ls : jL} {xs : List Value} {I : fI} {L : fL} {r : Nat} {x0 : Int32} (hs : j_sumc st ≤ 8) (ht : f_tg r = 11) : Wp (d + 1) 129 14 ls (.int x0 :: .ref r :: st) (f_W xs I L) Q = Wp d 114 0 [some (.ref r), some (.int x0)] [] (f_W xs I L) (fun r1 => Wp (d + 1) 129 17 ls (r1.1.toList ++ st) r1.2 Q) := Wp.cv (y' := 114) (as := [.int x0]) e129_14 rfl (by decide) rfl (show 2 ≤ 2 by decide) (by decide) hs ht
theorem e129_17 : decode (j_co 129) 17 = .ok (.ifCond .ne 5, 3) := by decide +kernel
set_option maxRecDepth 20000 in
theorem w129_17 {d : Nat} {st : List Value} {Q : Option Value × jW → Prop} {ls : jL} {w : jW} {a : Int32} : Wp d 129 17 ls (.int a :: st) w Q = ((a = nI 0 → Wp d 129 20 ls st w Q) ∧ (¬ a = nI 0 → Wp d 129 22 ls st w Q)) := Wp.if2n (c := a = nI 0) (off := 5) e129_17 rfl rfl rfl rfl rfl
theorem e129_20 : decode (j_co 129) 20 = .ok (.iconst 0, 1) := by decide +kernel
set_option maxRecDepth 20000 in
theorem w129_20 {d : Nat} {st : List Value} {Q : Option Value × jW → Prop} {ls : jL} {w : jW} : Wp d 129 20 ls (st) w Q = Wp d 129 21 ls (.int (nI 0) :: st) w Q := Wp.alu e129_20 rfl rfl
theorem e129_21 : decode (j_co 129) 21 = .ok (.ireturn, 1) := by decide +kernel
set_option maxRecDepth 20000 in
theorem w129_21 {d : Nat} {Q : Option Value × jW → Prop} {ls : jL} {w : jW} {x : Int32} (hx : x = 0 ∨ x = 1) : Wp d 129 21 ls [.int x] w Q = Q (some (.int x), w) := Wp.ret e129_21 (by rcases hx with rfl | rfl <;> rfl)
theorem e129_22 : decode (j_co 129) 22 = .ok (.aload_n 0, 1) := by decide +kernel
set_option maxRecDepth 20000 in
theorem w129_22 {d : Nat} {st : List Value} {Q : Option Value × jW → Prop} {w : jW} {x : Nat} : Wp d 129 22 [some (.ref x)] (st) w Q = Wp d 129 23 [some (.ref x)] (.ref x :: st) w Q := Wp.loc e129_22 rfl rfl rfl
theorem e129_23 : decode (j_co 129) 23 = .ok (.aload_n 0, 1) := by decide +kernel
set_option maxRecDepth 20000 in
theorem w129_23 {d : Nat} {st : List Value} {Q : Option Value × jW → Prop} {w : jW} {x : Nat} : Wp d 129 23 [some (.ref x)] (st) w Q = Wp d 129 24 [some (.ref x)] (.ref x :: st) w Q := Wp.loc e129_23 rfl rfl rfl
theorem e129_24 : decode (j_co 129) 24 = .ok (.getfield 7, 3) := by decide +kernel
set_option maxRecDepth 20000 in
theorem w129_24 {d : Nat} {st : List Value} {Q : Option Value × jW → Prop} {ls : jL} {xs : List Value} {I : fI} {L : fL} {o : Nat} (ht : f_tg o = 11) : Wp d 129 24 ls (.ref o :: st) (f_W xs I L) Q = Wp d 129 27 ls (.ref (f_rf o 1) :: st) (f_W xs I L) Q := Wp.getR (ci := 11) (k := 1) e129_24 rfl (by decide) (by decide) rfl ht
theorem e129_27 : decode (j_co 129) 27 = .ok (.bipush 6, 2) := by decide +kernel
set_option maxRecDepth 20000 in
theorem w129_27 {d : Nat} {st : List Value} {Q : Option Value × jW → Prop} {ls : jL} {w : jW} : Wp d 129 27 ls (st) w Q = Wp d 129 29 ls (.int (nI 6) :: st) w Q := Wp.alu e129_27 rfl rfl
theorem e129_29 : decode (j_co 129) 29 = .ok (.aload_n 0, 1) := by decide +kernel
set_option maxRecDepth 20000 in
theorem w129_29 {d : Nat} {st : List Value} {Q : Option Value × jW → Prop} {w : jW} {x : Nat} : Wp d 129 29 [some (.ref x)] (st) w Q = Wp d 129 30 [some (.ref x)] (.ref x :: st) w Q := Wp.loc e129_29 rfl rfl rfl
theorem e129_30 : decode (j_co 129) 30 = .ok (.getfield 123, 3) := by decide +kernel
set_option maxRecDepth 20000 in
theorem w129_30 {d : Nat} {st : List Value} {Q : Option Value × jW → Prop} {ls : jL} {xs : List Value} {I : fI} {L : fL} {o : Nat} (ht : f_tg o = 11) : Wp d 129 30 ls (.ref o :: st) (f_W xs I L) Q = Wp d 129 33 ls (.int (I o 9) :: st) (f_W xs I L) Q := Wp.getI (ci := 11) (k := 9) e129_30 rfl (by decide) (by decide) (by decide) ht
theorem e129_33 : decode (j_co 129) 33 = .ok (.imul, 1) := by decide +kernel
set_option maxRecDepth 20000 in
theorem w129_33 {d : Nat} {st : List Value} {Q : Option Value × jW → Prop} {ls : jL} {w : jW} {a b : Int32} : Wp d 129 33 ls (.int b :: .int a :: st) w Q = Wp d 129 34 ls (.int (a * b) :: st) w Q := Wp.alu e129_33 rfl rfl
theorem e129_34 : decode (j_co 129) 34 = .ok (.invokevirtual 128, 3) := by decide +kernel
set_option maxRecDepth 20000 in
theorem w129_34 {d : Nat} {st : List Value} {Q : Option Value × jW → Prop} {ls : jL} {xs : List Value} {I : fI} {L : fL} {r : Nat} {x0 : Nat} {x1 : Int32} (hs : j_sumc st ≤ 8) (ht : f_tg r = 11) : Wp (d + 1) 129 34 ls (.int x1 :: .ref x0 :: .ref r :: st) (f_W xs I L) Q = Wp d 131 0 [some (.ref r), some (.ref x0), some (.int x1), none, none, none] [] (f_W xs I L) (fun r1 => Wp (d + 1) 129 37 ls (r1.1.toList ++ st) r1.2 Q) := Wp.cv (y' := 131) (as := [.ref x0, .int x1]) e129_34 rfl (by decide) rfl (show 3 ≤ 6 by decide) (by decide) hs ht
theorem e129_37 : decode (j_co 129) 37 = .ok (.aload_n 0, 1) := by decide +kernel
set_option maxRecDepth 20000 in
theorem w129_37 {d : Nat} {st : List Value} {Q : Option Value × jW → Prop} {w : jW} {x : Nat} : Wp d 129 37 [some (.ref x)] (st) w Q = Wp d 129 38 [some (.ref x)] (.ref x :: st) w Q := Wp.loc e129_37 rfl rfl rfl
theorem e129_38 : decode (j_co 129) 38 = .ok (.invokevirtual 131, 3) := by decide +kernel
set_option maxRecDepth 20000 in
theorem w129_38 {d : Nat} {st : List Value} {Q : Option Value × jW → Prop} {ls : jL} {xs : List Value} {I : fI} {L : fL} {r : Nat} (hs : j_sumc st ≤ 8) (ht : f_tg r = 11) : Wp (d + 1) 129 38 ls (.ref r :: st) (f_W xs I L) Q = Wp d 132 0 [some (.ref r)] [] (f_W xs I L) (fun r1 => Wp (d + 1) 129 41 ls (r1.1.toList ++ st) r1.2 Q) := Wp.cv (y' := 132) (as := []) e129_38 rfl (by decide) rfl (show 1 ≤ 1 by decide) (by decide) hs ht
theorem e129_41 : decode (j_co 129) 41 = .ok (.ifCond .ne 7, 3) := by decide +kernel
set_option maxRecDepth 20000 in
theorem w129_41 {d : Nat} {st : List Value} {Q : Option Value × jW → Prop} {ls : jL} {w : jW} {a : Int32} : Wp d 129 41 ls (.int a :: st) w Q = ((a = nI 0 → Wp d 129 44 ls st w Q) ∧ (¬ a = nI 0 → Wp d 129 48 ls st w Q)) := Wp.if2n (c := a = nI 0) (off := 7) e129_41 rfl rfl rfl rfl rfl
theorem e129_44 : decode (j_co 129) 44 = .ok (.iconst 1, 1) := by decide +kernel
set_option maxRecDepth 20000 in
theorem w129_44 {d : Nat} {st : List Value} {Q : Option Value × jW → Prop} {ls : jL} {w : jW} : Wp d 129 44 ls (st) w Q = Wp d 129 45 ls (.int (nI 1) :: st) w Q := Wp.alu e129_44 rfl rfl
theorem e129_45 : decode (j_co 129) 45 = .ok (.goto 4, 3) := by decide +kernel
set_option maxRecDepth 20000 in
theorem w129_45 {d : Nat} {st : List Value} {Q : Option Value × jW → Prop} {ls : jL} {w : jW} : Wp d 129 45 ls (st) w Q = Wp d 129 49 ls (st) w Q := Wp.br e129_45 (Or.inl rfl) rfl rfl rfl rfl
theorem e129_48 : decode (j_co 129) 48 = .ok (.iconst 0, 1) := by decide +kernel
set_option maxRecDepth 20000 in
theorem w129_48 {d : Nat} {st : List Value} {Q : Option Value × jW → Prop} {ls : jL} {w : jW} : Wp d 129 48 ls (st) w Q = Wp d 129 49 ls (.int (nI 0) :: st) w Q := Wp.alu e129_48 rfl rfl
theorem e129_49 : decode (j_co 129) 49 = .ok (.ireturn, 1) := by decide +kernel
set_option maxRecDepth 20000 in
theorem w129_49 {d : Nat} {Q : Option Value × jW → Prop} {ls : jL} {w : jW} {x : Int32} (hx : x = 0 ∨ x = 1) : Wp d 129 49 ls [.int x] w Q = Q (some (.int x), w) := Wp.ret e129_49 (by rcases hx with rfl | rfl <;> rfl)
/-! M.take -/
theorem e130_0 : decode (j_co 130) 0 = .ok (.iconst 0, 1) := by decide +kernel
set_option maxRecDepth 20000 in
theorem w130_0 {d : Nat} {st : List Value} {Q : Option Value × jW → Prop} {ls : jL} {w : jW} : Wp d 130 0 ls (st) w Q = Wp d 130 1 ls (.int (nI 0) :: st) w Q := Wp.alu e130_0 rfl rfl
theorem e130_1 : decode (j_co 130) 1 = .ok (.istore_n 3, 1) := by decide +kernel
set_option maxRecDepth 20000 in
theorem w130_1 {d : Nat} {st : List Value} {Q : Option Value × jW → Prop} {w : jW} {a0 a1 a2 a3 : Option Value} {x : Int32} (h : j_cp a2) : Wp d 130 1 [a0, a1, a2, a3] (.int x :: st) w Q = Wp d 130 2 [a0, a1, a2, some (.int x)] (st) w Q := Wp.loc e130_1 rfl rfl (v_stI (ls := [a0, a1, a2, a3]) (k := 3) (show 3 < 4 by decide) h)
theorem e130_2 : decode (j_co 130) 2 = .ok (.iload_n 3, 1) := by decide +kernel
set_option maxRecDepth 20000 in
theorem w130_2 {d : Nat} {st : List Value} {Q : Option Value × jW → Prop} {w : jW} {a0 a1 a2 : Option Value} {x : Int32} : Wp d 130 2 [a0, a1, a2, some (.int x)] (st) w Q = Wp d 130 3 [a0, a1, a2, some (.int x)] (.int x :: st) w Q := Wp.loc e130_2 rfl rfl rfl
theorem e130_3 : decode (j_co 130) 3 = .ok (.bipush 6, 2) := by decide +kernel
set_option maxRecDepth 20000 in
theorem w130_3 {d : Nat} {st : List Value} {Q : Option Value × jW → Prop} {ls : jL} {w : jW} : Wp d 130 3 ls (st) w Q = Wp d 130 5 ls (.int (nI 6) :: st) w Q := Wp.alu e130_3 rfl rfl
theorem e130_5 : decode (j_co 130) 5 = .ok (.if_icmp .ge 20, 3) := by decide +kernel
set_option maxRecDepth 20000 in
theorem w130_5 {d : Nat} {st : List Value} {Q : Option Value × jW → Prop} {ls : jL} {w : jW} {a b : Int32} : Wp d 130 5 ls (.int b :: .int a :: st) w Q = ((b ≤ a → Wp d 130 25 ls st w Q) ∧ (¬ b ≤ a → Wp d 130 8 ls st w Q)) := Wp.if2 (c := b ≤ a) (off := 20) e130_5 rfl rfl rfl rfl rfl
theorem e130_8 : decode (j_co 130) 8 = .ok (.aload_n 0, 1) := by decide +kernel
set_option maxRecDepth 20000 in
theorem w130_8 {d : Nat} {st : List Value} {Q : Option Value × jW → Prop} {w : jW} {a1 a2 a3 : Option Value} {x : Nat} : Wp d 130 8 [some (.ref x), a1, a2, a3] (st) w Q = Wp d 130 9 [some (.ref x), a1, a2, a3] (.ref x :: st) w Q := Wp.loc e130_8 rfl rfl rfl
theorem e130_9 : decode (j_co 130) 9 = .ok (.getfield 48, 3) := by decide +kernel
set_option maxRecDepth 20000 in
theorem w130_9 {d : Nat} {st : List Value} {Q : Option Value × jW → Prop} {ls : jL} {xs : List Value} {I : fI} {L : fL} {o : Nat} (ht : f_tg o = 11) : Wp d 130 9 ls (.ref o :: st) (f_W xs I L) Q = Wp d 130 12 ls (.ref (f_rf o 15) :: st) (f_W xs I L) Q := Wp.getR (ci := 11) (k := 15) e130_9 rfl (by decide) (by decide) rfl ht
theorem e130_12 : decode (j_co 130) 12 = .ok (.iload_n 3, 1) := by decide +kernel
set_option maxRecDepth 20000 in
theorem w130_12 {d : Nat} {st : List Value} {Q : Option Value × jW → Prop} {w : jW} {a0 a1 a2 : Option Value} {x : Int32} : Wp d 130 12 [a0, a1, a2, some (.int x)] (st) w Q = Wp d 130 13 [a0, a1, a2, some (.int x)] (.int x :: st) w Q := Wp.loc e130_12 rfl rfl rfl
theorem e130_13 : decode (j_co 130) 13 = .ok (.aload_n 1, 1) := by decide +kernel
set_option maxRecDepth 20000 in
theorem w130_13 {d : Nat} {st : List Value} {Q : Option Value × jW → Prop} {w : jW} {a0 a2 a3 : Option Value} {x : Nat} : Wp d 130 13 [a0, some (.ref x), a2, a3] (st) w Q = Wp d 130 14 [a0, some (.ref x), a2, a3] (.ref x :: st) w Q := Wp.loc e130_13 rfl rfl rfl
theorem e130_14 : decode (j_co 130) 14 = .ok (.iload_n 2, 1) := by decide +kernel
set_option maxRecDepth 20000 in
theorem w130_14 {d : Nat} {st : List Value} {Q : Option Value × jW → Prop} {w : jW} {a0 a1 a3 : Option Value} {x : Int32} : Wp d 130 14 [a0, a1, some (.int x), a3] (st) w Q = Wp d 130 15 [a0, a1, some (.int x), a3] (.int x :: st) w Q := Wp.loc e130_14 rfl rfl rfl
theorem e130_15 : decode (j_co 130) 15 = .ok (.iload_n 3, 1) := by decide +kernel
set_option maxRecDepth 20000 in
theorem w130_15 {d : Nat} {st : List Value} {Q : Option Value × jW → Prop} {w : jW} {a0 a1 a2 : Option Value} {x : Int32} : Wp d 130 15 [a0, a1, a2, some (.int x)] (st) w Q = Wp d 130 16 [a0, a1, a2, some (.int x)] (.int x :: st) w Q := Wp.loc e130_15 rfl rfl rfl
theorem e130_16 : decode (j_co 130) 16 = .ok (.iadd, 1) := by decide +kernel
set_option maxRecDepth 20000 in
theorem w130_16 {d : Nat} {st : List Value} {Q : Option Value × jW → Prop} {ls : jL} {w : jW} {a b : Int32} : Wp d 130 16 ls (.int b :: .int a :: st) w Q = Wp d 130 17 ls (.int (a + b) :: st) w Q := Wp.alu e130_16 rfl rfl
theorem e130_17 : decode (j_co 130) 17 = .ok (.iaload, 1) := by decide +kernel
set_option maxRecDepth 20000 in
theorem w130_17 {d : Nat} {st : List Value} {Q : Option Value × jW → Prop} {ls : jL} {xs : List Value} {I : fI} {L : fL} {o : Nat} {i : Int32} (ht : f_tg o = 100) (hi : ¬ (i < 0 ∨ f_ln o ≤ i.toNatClampNeg)) : Wp d 130 17 ls (.int i :: .ref o :: st) (f_W xs I L) Q = Wp d 130 18 ls (.int (I o i.toNatClampNeg) :: st) (f_W xs I L) Q := Wp.iald e130_17 ht hi
theorem e130_18 : decode (j_co 130) 18 = .ok (.iastore, 1) := by decide +kernel
set_option maxRecDepth 20000 in
theorem w130_18 {d : Nat} {st : List Value} {Q : Option Value × jW → Prop} {ls : jL} {xs : List Value} {I : fI} {L : fL} {o : Nat} {i x : Int32} (ht : f_tg o = 100) (hi : ¬ (i < 0 ∨ f_ln o ≤ i.toNatClampNeg)) : Wp d 130 18 ls (.int x :: .int i :: .ref o :: st) (f_W xs I L) Q = Wp d 130 19 ls (st) (f_W xs (f_up I o i.toNatClampNeg x) L) Q := Wp.iast e130_18 ht hi
theorem e130_19 : decode (j_co 130) 19 = .ok (.iinc 3 1, 3) := by decide +kernel
set_option maxRecDepth 20000 in
theorem w130_19 {d : Nat} {st : List Value} {Q : Option Value × jW → Prop} {w : jW} {a0 a1 a2 : Option Value} {x : Int32} (h : j_cp a2) : Wp d 130 19 [a0, a1, a2, some (.int x)] (st) w Q = Wp d 130 22 [a0, a1, a2, some (.int (x + nI 1))] (st) w Q := Wp.loc e130_19 rfl rfl (v_inc (ls := [a0, a1, a2, some (.int x)]) (k := 3) (n := 1) rfl (show 3 < 4 by decide) h)
theorem e130_22 : decode (j_co 130) 22 = .ok (.goto (-20), 3) := by decide +kernel
set_option maxRecDepth 20000 in
theorem w130_22 {d : Nat} {st : List Value} {Q : Option Value × jW → Prop} {ls : jL} {w : jW} : Wp d 130 22 ls (st) w Q = Wp d 130 2 ls (st) w Q := Wp.br e130_22 (Or.inl rfl) rfl rfl rfl rfl
theorem e130_25 : decode (j_co 130) 25 = .ok (.return_, 1) := by decide +kernel
set_option maxRecDepth 20000 in
theorem w130_25 {d : Nat} {Q : Option Value × jW → Prop} {ls : jL} {w : jW} : Wp d 130 25 ls [] w Q = Q (none, w) := Wp.ret e130_25 rfl
/-! M.cut -/
theorem e131_0 : decode (j_co 131) 0 = .ok (.iconst 0, 1) := by decide +kernel
set_option maxRecDepth 20000 in
theorem w131_0 {d : Nat} {st : List Value} {Q : Option Value × jW → Prop} {ls : jL} {w : jW} : Wp d 131 0 ls (st) w Q = Wp d 131 1 ls (.int (nI 0) :: st) w Q := Wp.alu e131_0 rfl rfl
theorem e131_1 : decode (j_co 131) 1 = .ok (.istore_n 3, 1) := by decide +kernel
set_option maxRecDepth 20000 in
theorem w131_1 {d : Nat} {st : List Value} {Q : Option Value × jW → Prop} {w : jW} {a0 a1 a2 a3 a4 a5 : Option Value} {x : Int32} (h : j_cp a2) : Wp d 131 1 [a0, a1, a2, a3, a4, a5] (.int x :: st) w Q = Wp d 131 2 [a0, a1, a2, some (.int x), a4, a5] (st) w Q := Wp.loc e131_1 rfl rfl (v_stI (ls := [a0, a1, a2, a3, a4, a5]) (k := 3) (show 3 < 6 by decide) h)
theorem e131_2 : decode (j_co 131) 2 = .ok (.iload_n 3, 1) := by decide +kernel
set_option maxRecDepth 20000 in
theorem w131_2 {d : Nat} {st : List Value} {Q : Option Value × jW → Prop} {w : jW} {a0 a1 a2 a4 a5 : Option Value} {x : Int32} : Wp d 131 2 [a0, a1, a2, some (.int x), a4, a5] (st) w Q = Wp d 131 3 [a0, a1, a2, some (.int x), a4, a5] (.int x :: st) w Q := Wp.loc e131_2 rfl rfl rfl
theorem e131_3 : decode (j_co 131) 3 = .ok (.iconst 3, 1) := by decide +kernel
set_option maxRecDepth 20000 in
theorem w131_3 {d : Nat} {st : List Value} {Q : Option Value × jW → Prop} {ls : jL} {w : jW} : Wp d 131 3 ls (st) w Q = Wp d 131 4 ls (.int (nI 3) :: st) w Q := Wp.alu e131_3 rfl rfl
theorem e131_4 : decode (j_co 131) 4 = .ok (.if_icmp .ge 103, 3) := by decide +kernel
set_option maxRecDepth 20000 in
theorem w131_4 {d : Nat} {st : List Value} {Q : Option Value × jW → Prop} {ls : jL} {w : jW} {a b : Int32} : Wp d 131 4 ls (.int b :: .int a :: st) w Q = ((b ≤ a → Wp d 131 107 ls st w Q) ∧ (¬ b ≤ a → Wp d 131 7 ls st w Q)) := Wp.if2 (c := b ≤ a) (off := 103) e131_4 rfl rfl rfl rfl rfl
theorem e131_7 : decode (j_co 131) 7 = .ok (.aload_n 1, 1) := by decide +kernel
set_option maxRecDepth 20000 in
theorem w131_7 {d : Nat} {st : List Value} {Q : Option Value × jW → Prop} {w : jW} {a0 a2 a3 a4 a5 : Option Value} {x : Nat} : Wp d 131 7 [a0, some (.ref x), a2, a3, a4, a5] (st) w Q = Wp d 131 8 [a0, some (.ref x), a2, a3, a4, a5] (.ref x :: st) w Q := Wp.loc e131_7 rfl rfl rfl
theorem e131_8 : decode (j_co 131) 8 = .ok (.iload_n 2, 1) := by decide +kernel
set_option maxRecDepth 20000 in
theorem w131_8 {d : Nat} {st : List Value} {Q : Option Value × jW → Prop} {w : jW} {a0 a1 a3 a4 a5 : Option Value} {x : Int32} : Wp d 131 8 [a0, a1, some (.int x), a3, a4, a5] (st) w Q = Wp d 131 9 [a0, a1, some (.int x), a3, a4, a5] (.int x :: st) w Q := Wp.loc e131_8 rfl rfl rfl
theorem e131_9 : decode (j_co 131) 9 = .ok (.iconst 2, 1) := by decide +kernel
set_option maxRecDepth 20000 in
theorem w131_9 {d : Nat} {st : List Value} {Q : Option Value × jW → Prop} {ls : jL} {w : jW} : Wp d 131 9 ls (st) w Q = Wp d 131 10 ls (.int (nI 2) :: st) w Q := Wp.alu e131_9 rfl rfl
theorem e131_10 : decode (j_co 131) 10 = .ok (.iload_n 3, 1) := by decide +kernel
set_option maxRecDepth 20000 in
theorem w131_10 {d : Nat} {st : List Value} {Q : Option Value × jW → Prop} {w : jW} {a0 a1 a2 a4 a5 : Option Value} {x : Int32} : Wp d 131 10 [a0, a1, a2, some (.int x), a4, a5] (st) w Q = Wp d 131 11 [a0, a1, a2, some (.int x), a4, a5] (.int x :: st) w Q := Wp.loc e131_10 rfl rfl rfl
theorem e131_11 : decode (j_co 131) 11 = .ok (.imul, 1) := by decide +kernel
set_option maxRecDepth 20000 in
theorem w131_11 {d : Nat} {st : List Value} {Q : Option Value × jW → Prop} {ls : jL} {w : jW} {a b : Int32} : Wp d 131 11 ls (.int b :: .int a :: st) w Q = Wp d 131 12 ls (.int (a * b) :: st) w Q := Wp.alu e131_11 rfl rfl
theorem e131_12 : decode (j_co 131) 12 = .ok (.iadd, 1) := by decide +kernel
set_option maxRecDepth 20000 in
theorem w131_12 {d : Nat} {st : List Value} {Q : Option Value × jW → Prop} {ls : jL} {w : jW} {a b : Int32} : Wp d 131 12 ls (.int b :: .int a :: st) w Q = Wp d 131 13 ls (.int (a + b) :: st) w Q := Wp.alu e131_12 rfl rfl
theorem e131_13 : decode (j_co 131) 13 = .ok (.iaload, 1) := by decide +kernel
set_option maxRecDepth 20000 in
theorem w131_13 {d : Nat} {st : List Value} {Q : Option Value × jW → Prop} {ls : jL} {xs : List Value} {I : fI} {L : fL} {o : Nat} {i : Int32} (ht : f_tg o = 100) (hi : ¬ (i < 0 ∨ f_ln o ≤ i.toNatClampNeg)) : Wp d 131 13 ls (.int i :: .ref o :: st) (f_W xs I L) Q = Wp d 131 14 ls (.int (I o i.toNatClampNeg) :: st) (f_W xs I L) Q := Wp.iald e131_13 ht hi
theorem e131_14 : decode (j_co 131) 14 = .ok (.istore 4, 2) := by decide +kernel
set_option maxRecDepth 20000 in
theorem w131_14 {d : Nat} {st : List Value} {Q : Option Value × jW → Prop} {w : jW} {a0 a1 a2 a3 a4 a5 : Option Value} {x : Int32} (h : j_cp a3) : Wp d 131 14 [a0, a1, a2, a3, a4, a5] (.int x :: st) w Q = Wp d 131 16 [a0, a1, a2, a3, some (.int x), a5] (st) w Q := Wp.loc e131_14 rfl rfl (v_stI (ls := [a0, a1, a2, a3, a4, a5]) (k := 4) (show 4 < 6 by decide) h)
theorem e131_16 : decode (j_co 131) 16 = .ok (.aload_n 1, 1) := by decide +kernel
set_option maxRecDepth 20000 in
theorem w131_16 {d : Nat} {st : List Value} {Q : Option Value × jW → Prop} {w : jW} {a0 a2 a3 a4 a5 : Option Value} {x : Nat} : Wp d 131 16 [a0, some (.ref x), a2, a3, a4, a5] (st) w Q = Wp d 131 17 [a0, some (.ref x), a2, a3, a4, a5] (.ref x :: st) w Q := Wp.loc e131_16 rfl rfl rfl
theorem e131_17 : decode (j_co 131) 17 = .ok (.iload_n 2, 1) := by decide +kernel
set_option maxRecDepth 20000 in
theorem w131_17 {d : Nat} {st : List Value} {Q : Option Value × jW → Prop} {w : jW} {a0 a1 a3 a4 a5 : Option Value} {x : Int32} : Wp d 131 17 [a0, a1, some (.int x), a3, a4, a5] (st) w Q = Wp d 131 18 [a0, a1, some (.int x), a3, a4, a5] (.int x :: st) w Q := Wp.loc e131_17 rfl rfl rfl
theorem e131_18 : decode (j_co 131) 18 = .ok (.iconst 2, 1) := by decide +kernel
set_option maxRecDepth 20000 in
theorem w131_18 {d : Nat} {st : List Value} {Q : Option Value × jW → Prop} {ls : jL} {w : jW} : Wp d 131 18 ls (st) w Q = Wp d 131 19 ls (.int (nI 2) :: st) w Q := Wp.alu e131_18 rfl rfl
theorem e131_19 : decode (j_co 131) 19 = .ok (.iload_n 3, 1) := by decide +kernel
set_option maxRecDepth 20000 in
theorem w131_19 {d : Nat} {st : List Value} {Q : Option Value × jW → Prop} {w : jW} {a0 a1 a2 a4 a5 : Option Value} {x : Int32} : Wp d 131 19 [a0, a1, a2, some (.int x), a4, a5] (st) w Q = Wp d 131 20 [a0, a1, a2, some (.int x), a4, a5] (.int x :: st) w Q := Wp.loc e131_19 rfl rfl rfl
theorem e131_20 : decode (j_co 131) 20 = .ok (.imul, 1) := by decide +kernel
set_option maxRecDepth 20000 in
theorem w131_20 {d : Nat} {st : List Value} {Q : Option Value × jW → Prop} {ls : jL} {w : jW} {a b : Int32} : Wp d 131 20 ls (.int b :: .int a :: st) w Q = Wp d 131 21 ls (.int (a * b) :: st) w Q := Wp.alu e131_20 rfl rfl
theorem e131_21 : decode (j_co 131) 21 = .ok (.iadd, 1) := by decide +kernel
set_option maxRecDepth 20000 in
theorem w131_21 {d : Nat} {st : List Value} {Q : Option Value × jW → Prop} {ls : jL} {w : jW} {a b : Int32} : Wp d 131 21 ls (.int b :: .int a :: st) w Q = Wp d 131 22 ls (.int (a + b) :: st) w Q := Wp.alu e131_21 rfl rfl
theorem e131_22 : decode (j_co 131) 22 = .ok (.iconst 1, 1) := by decide +kernel
set_option maxRecDepth 20000 in
theorem w131_22 {d : Nat} {st : List Value} {Q : Option Value × jW → Prop} {ls : jL} {w : jW} : Wp d 131 22 ls (st) w Q = Wp d 131 23 ls (.int (nI 1) :: st) w Q := Wp.alu e131_22 rfl rfl
theorem e131_23 : decode (j_co 131) 23 = .ok (.iadd, 1) := by decide +kernel
set_option maxRecDepth 20000 in
theorem w131_23 {d : Nat} {st : List Value} {Q : Option Value × jW → Prop} {ls : jL} {w : jW} {a b : Int32} : Wp d 131 23 ls (.int b :: .int a :: st) w Q = Wp d 131 24 ls (.int (a + b) :: st) w Q := Wp.alu e131_23 rfl rfl
theorem e131_24 : decode (j_co 131) 24 = .ok (.iaload, 1) := by decide +kernel
set_option maxRecDepth 20000 in
theorem w131_24 {d : Nat} {st : List Value} {Q : Option Value × jW → Prop} {ls : jL} {xs : List Value} {I : fI} {L : fL} {o : Nat} {i : Int32} (ht : f_tg o = 100) (hi : ¬ (i < 0 ∨ f_ln o ≤ i.toNatClampNeg)) : Wp d 131 24 ls (.int i :: .ref o :: st) (f_W xs I L) Q = Wp d 131 25 ls (.int (I o i.toNatClampNeg) :: st) (f_W xs I L) Q := Wp.iald e131_24 ht hi
theorem e131_25 : decode (j_co 131) 25 = .ok (.istore 5, 2) := by decide +kernel
set_option maxRecDepth 20000 in
theorem w131_25 {d : Nat} {st : List Value} {Q : Option Value × jW → Prop} {w : jW} {a0 a1 a2 a3 a4 a5 : Option Value} {x : Int32} (h : j_cp a4) : Wp d 131 25 [a0, a1, a2, a3, a4, a5] (.int x :: st) w Q = Wp d 131 27 [a0, a1, a2, a3, a4, some (.int x)] (st) w Q := Wp.loc e131_25 rfl rfl (v_stI (ls := [a0, a1, a2, a3, a4, a5]) (k := 5) (show 5 < 6 by decide) h)
theorem e131_27 : decode (j_co 131) 27 = .ok (.aload_n 0, 1) := by decide +kernel
set_option maxRecDepth 20000 in
theorem w131_27 {d : Nat} {st : List Value} {Q : Option Value × jW → Prop} {w : jW} {a1 a2 a3 a4 a5 : Option Value} {x : Nat} : Wp d 131 27 [some (.ref x), a1, a2, a3, a4, a5] (st) w Q = Wp d 131 28 [some (.ref x), a1, a2, a3, a4, a5] (.ref x :: st) w Q := Wp.loc e131_27 rfl rfl rfl
theorem e131_28 : decode (j_co 131) 28 = .ok (.getfield 48, 3) := by decide +kernel
set_option maxRecDepth 20000 in
theorem w131_28 {d : Nat} {st : List Value} {Q : Option Value × jW → Prop} {ls : jL} {xs : List Value} {I : fI} {L : fL} {o : Nat} (ht : f_tg o = 11) : Wp d 131 28 ls (.ref o :: st) (f_W xs I L) Q = Wp d 131 31 ls (.ref (f_rf o 15) :: st) (f_W xs I L) Q := Wp.getR (ci := 11) (k := 15) e131_28 rfl (by decide) (by decide) rfl ht
theorem e131_31 : decode (j_co 131) 31 = .ok (.iconst 2, 1) := by decide +kernel
set_option maxRecDepth 20000 in
theorem w131_31 {d : Nat} {st : List Value} {Q : Option Value × jW → Prop} {ls : jL} {w : jW} : Wp d 131 31 ls (st) w Q = Wp d 131 32 ls (.int (nI 2) :: st) w Q := Wp.alu e131_31 rfl rfl
theorem e131_32 : decode (j_co 131) 32 = .ok (.iload_n 3, 1) := by decide +kernel
set_option maxRecDepth 20000 in
theorem w131_32 {d : Nat} {st : List Value} {Q : Option Value × jW → Prop} {w : jW} {a0 a1 a2 a4 a5 : Option Value} {x : Int32} : Wp d 131 32 [a0, a1, a2, some (.int x), a4, a5] (st) w Q = Wp d 131 33 [a0, a1, a2, some (.int x), a4, a5] (.int x :: st) w Q := Wp.loc e131_32 rfl rfl rfl
theorem e131_33 : decode (j_co 131) 33 = .ok (.imul, 1) := by decide +kernel
set_option maxRecDepth 20000 in
theorem w131_33 {d : Nat} {st : List Value} {Q : Option Value × jW → Prop} {ls : jL} {w : jW} {a b : Int32} : Wp d 131 33 ls (.int b :: .int a :: st) w Q = Wp d 131 34 ls (.int (a * b) :: st) w Q := Wp.alu e131_33 rfl rfl
theorem e131_34 : decode (j_co 131) 34 = .ok (.aload_n 0, 1) := by decide +kernel
set_option maxRecDepth 20000 in
theorem w131_34 {d : Nat} {st : List Value} {Q : Option Value × jW → Prop} {w : jW} {a1 a2 a3 a4 a5 : Option Value} {x : Nat} : Wp d 131 34 [some (.ref x), a1, a2, a3, a4, a5] (st) w Q = Wp d 131 35 [some (.ref x), a1, a2, a3, a4, a5] (.ref x :: st) w Q := Wp.loc e131_34 rfl rfl rfl
theorem e131_35 : decode (j_co 131) 35 = .ok (.getfield 48, 3) := by decide +kernel
set_option maxRecDepth 20000 in
theorem w131_35 {d : Nat} {st : List Value} {Q : Option Value × jW → Prop} {ls : jL} {xs : List Value} {I : fI} {L : fL} {o : Nat} (ht : f_tg o = 11) : Wp d 131 35 ls (.ref o :: st) (f_W xs I L) Q = Wp d 131 38 ls (.ref (f_rf o 15) :: st) (f_W xs I L) Q := Wp.getR (ci := 11) (k := 15) e131_35 rfl (by decide) (by decide) rfl ht
theorem e131_38 : decode (j_co 131) 38 = .ok (.iconst 2, 1) := by decide +kernel
set_option maxRecDepth 20000 in
theorem w131_38 {d : Nat} {st : List Value} {Q : Option Value × jW → Prop} {ls : jL} {w : jW} : Wp d 131 38 ls (st) w Q = Wp d 131 39 ls (.int (nI 2) :: st) w Q := Wp.alu e131_38 rfl rfl
theorem e131_39 : decode (j_co 131) 39 = .ok (.iload_n 3, 1) := by decide +kernel
set_option maxRecDepth 20000 in
theorem w131_39 {d : Nat} {st : List Value} {Q : Option Value × jW → Prop} {w : jW} {a0 a1 a2 a4 a5 : Option Value} {x : Int32} : Wp d 131 39 [a0, a1, a2, some (.int x), a4, a5] (st) w Q = Wp d 131 40 [a0, a1, a2, some (.int x), a4, a5] (.int x :: st) w Q := Wp.loc e131_39 rfl rfl rfl
theorem e131_40 : decode (j_co 131) 40 = .ok (.imul, 1) := by decide +kernel
set_option maxRecDepth 20000 in
theorem w131_40 {d : Nat} {st : List Value} {Q : Option Value × jW → Prop} {ls : jL} {w : jW} {a b : Int32} : Wp d 131 40 ls (.int b :: .int a :: st) w Q = Wp d 131 41 ls (.int (a * b) :: st) w Q := Wp.alu e131_40 rfl rfl
theorem e131_41 : decode (j_co 131) 41 = .ok (.iaload, 1) := by decide +kernel
set_option maxRecDepth 20000 in
theorem w131_41 {d : Nat} {st : List Value} {Q : Option Value × jW → Prop} {ls : jL} {xs : List Value} {I : fI} {L : fL} {o : Nat} {i : Int32} (ht : f_tg o = 100) (hi : ¬ (i < 0 ∨ f_ln o ≤ i.toNatClampNeg)) : Wp d 131 41 ls (.int i :: .ref o :: st) (f_W xs I L) Q = Wp d 131 42 ls (.int (I o i.toNatClampNeg) :: st) (f_W xs I L) Q := Wp.iald e131_41 ht hi
theorem e131_42 : decode (j_co 131) 42 = .ok (.iload 4, 2) := by decide +kernel
set_option maxRecDepth 20000 in
theorem w131_42 {d : Nat} {st : List Value} {Q : Option Value × jW → Prop} {w : jW} {a0 a1 a2 a3 a5 : Option Value} {x : Int32} : Wp d 131 42 [a0, a1, a2, a3, some (.int x), a5] (st) w Q = Wp d 131 44 [a0, a1, a2, a3, some (.int x), a5] (.int x :: st) w Q := Wp.loc e131_42 rfl rfl rfl
theorem e131_44 : decode (j_co 131) 44 = .ok (.if_icmp .le 14, 3) := by decide +kernel
set_option maxRecDepth 20000 in
theorem w131_44 {d : Nat} {st : List Value} {Q : Option Value × jW → Prop} {ls : jL} {w : jW} {a b : Int32} : Wp d 131 44 ls (.int b :: .int a :: st) w Q = ((a ≤ b → Wp d 131 58 ls st w Q) ∧ (¬ a ≤ b → Wp d 131 47 ls st w Q)) := Wp.if2 (c := a ≤ b) (off := 14) e131_44 rfl rfl rfl rfl rfl
theorem e131_47 : decode (j_co 131) 47 = .ok (.aload_n 0, 1) := by decide +kernel
set_option maxRecDepth 20000 in
theorem w131_47 {d : Nat} {st : List Value} {Q : Option Value × jW → Prop} {w : jW} {a1 a2 a3 a4 a5 : Option Value} {x : Nat} : Wp d 131 47 [some (.ref x), a1, a2, a3, a4, a5] (st) w Q = Wp d 131 48 [some (.ref x), a1, a2, a3, a4, a5] (.ref x :: st) w Q := Wp.loc e131_47 rfl rfl rfl
theorem e131_48 : decode (j_co 131) 48 = .ok (.getfield 48, 3) := by decide +kernel
set_option maxRecDepth 20000 in
theorem w131_48 {d : Nat} {st : List Value} {Q : Option Value × jW → Prop} {ls : jL} {xs : List Value} {I : fI} {L : fL} {o : Nat} (ht : f_tg o = 11) : Wp d 131 48 ls (.ref o :: st) (f_W xs I L) Q = Wp d 131 51 ls (.ref (f_rf o 15) :: st) (f_W xs I L) Q := Wp.getR (ci := 11) (k := 15) e131_48 rfl (by decide) (by decide) rfl ht
theorem e131_51 : decode (j_co 131) 51 = .ok (.iconst 2, 1) := by decide +kernel
set_option maxRecDepth 20000 in
theorem w131_51 {d : Nat} {st : List Value} {Q : Option Value × jW → Prop} {ls : jL} {w : jW} : Wp d 131 51 ls (st) w Q = Wp d 131 52 ls (.int (nI 2) :: st) w Q := Wp.alu e131_51 rfl rfl
theorem e131_52 : decode (j_co 131) 52 = .ok (.iload_n 3, 1) := by decide +kernel
set_option maxRecDepth 20000 in
theorem w131_52 {d : Nat} {st : List Value} {Q : Option Value × jW → Prop} {w : jW} {a0 a1 a2 a4 a5 : Option Value} {x : Int32} : Wp d 131 52 [a0, a1, a2, some (.int x), a4, a5] (st) w Q = Wp d 131 53 [a0, a1, a2, some (.int x), a4, a5] (.int x :: st) w Q := Wp.loc e131_52 rfl rfl rfl
theorem e131_53 : decode (j_co 131) 53 = .ok (.imul, 1) := by decide +kernel
set_option maxRecDepth 20000 in
theorem w131_53 {d : Nat} {st : List Value} {Q : Option Value × jW → Prop} {ls : jL} {w : jW} {a b : Int32} : Wp d 131 53 ls (.int b :: .int a :: st) w Q = Wp d 131 54 ls (.int (a * b) :: st) w Q := Wp.alu e131_53 rfl rfl
theorem e131_54 : decode (j_co 131) 54 = .ok (.iaload, 1) := by decide +kernel
set_option maxRecDepth 20000 in
theorem w131_54 {d : Nat} {st : List Value} {Q : Option Value × jW → Prop} {ls : jL} {xs : List Value} {I : fI} {L : fL} {o : Nat} {i : Int32} (ht : f_tg o = 100) (hi : ¬ (i < 0 ∨ f_ln o ≤ i.toNatClampNeg)) : Wp d 131 54 ls (.int i :: .ref o :: st) (f_W xs I L) Q = Wp d 131 55 ls (.int (I o i.toNatClampNeg) :: st) (f_W xs I L) Q := Wp.iald e131_54 ht hi
theorem e131_55 : decode (j_co 131) 55 = .ok (.goto 5, 3) := by decide +kernel
set_option maxRecDepth 20000 in
theorem w131_55 {d : Nat} {st : List Value} {Q : Option Value × jW → Prop} {ls : jL} {w : jW} : Wp d 131 55 ls (st) w Q = Wp d 131 60 ls (st) w Q := Wp.br e131_55 (Or.inl rfl) rfl rfl rfl rfl
theorem e131_58 : decode (j_co 131) 58 = .ok (.iload 4, 2) := by decide +kernel
set_option maxRecDepth 20000 in
theorem w131_58 {d : Nat} {st : List Value} {Q : Option Value × jW → Prop} {w : jW} {a0 a1 a2 a3 a5 : Option Value} {x : Int32} : Wp d 131 58 [a0, a1, a2, a3, some (.int x), a5] (st) w Q = Wp d 131 60 [a0, a1, a2, a3, some (.int x), a5] (.int x :: st) w Q := Wp.loc e131_58 rfl rfl rfl
theorem e131_60 : decode (j_co 131) 60 = .ok (.iastore, 1) := by decide +kernel
set_option maxRecDepth 20000 in
theorem w131_60 {d : Nat} {st : List Value} {Q : Option Value × jW → Prop} {ls : jL} {xs : List Value} {I : fI} {L : fL} {o : Nat} {i x : Int32} (ht : f_tg o = 100) (hi : ¬ (i < 0 ∨ f_ln o ≤ i.toNatClampNeg)) : Wp d 131 60 ls (.int x :: .int i :: .ref o :: st) (f_W xs I L) Q = Wp d 131 61 ls (st) (f_W xs (f_up I o i.toNatClampNeg x) L) Q := Wp.iast e131_60 ht hi
theorem e131_61 : decode (j_co 131) 61 = .ok (.aload_n 0, 1) := by decide +kernel
set_option maxRecDepth 20000 in
theorem w131_61 {d : Nat} {st : List Value} {Q : Option Value × jW → Prop} {w : jW} {a1 a2 a3 a4 a5 : Option Value} {x : Nat} : Wp d 131 61 [some (.ref x), a1, a2, a3, a4, a5] (st) w Q = Wp d 131 62 [some (.ref x), a1, a2, a3, a4, a5] (.ref x :: st) w Q := Wp.loc e131_61 rfl rfl rfl
theorem e131_62 : decode (j_co 131) 62 = .ok (.getfield 48, 3) := by decide +kernel
set_option maxRecDepth 20000 in
theorem w131_62 {d : Nat} {st : List Value} {Q : Option Value × jW → Prop} {ls : jL} {xs : List Value} {I : fI} {L : fL} {o : Nat} (ht : f_tg o = 11) : Wp d 131 62 ls (.ref o :: st) (f_W xs I L) Q = Wp d 131 65 ls (.ref (f_rf o 15) :: st) (f_W xs I L) Q := Wp.getR (ci := 11) (k := 15) e131_62 rfl (by decide) (by decide) rfl ht
theorem e131_65 : decode (j_co 131) 65 = .ok (.iconst 2, 1) := by decide +kernel
set_option maxRecDepth 20000 in
theorem w131_65 {d : Nat} {st : List Value} {Q : Option Value × jW → Prop} {ls : jL} {w : jW} : Wp d 131 65 ls (st) w Q = Wp d 131 66 ls (.int (nI 2) :: st) w Q := Wp.alu e131_65 rfl rfl
theorem e131_66 : decode (j_co 131) 66 = .ok (.iload_n 3, 1) := by decide +kernel
set_option maxRecDepth 20000 in
theorem w131_66 {d : Nat} {st : List Value} {Q : Option Value × jW → Prop} {w : jW} {a0 a1 a2 a4 a5 : Option Value} {x : Int32} : Wp d 131 66 [a0, a1, a2, some (.int x), a4, a5] (st) w Q = Wp d 131 67 [a0, a1, a2, some (.int x), a4, a5] (.int x :: st) w Q := Wp.loc e131_66 rfl rfl rfl
theorem e131_67 : decode (j_co 131) 67 = .ok (.imul, 1) := by decide +kernel
set_option maxRecDepth 20000 in
theorem w131_67 {d : Nat} {st : List Value} {Q : Option Value × jW → Prop} {ls : jL} {w : jW} {a b : Int32} : Wp d 131 67 ls (.int b :: .int a :: st) w Q = Wp d 131 68 ls (.int (a * b) :: st) w Q := Wp.alu e131_67 rfl rfl
theorem e131_68 : decode (j_co 131) 68 = .ok (.iconst 1, 1) := by decide +kernel
set_option maxRecDepth 20000 in
theorem w131_68 {d : Nat} {st : List Value} {Q : Option Value × jW → Prop} {ls : jL} {w : jW} : Wp d 131 68 ls (st) w Q = Wp d 131 69 ls (.int (nI 1) :: st) w Q := Wp.alu e131_68 rfl rfl
theorem e131_69 : decode (j_co 131) 69 = .ok (.iadd, 1) := by decide +kernel
set_option maxRecDepth 20000 in
theorem w131_69 {d : Nat} {st : List Value} {Q : Option Value × jW → Prop} {ls : jL} {w : jW} {a b : Int32} : Wp d 131 69 ls (.int b :: .int a :: st) w Q = Wp d 131 70 ls (.int (a + b) :: st) w Q := Wp.alu e131_69 rfl rfl
theorem e131_70 : decode (j_co 131) 70 = .ok (.aload_n 0, 1) := by decide +kernel
set_option maxRecDepth 20000 in
theorem w131_70 {d : Nat} {st : List Value} {Q : Option Value × jW → Prop} {w : jW} {a1 a2 a3 a4 a5 : Option Value} {x : Nat} : Wp d 131 70 [some (.ref x), a1, a2, a3, a4, a5] (st) w Q = Wp d 131 71 [some (.ref x), a1, a2, a3, a4, a5] (.ref x :: st) w Q := Wp.loc e131_70 rfl rfl rfl
theorem e131_71 : decode (j_co 131) 71 = .ok (.getfield 48, 3) := by decide +kernel
set_option maxRecDepth 20000 in
theorem w131_71 {d : Nat} {st : List Value} {Q : Option Value × jW → Prop} {ls : jL} {xs : List Value} {I : fI} {L : fL} {o : Nat} (ht : f_tg o = 11) : Wp d 131 71 ls (.ref o :: st) (f_W xs I L) Q = Wp d 131 74 ls (.ref (f_rf o 15) :: st) (f_W xs I L) Q := Wp.getR (ci := 11) (k := 15) e131_71 rfl (by decide) (by decide) rfl ht
theorem e131_74 : decode (j_co 131) 74 = .ok (.iconst 2, 1) := by decide +kernel
set_option maxRecDepth 20000 in
theorem w131_74 {d : Nat} {st : List Value} {Q : Option Value × jW → Prop} {ls : jL} {w : jW} : Wp d 131 74 ls (st) w Q = Wp d 131 75 ls (.int (nI 2) :: st) w Q := Wp.alu e131_74 rfl rfl
theorem e131_75 : decode (j_co 131) 75 = .ok (.iload_n 3, 1) := by decide +kernel
set_option maxRecDepth 20000 in
theorem w131_75 {d : Nat} {st : List Value} {Q : Option Value × jW → Prop} {w : jW} {a0 a1 a2 a4 a5 : Option Value} {x : Int32} : Wp d 131 75 [a0, a1, a2, some (.int x), a4, a5] (st) w Q = Wp d 131 76 [a0, a1, a2, some (.int x), a4, a5] (.int x :: st) w Q := Wp.loc e131_75 rfl rfl rfl
theorem e131_76 : decode (j_co 131) 76 = .ok (.imul, 1) := by decide +kernel
set_option maxRecDepth 20000 in
theorem w131_76 {d : Nat} {st : List Value} {Q : Option Value × jW → Prop} {ls : jL} {w : jW} {a b : Int32} : Wp d 131 76 ls (.int b :: .int a :: st) w Q = Wp d 131 77 ls (.int (a * b) :: st) w Q := Wp.alu e131_76 rfl rfl
theorem e131_77 : decode (j_co 131) 77 = .ok (.iconst 1, 1) := by decide +kernel
set_option maxRecDepth 20000 in
theorem w131_77 {d : Nat} {st : List Value} {Q : Option Value × jW → Prop} {ls : jL} {w : jW} : Wp d 131 77 ls (st) w Q = Wp d 131 78 ls (.int (nI 1) :: st) w Q := Wp.alu e131_77 rfl rfl
theorem e131_78 : decode (j_co 131) 78 = .ok (.iadd, 1) := by decide +kernel
set_option maxRecDepth 20000 in
theorem w131_78 {d : Nat} {st : List Value} {Q : Option Value × jW → Prop} {ls : jL} {w : jW} {a b : Int32} : Wp d 131 78 ls (.int b :: .int a :: st) w Q = Wp d 131 79 ls (.int (a + b) :: st) w Q := Wp.alu e131_78 rfl rfl
theorem e131_79 : decode (j_co 131) 79 = .ok (.iaload, 1) := by decide +kernel
set_option maxRecDepth 20000 in
theorem w131_79 {d : Nat} {st : List Value} {Q : Option Value × jW → Prop} {ls : jL} {xs : List Value} {I : fI} {L : fL} {o : Nat} {i : Int32} (ht : f_tg o = 100) (hi : ¬ (i < 0 ∨ f_ln o ≤ i.toNatClampNeg)) : Wp d 131 79 ls (.int i :: .ref o :: st) (f_W xs I L) Q = Wp d 131 80 ls (.int (I o i.toNatClampNeg) :: st) (f_W xs I L) Q := Wp.iald e131_79 ht hi
theorem e131_80 : decode (j_co 131) 80 = .ok (.iload 5, 2) := by decide +kernel
set_option maxRecDepth 20000 in
theorem w131_80 {d : Nat} {st : List Value} {Q : Option Value × jW → Prop} {w : jW} {a0 a1 a2 a3 a4 : Option Value} {x : Int32} : Wp d 131 80 [a0, a1, a2, a3, a4, some (.int x)] (st) w Q = Wp d 131 82 [a0, a1, a2, a3, a4, some (.int x)] (.int x :: st) w Q := Wp.loc e131_80 rfl rfl rfl
theorem e131_82 : decode (j_co 131) 82 = .ok (.if_icmp .ge 16, 3) := by decide +kernel
set_option maxRecDepth 20000 in
theorem w131_82 {d : Nat} {st : List Value} {Q : Option Value × jW → Prop} {ls : jL} {w : jW} {a b : Int32} : Wp d 131 82 ls (.int b :: .int a :: st) w Q = ((b ≤ a → Wp d 131 98 ls st w Q) ∧ (¬ b ≤ a → Wp d 131 85 ls st w Q)) := Wp.if2 (c := b ≤ a) (off := 16) e131_82 rfl rfl rfl rfl rfl
theorem e131_85 : decode (j_co 131) 85 = .ok (.aload_n 0, 1) := by decide +kernel
set_option maxRecDepth 20000 in
theorem w131_85 {d : Nat} {st : List Value} {Q : Option Value × jW → Prop} {w : jW} {a1 a2 a3 a4 a5 : Option Value} {x : Nat} : Wp d 131 85 [some (.ref x), a1, a2, a3, a4, a5] (st) w Q = Wp d 131 86 [some (.ref x), a1, a2, a3, a4, a5] (.ref x :: st) w Q := Wp.loc e131_85 rfl rfl rfl
theorem e131_86 : decode (j_co 131) 86 = .ok (.getfield 48, 3) := by decide +kernel
set_option maxRecDepth 20000 in
theorem w131_86 {d : Nat} {st : List Value} {Q : Option Value × jW → Prop} {ls : jL} {xs : List Value} {I : fI} {L : fL} {o : Nat} (ht : f_tg o = 11) : Wp d 131 86 ls (.ref o :: st) (f_W xs I L) Q = Wp d 131 89 ls (.ref (f_rf o 15) :: st) (f_W xs I L) Q := Wp.getR (ci := 11) (k := 15) e131_86 rfl (by decide) (by decide) rfl ht
theorem e131_89 : decode (j_co 131) 89 = .ok (.iconst 2, 1) := by decide +kernel
set_option maxRecDepth 20000 in
theorem w131_89 {d : Nat} {st : List Value} {Q : Option Value × jW → Prop} {ls : jL} {w : jW} : Wp d 131 89 ls (st) w Q = Wp d 131 90 ls (.int (nI 2) :: st) w Q := Wp.alu e131_89 rfl rfl
theorem e131_90 : decode (j_co 131) 90 = .ok (.iload_n 3, 1) := by decide +kernel
set_option maxRecDepth 20000 in
theorem w131_90 {d : Nat} {st : List Value} {Q : Option Value × jW → Prop} {w : jW} {a0 a1 a2 a4 a5 : Option Value} {x : Int32} : Wp d 131 90 [a0, a1, a2, some (.int x), a4, a5] (st) w Q = Wp d 131 91 [a0, a1, a2, some (.int x), a4, a5] (.int x :: st) w Q := Wp.loc e131_90 rfl rfl rfl
theorem e131_91 : decode (j_co 131) 91 = .ok (.imul, 1) := by decide +kernel
set_option maxRecDepth 20000 in
theorem w131_91 {d : Nat} {st : List Value} {Q : Option Value × jW → Prop} {ls : jL} {w : jW} {a b : Int32} : Wp d 131 91 ls (.int b :: .int a :: st) w Q = Wp d 131 92 ls (.int (a * b) :: st) w Q := Wp.alu e131_91 rfl rfl
theorem e131_92 : decode (j_co 131) 92 = .ok (.iconst 1, 1) := by decide +kernel
set_option maxRecDepth 20000 in
theorem w131_92 {d : Nat} {st : List Value} {Q : Option Value × jW → Prop} {ls : jL} {w : jW} : Wp d 131 92 ls (st) w Q = Wp d 131 93 ls (.int (nI 1) :: st) w Q := Wp.alu e131_92 rfl rfl
theorem e131_93 : decode (j_co 131) 93 = .ok (.iadd, 1) := by decide +kernel
set_option maxRecDepth 20000 in
theorem w131_93 {d : Nat} {st : List Value} {Q : Option Value × jW → Prop} {ls : jL} {w : jW} {a b : Int32} : Wp d 131 93 ls (.int b :: .int a :: st) w Q = Wp d 131 94 ls (.int (a + b) :: st) w Q := Wp.alu e131_93 rfl rfl
theorem e131_94 : decode (j_co 131) 94 = .ok (.iaload, 1) := by decide +kernel
set_option maxRecDepth 20000 in
theorem w131_94 {d : Nat} {st : List Value} {Q : Option Value × jW → Prop} {ls : jL} {xs : List Value} {I : fI} {L : fL} {o : Nat} {i : Int32} (ht : f_tg o = 100) (hi : ¬ (i < 0 ∨ f_ln o ≤ i.toNatClampNeg)) : Wp d 131 94 ls (.int i :: .ref o :: st) (f_W xs I L) Q = Wp d 131 95 ls (.int (I o i.toNatClampNeg) :: st) (f_W xs I L) Q := Wp.iald e131_94 ht hi
theorem e131_95 : decode (j_co 131) 95 = .ok (.goto 5, 3) := by decide +kernel
set_option maxRecDepth 20000 in
theorem w131_95 {d : Nat} {st : List Value} {Q : Option Value × jW → Prop} {ls : jL} {w : jW} : Wp d 131 95 ls (st) w Q = Wp d 131 100 ls (st) w Q := Wp.br e131_95 (Or.inl rfl) rfl rfl rfl rfl
theorem e131_98 : decode (j_co 131) 98 = .ok (.iload 5, 2) := by decide +kernel
set_option maxRecDepth 20000 in
theorem w131_98 {d : Nat} {st : List Value} {Q : Option Value × jW → Prop} {w : jW} {a0 a1 a2 a3 a4 : Option Value} {x : Int32} : Wp d 131 98 [a0, a1, a2, a3, a4, some (.int x)] (st) w Q = Wp d 131 100 [a0, a1, a2, a3, a4, some (.int x)] (.int x :: st) w Q := Wp.loc e131_98 rfl rfl rfl
theorem e131_100 : decode (j_co 131) 100 = .ok (.iastore, 1) := by decide +kernel
set_option maxRecDepth 20000 in
theorem w131_100 {d : Nat} {st : List Value} {Q : Option Value × jW → Prop} {ls : jL} {xs : List Value} {I : fI} {L : fL} {o : Nat} {i x : Int32} (ht : f_tg o = 100) (hi : ¬ (i < 0 ∨ f_ln o ≤ i.toNatClampNeg)) : Wp d 131 100 ls (.int x :: .int i :: .ref o :: st) (f_W xs I L) Q = Wp d 131 101 ls (st) (f_W xs (f_up I o i.toNatClampNeg x) L) Q := Wp.iast e131_100 ht hi
theorem e131_101 : decode (j_co 131) 101 = .ok (.iinc 3 1, 3) := by decide +kernel
set_option maxRecDepth 20000 in
theorem w131_101 {d : Nat} {st : List Value} {Q : Option Value × jW → Prop} {w : jW} {a0 a1 a2 a4 a5 : Option Value} {x : Int32} (h : j_cp a2) : Wp d 131 101 [a0, a1, a2, some (.int x), a4, a5] (st) w Q = Wp d 131 104 [a0, a1, a2, some (.int (x + nI 1)), a4, a5] (st) w Q := Wp.loc e131_101 rfl rfl (v_inc (ls := [a0, a1, a2, some (.int x), a4, a5]) (k := 3) (n := 1) rfl (show 3 < 6 by decide) h)
theorem e131_104 : decode (j_co 131) 104 = .ok (.goto (-102), 3) := by decide +kernel
set_option maxRecDepth 20000 in
theorem w131_104 {d : Nat} {st : List Value} {Q : Option Value × jW → Prop} {ls : jL} {w : jW} : Wp d 131 104 ls (st) w Q = Wp d 131 2 ls (st) w Q := Wp.br e131_104 (Or.inl rfl) rfl rfl rfl rfl
theorem e131_107 : decode (j_co 131) 107 = .ok (.return_, 1) := by decide +kernel
set_option maxRecDepth 20000 in
theorem w131_107 {d : Nat} {Q : Option Value × jW → Prop} {ls : jL} {w : jW} : Wp d 131 107 ls [] w Q = Q (none, w) := Wp.ret e131_107 rfl
/-! M.isEmpty -/
theorem e132_0 : decode (j_co 132) 0 = .ok (.aload_n 0, 1) := by decide +kernel
set_option maxRecDepth 20000 in
theorem w132_0 {d : Nat} {st : List Value} {Q : Option Value × jW → Prop} {w : jW} {x : Nat} : Wp d 132 0 [some (.ref x)] (st) w Q = Wp d 132 1 [some (.ref x)] (.ref x :: st) w Q := Wp.loc e132_0 rfl rfl rfl
theorem e132_1 : decode (j_co 132) 1 = .ok (.getfield 48, 3) := by decide +kernel
set_option maxRecDepth 20000 in
theorem w132_1 {d : Nat} {st : List Value} {Q : Option Value × jW → Prop} {ls : jL} {xs : List Value} {I : fI} {L : fL} {o : Nat} (ht : f_tg o = 11) : Wp d 132 1 ls (.ref o :: st) (f_W xs I L) Q = Wp d 132 4 ls (.ref (f_rf o 15) :: st) (f_W xs I L) Q := Wp.getR (ci := 11) (k := 15) e132_1 rfl (by decide) (by decide) rfl ht
theorem e132_4 : decode (j_co 132) 4 = .ok (.iconst 0, 1) := by decide +kernel
set_option maxRecDepth 20000 in
theorem w132_4 {d : Nat} {st : List Value} {Q : Option Value × jW → Prop} {ls : jL} {w : jW} : Wp d 132 4 ls (st) w Q = Wp d 132 5 ls (.int (nI 0) :: st) w Q := Wp.alu e132_4 rfl rfl
theorem e132_5 : decode (j_co 132) 5 = .ok (.iaload, 1) := by decide +kernel
set_option maxRecDepth 20000 in
theorem w132_5 {d : Nat} {st : List Value} {Q : Option Value × jW → Prop} {ls : jL} {xs : List Value} {I : fI} {L : fL} {o : Nat} {i : Int32} (ht : f_tg o = 100) (hi : ¬ (i < 0 ∨ f_ln o ≤ i.toNatClampNeg)) : Wp d 132 5 ls (.int i :: .ref o :: st) (f_W xs I L) Q = Wp d 132 6 ls (.int (I o i.toNatClampNeg) :: st) (f_W xs I L) Q := Wp.iald e132_5 ht hi
theorem e132_6 : decode (j_co 132) 6 = .ok (.aload_n 0, 1) := by decide +kernel
set_option maxRecDepth 20000 in
theorem w132_6 {d : Nat} {st : List Value} {Q : Option Value × jW → Prop} {w : jW} {x : Nat} : Wp d 132 6 [some (.ref x)] (st) w Q = Wp d 132 7 [some (.ref x)] (.ref x :: st) w Q := Wp.loc e132_6 rfl rfl rfl
theorem e132_7 : decode (j_co 132) 7 = .ok (.getfield 48, 3) := by decide +kernel
set_option maxRecDepth 20000 in
theorem w132_7 {d : Nat} {st : List Value} {Q : Option Value × jW → Prop} {ls : jL} {xs : List Value} {I : fI} {L : fL} {o : Nat} (ht : f_tg o = 11) : Wp d 132 7 ls (.ref o :: st) (f_W xs I L) Q = Wp d 132 10 ls (.ref (f_rf o 15) :: st) (f_W xs I L) Q := Wp.getR (ci := 11) (k := 15) e132_7 rfl (by decide) (by decide) rfl ht
theorem e132_10 : decode (j_co 132) 10 = .ok (.iconst 1, 1) := by decide +kernel
set_option maxRecDepth 20000 in
theorem w132_10 {d : Nat} {st : List Value} {Q : Option Value × jW → Prop} {ls : jL} {w : jW} : Wp d 132 10 ls (st) w Q = Wp d 132 11 ls (.int (nI 1) :: st) w Q := Wp.alu e132_10 rfl rfl
theorem e132_11 : decode (j_co 132) 11 = .ok (.iaload, 1) := by decide +kernel
set_option maxRecDepth 20000 in
theorem w132_11 {d : Nat} {st : List Value} {Q : Option Value × jW → Prop} {ls : jL} {xs : List Value} {I : fI} {L : fL} {o : Nat} {i : Int32} (ht : f_tg o = 100) (hi : ¬ (i < 0 ∨ f_ln o ≤ i.toNatClampNeg)) : Wp d 132 11 ls (.int i :: .ref o :: st) (f_W xs I L) Q = Wp d 132 12 ls (.int (I o i.toNatClampNeg) :: st) (f_W xs I L) Q := Wp.iald e132_11 ht hi
theorem e132_12 : decode (j_co 132) 12 = .ok (.if_icmp .gt 33, 3) := by decide +kernel
set_option maxRecDepth 20000 in
theorem w132_12 {d : Nat} {st : List Value} {Q : Option Value × jW → Prop} {ls : jL} {w : jW} {a b : Int32} : Wp d 132 12 ls (.int b :: .int a :: st) w Q = ((b < a → Wp d 132 45 ls st w Q) ∧ (¬ b < a → Wp d 132 15 ls st w Q)) := Wp.if2 (c := b < a) (off := 33) e132_12 rfl rfl rfl rfl rfl
theorem e132_15 : decode (j_co 132) 15 = .ok (.aload_n 0, 1) := by decide +kernel
set_option maxRecDepth 20000 in
theorem w132_15 {d : Nat} {st : List Value} {Q : Option Value × jW → Prop} {w : jW} {x : Nat} : Wp d 132 15 [some (.ref x)] (st) w Q = Wp d 132 16 [some (.ref x)] (.ref x :: st) w Q := Wp.loc e132_15 rfl rfl rfl
theorem e132_16 : decode (j_co 132) 16 = .ok (.getfield 48, 3) := by decide +kernel
set_option maxRecDepth 20000 in
theorem w132_16 {d : Nat} {st : List Value} {Q : Option Value × jW → Prop} {ls : jL} {xs : List Value} {I : fI} {L : fL} {o : Nat} (ht : f_tg o = 11) : Wp d 132 16 ls (.ref o :: st) (f_W xs I L) Q = Wp d 132 19 ls (.ref (f_rf o 15) :: st) (f_W xs I L) Q := Wp.getR (ci := 11) (k := 15) e132_16 rfl (by decide) (by decide) rfl ht
theorem e132_19 : decode (j_co 132) 19 = .ok (.iconst 2, 1) := by decide +kernel
set_option maxRecDepth 20000 in
theorem w132_19 {d : Nat} {st : List Value} {Q : Option Value × jW → Prop} {ls : jL} {w : jW} : Wp d 132 19 ls (st) w Q = Wp d 132 20 ls (.int (nI 2) :: st) w Q := Wp.alu e132_19 rfl rfl
theorem e132_20 : decode (j_co 132) 20 = .ok (.iaload, 1) := by decide +kernel
set_option maxRecDepth 20000 in
theorem w132_20 {d : Nat} {st : List Value} {Q : Option Value × jW → Prop} {ls : jL} {xs : List Value} {I : fI} {L : fL} {o : Nat} {i : Int32} (ht : f_tg o = 100) (hi : ¬ (i < 0 ∨ f_ln o ≤ i.toNatClampNeg)) : Wp d 132 20 ls (.int i :: .ref o :: st) (f_W xs I L) Q = Wp d 132 21 ls (.int (I o i.toNatClampNeg) :: st) (f_W xs I L) Q := Wp.iald e132_20 ht hi
theorem e132_21 : decode (j_co 132) 21 = .ok (.aload_n 0, 1) := by decide +kernel
set_option maxRecDepth 20000 in
theorem w132_21 {d : Nat} {st : List Value} {Q : Option Value × jW → Prop} {w : jW} {x : Nat} : Wp d 132 21 [some (.ref x)] (st) w Q = Wp d 132 22 [some (.ref x)] (.ref x :: st) w Q := Wp.loc e132_21 rfl rfl rfl
theorem e132_22 : decode (j_co 132) 22 = .ok (.getfield 48, 3) := by decide +kernel
set_option maxRecDepth 20000 in
theorem w132_22 {d : Nat} {st : List Value} {Q : Option Value × jW → Prop} {ls : jL} {xs : List Value} {I : fI} {L : fL} {o : Nat} (ht : f_tg o = 11) : Wp d 132 22 ls (.ref o :: st) (f_W xs I L) Q = Wp d 132 25 ls (.ref (f_rf o 15) :: st) (f_W xs I L) Q := Wp.getR (ci := 11) (k := 15) e132_22 rfl (by decide) (by decide) rfl ht
theorem e132_25 : decode (j_co 132) 25 = .ok (.iconst 3, 1) := by decide +kernel
set_option maxRecDepth 20000 in
theorem w132_25 {d : Nat} {st : List Value} {Q : Option Value × jW → Prop} {ls : jL} {w : jW} : Wp d 132 25 ls (st) w Q = Wp d 132 26 ls (.int (nI 3) :: st) w Q := Wp.alu e132_25 rfl rfl
theorem e132_26 : decode (j_co 132) 26 = .ok (.iaload, 1) := by decide +kernel
set_option maxRecDepth 20000 in
theorem w132_26 {d : Nat} {st : List Value} {Q : Option Value × jW → Prop} {ls : jL} {xs : List Value} {I : fI} {L : fL} {o : Nat} {i : Int32} (ht : f_tg o = 100) (hi : ¬ (i < 0 ∨ f_ln o ≤ i.toNatClampNeg)) : Wp d 132 26 ls (.int i :: .ref o :: st) (f_W xs I L) Q = Wp d 132 27 ls (.int (I o i.toNatClampNeg) :: st) (f_W xs I L) Q := Wp.iald e132_26 ht hi
theorem e132_27 : decode (j_co 132) 27 = .ok (.if_icmp .gt 18, 3) := by decide +kernel
set_option maxRecDepth 20000 in
theorem w132_27 {d : Nat} {st : List Value} {Q : Option Value × jW → Prop} {ls : jL} {w : jW} {a b : Int32} : Wp d 132 27 ls (.int b :: .int a :: st) w Q = ((b < a → Wp d 132 45 ls st w Q) ∧ (¬ b < a → Wp d 132 30 ls st w Q)) := Wp.if2 (c := b < a) (off := 18) e132_27 rfl rfl rfl rfl rfl
theorem e132_30 : decode (j_co 132) 30 = .ok (.aload_n 0, 1) := by decide +kernel
set_option maxRecDepth 20000 in
theorem w132_30 {d : Nat} {st : List Value} {Q : Option Value × jW → Prop} {w : jW} {x : Nat} : Wp d 132 30 [some (.ref x)] (st) w Q = Wp d 132 31 [some (.ref x)] (.ref x :: st) w Q := Wp.loc e132_30 rfl rfl rfl
theorem e132_31 : decode (j_co 132) 31 = .ok (.getfield 48, 3) := by decide +kernel
set_option maxRecDepth 20000 in
theorem w132_31 {d : Nat} {st : List Value} {Q : Option Value × jW → Prop} {ls : jL} {xs : List Value} {I : fI} {L : fL} {o : Nat} (ht : f_tg o = 11) : Wp d 132 31 ls (.ref o :: st) (f_W xs I L) Q = Wp d 132 34 ls (.ref (f_rf o 15) :: st) (f_W xs I L) Q := Wp.getR (ci := 11) (k := 15) e132_31 rfl (by decide) (by decide) rfl ht
theorem e132_34 : decode (j_co 132) 34 = .ok (.iconst 4, 1) := by decide +kernel
set_option maxRecDepth 20000 in
theorem w132_34 {d : Nat} {st : List Value} {Q : Option Value × jW → Prop} {ls : jL} {w : jW} : Wp d 132 34 ls (st) w Q = Wp d 132 35 ls (.int (nI 4) :: st) w Q := Wp.alu e132_34 rfl rfl
theorem e132_35 : decode (j_co 132) 35 = .ok (.iaload, 1) := by decide +kernel
set_option maxRecDepth 20000 in
theorem w132_35 {d : Nat} {st : List Value} {Q : Option Value × jW → Prop} {ls : jL} {xs : List Value} {I : fI} {L : fL} {o : Nat} {i : Int32} (ht : f_tg o = 100) (hi : ¬ (i < 0 ∨ f_ln o ≤ i.toNatClampNeg)) : Wp d 132 35 ls (.int i :: .ref o :: st) (f_W xs I L) Q = Wp d 132 36 ls (.int (I o i.toNatClampNeg) :: st) (f_W xs I L) Q := Wp.iald e132_35 ht hi
theorem e132_36 : decode (j_co 132) 36 = .ok (.aload_n 0, 1) := by decide +kernel
set_option maxRecDepth 20000 in
theorem w132_36 {d : Nat} {st : List Value} {Q : Option Value × jW → Prop} {w : jW} {x : Nat} : Wp d 132 36 [some (.ref x)] (st) w Q = Wp d 132 37 [some (.ref x)] (.ref x :: st) w Q := Wp.loc e132_36 rfl rfl rfl
theorem e132_37 : decode (j_co 132) 37 = .ok (.getfield 48, 3) := by decide +kernel
set_option maxRecDepth 20000 in
theorem w132_37 {d : Nat} {st : List Value} {Q : Option Value × jW → Prop} {ls : jL} {xs : List Value} {I : fI} {L : fL} {o : Nat} (ht : f_tg o = 11) : Wp d 132 37 ls (.ref o :: st) (f_W xs I L) Q = Wp d 132 40 ls (.ref (f_rf o 15) :: st) (f_W xs I L) Q := Wp.getR (ci := 11) (k := 15) e132_37 rfl (by decide) (by decide) rfl ht
theorem e132_40 : decode (j_co 132) 40 = .ok (.iconst 5, 1) := by decide +kernel
set_option maxRecDepth 20000 in
theorem w132_40 {d : Nat} {st : List Value} {Q : Option Value × jW → Prop} {ls : jL} {w : jW} : Wp d 132 40 ls (st) w Q = Wp d 132 41 ls (.int (nI 5) :: st) w Q := Wp.alu e132_40 rfl rfl
theorem e132_41 : decode (j_co 132) 41 = .ok (.iaload, 1) := by decide +kernel
set_option maxRecDepth 20000 in
theorem w132_41 {d : Nat} {st : List Value} {Q : Option Value × jW → Prop} {ls : jL} {xs : List Value} {I : fI} {L : fL} {o : Nat} {i : Int32} (ht : f_tg o = 100) (hi : ¬ (i < 0 ∨ f_ln o ≤ i.toNatClampNeg)) : Wp d 132 41 ls (.int i :: .ref o :: st) (f_W xs I L) Q = Wp d 132 42 ls (.int (I o i.toNatClampNeg) :: st) (f_W xs I L) Q := Wp.iald e132_41 ht hi
theorem e132_42 : decode (j_co 132) 42 = .ok (.if_icmp .le 7, 3) := by decide +kernel
set_option maxRecDepth 20000 in
theorem w132_42 {d : Nat} {st : List Value} {Q : Option Value × jW → Prop} {ls : jL} {w : jW} {a b : Int32} : Wp d 132 42 ls (.int b :: .int a :: st) w Q = ((a ≤ b → Wp d 132 49 ls st w Q) ∧ (¬ a ≤ b → Wp d 132 45 ls st w Q)) := Wp.if2 (c := a ≤ b) (off := 7) e132_42 rfl rfl rfl rfl rfl
theorem e132_45 : decode (j_co 132) 45 = .ok (.iconst 1, 1) := by decide +kernel
set_option maxRecDepth 20000 in
theorem w132_45 {d : Nat} {st : List Value} {Q : Option Value × jW → Prop} {ls : jL} {w : jW} : Wp d 132 45 ls (st) w Q = Wp d 132 46 ls (.int (nI 1) :: st) w Q := Wp.alu e132_45 rfl rfl
theorem e132_46 : decode (j_co 132) 46 = .ok (.goto 4, 3) := by decide +kernel
set_option maxRecDepth 20000 in
theorem w132_46 {d : Nat} {st : List Value} {Q : Option Value × jW → Prop} {ls : jL} {w : jW} : Wp d 132 46 ls (st) w Q = Wp d 132 50 ls (st) w Q := Wp.br e132_46 (Or.inl rfl) rfl rfl rfl rfl
theorem e132_49 : decode (j_co 132) 49 = .ok (.iconst 0, 1) := by decide +kernel
set_option maxRecDepth 20000 in
theorem w132_49 {d : Nat} {st : List Value} {Q : Option Value × jW → Prop} {ls : jL} {w : jW} : Wp d 132 49 ls (st) w Q = Wp d 132 50 ls (.int (nI 0) :: st) w Q := Wp.alu e132_49 rfl rfl
theorem e132_50 : decode (j_co 132) 50 = .ok (.ireturn, 1) := by decide +kernel
set_option maxRecDepth 20000 in
theorem w132_50 {d : Nat} {Q : Option Value × jW → Prop} {ls : jL} {w : jW} {x : Int32} (hx : x = 0 ∨ x = 1) : Wp d 132 50 ls [.int x] w Q = Q (some (.int x), w) := Wp.ret e132_50 (by rcases hx with rfl | rfl <;> rfl)
/-! M.adds -/
theorem e133_0 : decode (j_co 133) 0 = .ok (.aload_n 0, 1) := by decide +kernel
set_option maxRecDepth 20000 in
theorem w133_0 {d : Nat} {st : List Value} {Q : Option Value × jW → Prop} {w : jW} {a1 a2 a3 a4 : Option Value} {x : Nat} : Wp d 133 0 [some (.ref x), a1, a2, a3, a4] (st) w Q = Wp d 133 1 [some (.ref x), a1, a2, a3, a4] (.ref x :: st) w Q := Wp.loc e133_0 rfl rfl rfl
theorem e133_1 : decode (j_co 133) 1 = .ok (.getfield 51, 3) := by decide +kernel
set_option maxRecDepth 20000 in
theorem w133_1 {d : Nat} {st : List Value} {Q : Option Value × jW → Prop} {ls : jL} {xs : List Value} {I : fI} {L : fL} {o : Nat} (ht : f_tg o = 11) : Wp d 133 1 ls (.ref o :: st) (f_W xs I L) Q = Wp d 133 4 ls (.ref (f_rf o 17) :: st) (f_W xs I L) Q := Wp.getR (ci := 11) (k := 17) e133_1 rfl (by decide) (by decide) rfl ht
theorem e133_4 : decode (j_co 133) 4 = .ok (.aload_n 0, 1) := by decide +kernel
set_option maxRecDepth 20000 in
theorem w133_4 {d : Nat} {st : List Value} {Q : Option Value × jW → Prop} {w : jW} {a1 a2 a3 a4 : Option Value} {x : Nat} : Wp d 133 4 [some (.ref x), a1, a2, a3, a4] (st) w Q = Wp d 133 5 [some (.ref x), a1, a2, a3, a4] (.ref x :: st) w Q := Wp.loc e133_4 rfl rfl rfl
theorem e133_5 : decode (j_co 133) 5 = .ok (.getfield 135, 3) := by decide +kernel
set_option maxRecDepth 20000 in
theorem w133_5 {d : Nat} {st : List Value} {Q : Option Value × jW → Prop} {ls : jL} {xs : List Value} {I : fI} {L : fL} {o : Nat} (ht : f_tg o = 11) : Wp d 133 5 ls (.ref o :: st) (f_W xs I L) Q = Wp d 133 8 ls (.int (I o 16) :: st) (f_W xs I L) Q := Wp.getI (ci := 11) (k := 16) e133_5 rfl (by decide) (by decide) (by decide) ht
theorem e133_8 : decode (j_co 133) 8 = .ok (.iload_n 1, 1) := by decide +kernel
set_option maxRecDepth 20000 in
theorem w133_8 {d : Nat} {st : List Value} {Q : Option Value × jW → Prop} {w : jW} {a0 a2 a3 a4 : Option Value} {x : Int32} : Wp d 133 8 [a0, some (.int x), a2, a3, a4] (st) w Q = Wp d 133 9 [a0, some (.int x), a2, a3, a4] (.int x :: st) w Q := Wp.loc e133_8 rfl rfl rfl
theorem e133_9 : decode (j_co 133) 9 = .ok (.iastore, 1) := by decide +kernel
set_option maxRecDepth 20000 in
theorem w133_9 {d : Nat} {st : List Value} {Q : Option Value × jW → Prop} {ls : jL} {xs : List Value} {I : fI} {L : fL} {o : Nat} {i x : Int32} (ht : f_tg o = 100) (hi : ¬ (i < 0 ∨ f_ln o ≤ i.toNatClampNeg)) : Wp d 133 9 ls (.int x :: .int i :: .ref o :: st) (f_W xs I L) Q = Wp d 133 10 ls (st) (f_W xs (f_up I o i.toNatClampNeg x) L) Q := Wp.iast e133_9 ht hi
theorem e133_10 : decode (j_co 133) 10 = .ok (.iconst 0, 1) := by decide +kernel
set_option maxRecDepth 20000 in
theorem w133_10 {d : Nat} {st : List Value} {Q : Option Value × jW → Prop} {ls : jL} {w : jW} : Wp d 133 10 ls (st) w Q = Wp d 133 11 ls (.int (nI 0) :: st) w Q := Wp.alu e133_10 rfl rfl
theorem e133_11 : decode (j_co 133) 11 = .ok (.istore 4, 2) := by decide +kernel
set_option maxRecDepth 20000 in
theorem w133_11 {d : Nat} {st : List Value} {Q : Option Value × jW → Prop} {w : jW} {a0 a1 a2 a3 a4 : Option Value} {x : Int32} (h : j_cp a3) : Wp d 133 11 [a0, a1, a2, a3, a4] (.int x :: st) w Q = Wp d 133 13 [a0, a1, a2, a3, some (.int x)] (st) w Q := Wp.loc e133_11 rfl rfl (v_stI (ls := [a0, a1, a2, a3, a4]) (k := 4) (show 4 < 5 by decide) h)
theorem e133_13 : decode (j_co 133) 13 = .ok (.iload 4, 2) := by decide +kernel
set_option maxRecDepth 20000 in
theorem w133_13 {d : Nat} {st : List Value} {Q : Option Value × jW → Prop} {w : jW} {a0 a1 a2 a3 : Option Value} {x : Int32} : Wp d 133 13 [a0, a1, a2, a3, some (.int x)] (st) w Q = Wp d 133 15 [a0, a1, a2, a3, some (.int x)] (.int x :: st) w Q := Wp.loc e133_13 rfl rfl rfl
theorem e133_15 : decode (j_co 133) 15 = .ok (.bipush 6, 2) := by decide +kernel
set_option maxRecDepth 20000 in
theorem w133_15 {d : Nat} {st : List Value} {Q : Option Value × jW → Prop} {ls : jL} {w : jW} : Wp d 133 15 ls (st) w Q = Wp d 133 17 ls (.int (nI 6) :: st) w Q := Wp.alu e133_15 rfl rfl
theorem e133_17 : decode (j_co 133) 17 = .ok (.if_icmp .ge 31, 3) := by decide +kernel
set_option maxRecDepth 20000 in
theorem w133_17 {d : Nat} {st : List Value} {Q : Option Value × jW → Prop} {ls : jL} {w : jW} {a b : Int32} : Wp d 133 17 ls (.int b :: .int a :: st) w Q = ((b ≤ a → Wp d 133 48 ls st w Q) ∧ (¬ b ≤ a → Wp d 133 20 ls st w Q)) := Wp.if2 (c := b ≤ a) (off := 31) e133_17 rfl rfl rfl rfl rfl
theorem e133_20 : decode (j_co 133) 20 = .ok (.aload_n 0, 1) := by decide +kernel
set_option maxRecDepth 20000 in
theorem w133_20 {d : Nat} {st : List Value} {Q : Option Value × jW → Prop} {w : jW} {a1 a2 a3 a4 : Option Value} {x : Nat} : Wp d 133 20 [some (.ref x), a1, a2, a3, a4] (st) w Q = Wp d 133 21 [some (.ref x), a1, a2, a3, a4] (.ref x :: st) w Q := Wp.loc e133_20 rfl rfl rfl
theorem e133_21 : decode (j_co 133) 21 = .ok (.getfield 54, 3) := by decide +kernel
set_option maxRecDepth 20000 in
theorem w133_21 {d : Nat} {st : List Value} {Q : Option Value × jW → Prop} {ls : jL} {xs : List Value} {I : fI} {L : fL} {o : Nat} (ht : f_tg o = 11) : Wp d 133 21 ls (.ref o :: st) (f_W xs I L) Q = Wp d 133 24 ls (.ref (f_rf o 18) :: st) (f_W xs I L) Q := Wp.getR (ci := 11) (k := 18) e133_21 rfl (by decide) (by decide) rfl ht
theorem e133_24 : decode (j_co 133) 24 = .ok (.bipush 6, 2) := by decide +kernel
set_option maxRecDepth 20000 in
theorem w133_24 {d : Nat} {st : List Value} {Q : Option Value × jW → Prop} {ls : jL} {w : jW} : Wp d 133 24 ls (st) w Q = Wp d 133 26 ls (.int (nI 6) :: st) w Q := Wp.alu e133_24 rfl rfl
theorem e133_26 : decode (j_co 133) 26 = .ok (.aload_n 0, 1) := by decide +kernel
set_option maxRecDepth 20000 in
theorem w133_26 {d : Nat} {st : List Value} {Q : Option Value × jW → Prop} {w : jW} {a1 a2 a3 a4 : Option Value} {x : Nat} : Wp d 133 26 [some (.ref x), a1, a2, a3, a4] (st) w Q = Wp d 133 27 [some (.ref x), a1, a2, a3, a4] (.ref x :: st) w Q := Wp.loc e133_26 rfl rfl rfl
theorem e133_27 : decode (j_co 133) 27 = .ok (.getfield 135, 3) := by decide +kernel
set_option maxRecDepth 20000 in
theorem w133_27 {d : Nat} {st : List Value} {Q : Option Value × jW → Prop} {ls : jL} {xs : List Value} {I : fI} {L : fL} {o : Nat} (ht : f_tg o = 11) : Wp d 133 27 ls (.ref o :: st) (f_W xs I L) Q = Wp d 133 30 ls (.int (I o 16) :: st) (f_W xs I L) Q := Wp.getI (ci := 11) (k := 16) e133_27 rfl (by decide) (by decide) (by decide) ht
theorem e133_30 : decode (j_co 133) 30 = .ok (.imul, 1) := by decide +kernel
set_option maxRecDepth 20000 in
theorem w133_30 {d : Nat} {st : List Value} {Q : Option Value × jW → Prop} {ls : jL} {w : jW} {a b : Int32} : Wp d 133 30 ls (.int b :: .int a :: st) w Q = Wp d 133 31 ls (.int (a * b) :: st) w Q := Wp.alu e133_30 rfl rfl
theorem e133_31 : decode (j_co 133) 31 = .ok (.iload 4, 2) := by decide +kernel
set_option maxRecDepth 20000 in
theorem w133_31 {d : Nat} {st : List Value} {Q : Option Value × jW → Prop} {w : jW} {a0 a1 a2 a3 : Option Value} {x : Int32} : Wp d 133 31 [a0, a1, a2, a3, some (.int x)] (st) w Q = Wp d 133 33 [a0, a1, a2, a3, some (.int x)] (.int x :: st) w Q := Wp.loc e133_31 rfl rfl rfl
theorem e133_33 : decode (j_co 133) 33 = .ok (.iadd, 1) := by decide +kernel
set_option maxRecDepth 20000 in
theorem w133_33 {d : Nat} {st : List Value} {Q : Option Value × jW → Prop} {ls : jL} {w : jW} {a b : Int32} : Wp d 133 33 ls (.int b :: .int a :: st) w Q = Wp d 133 34 ls (.int (a + b) :: st) w Q := Wp.alu e133_33 rfl rfl
theorem e133_34 : decode (j_co 133) 34 = .ok (.aload_n 0, 1) := by decide +kernel
set_option maxRecDepth 20000 in
theorem w133_34 {d : Nat} {st : List Value} {Q : Option Value × jW → Prop} {w : jW} {a1 a2 a3 a4 : Option Value} {x : Nat} : Wp d 133 34 [some (.ref x), a1, a2, a3, a4] (st) w Q = Wp d 133 35 [some (.ref x), a1, a2, a3, a4] (.ref x :: st) w Q := Wp.loc e133_34 rfl rfl rfl
theorem e133_35 : decode (j_co 133) 35 = .ok (.getfield 48, 3) := by decide +kernel
set_option maxRecDepth 20000 in
theorem w133_35 {d : Nat} {st : List Value} {Q : Option Value × jW → Prop} {ls : jL} {xs : List Value} {I : fI} {L : fL} {o : Nat} (ht : f_tg o = 11) : Wp d 133 35 ls (.ref o :: st) (f_W xs I L) Q = Wp d 133 38 ls (.ref (f_rf o 15) :: st) (f_W xs I L) Q := Wp.getR (ci := 11) (k := 15) e133_35 rfl (by decide) (by decide) rfl ht
theorem e133_38 : decode (j_co 133) 38 = .ok (.iload 4, 2) := by decide +kernel
set_option maxRecDepth 20000 in
theorem w133_38 {d : Nat} {st : List Value} {Q : Option Value × jW → Prop} {w : jW} {a0 a1 a2 a3 : Option Value} {x : Int32} : Wp d 133 38 [a0, a1, a2, a3, some (.int x)] (st) w Q = Wp d 133 40 [a0, a1, a2, a3, some (.int x)] (.int x :: st) w Q := Wp.loc e133_38 rfl rfl rfl
theorem e133_40 : decode (j_co 133) 40 = .ok (.iaload, 1) := by decide +kernel
set_option maxRecDepth 20000 in
theorem w133_40 {d : Nat} {st : List Value} {Q : Option Value × jW → Prop} {ls : jL} {xs : List Value} {I : fI} {L : fL} {o : Nat} {i : Int32} (ht : f_tg o = 100) (hi : ¬ (i < 0 ∨ f_ln o ≤ i.toNatClampNeg)) : Wp d 133 40 ls (.int i :: .ref o :: st) (f_W xs I L) Q = Wp d 133 41 ls (.int (I o i.toNatClampNeg) :: st) (f_W xs I L) Q := Wp.iald e133_40 ht hi
theorem e133_41 : decode (j_co 133) 41 = .ok (.iastore, 1) := by decide +kernel
set_option maxRecDepth 20000 in
theorem w133_41 {d : Nat} {st : List Value} {Q : Option Value × jW → Prop} {ls : jL} {xs : List Value} {I : fI} {L : fL} {o : Nat} {i x : Int32} (ht : f_tg o = 100) (hi : ¬ (i < 0 ∨ f_ln o ≤ i.toNatClampNeg)) : Wp d 133 41 ls (.int x :: .int i :: .ref o :: st) (f_W xs I L) Q = Wp d 133 42 ls (st) (f_W xs (f_up I o i.toNatClampNeg x) L) Q := Wp.iast e133_41 ht hi
theorem e133_42 : decode (j_co 133) 42 = .ok (.iinc 4 1, 3) := by decide +kernel
set_option maxRecDepth 20000 in
theorem w133_42 {d : Nat} {st : List Value} {Q : Option Value × jW → Prop} {w : jW} {a0 a1 a2 a3 : Option Value} {x : Int32} (h : j_cp a3) : Wp d 133 42 [a0, a1, a2, a3, some (.int x)] (st) w Q = Wp d 133 45 [a0, a1, a2, a3, some (.int (x + nI 1))] (st) w Q := Wp.loc e133_42 rfl rfl (v_inc (ls := [a0, a1, a2, a3, some (.int x)]) (k := 4) (n := 1) rfl (show 4 < 5 by decide) h)
theorem e133_45 : decode (j_co 133) 45 = .ok (.goto (-32), 3) := by decide +kernel
set_option maxRecDepth 20000 in
theorem w133_45 {d : Nat} {st : List Value} {Q : Option Value × jW → Prop} {ls : jL} {w : jW} : Wp d 133 45 ls (st) w Q = Wp d 133 13 ls (st) w Q := Wp.br e133_45 (Or.inl rfl) rfl rfl rfl rfl
theorem e133_48 : decode (j_co 133) 48 = .ok (.aload_n 0, 1) := by decide +kernel
set_option maxRecDepth 20000 in
theorem w133_48 {d : Nat} {st : List Value} {Q : Option Value × jW → Prop} {w : jW} {a1 a2 a3 a4 : Option Value} {x : Nat} : Wp d 133 48 [some (.ref x), a1, a2, a3, a4] (st) w Q = Wp d 133 49 [some (.ref x), a1, a2, a3, a4] (.ref x :: st) w Q := Wp.loc e133_48 rfl rfl rfl
theorem e133_49 : decode (j_co 133) 49 = .ok (.getfield 57, 3) := by decide +kernel
set_option maxRecDepth 20000 in
theorem w133_49 {d : Nat} {st : List Value} {Q : Option Value × jW → Prop} {ls : jL} {xs : List Value} {I : fI} {L : fL} {o : Nat} (ht : f_tg o = 11) : Wp d 133 49 ls (.ref o :: st) (f_W xs I L) Q = Wp d 133 52 ls (.ref (f_rf o 19) :: st) (f_W xs I L) Q := Wp.getR (ci := 11) (k := 19) e133_49 rfl (by decide) (by decide) rfl ht
theorem e133_52 : decode (j_co 133) 52 = .ok (.aload_n 0, 1) := by decide +kernel
set_option maxRecDepth 20000 in
theorem w133_52 {d : Nat} {st : List Value} {Q : Option Value × jW → Prop} {w : jW} {a1 a2 a3 a4 : Option Value} {x : Nat} : Wp d 133 52 [some (.ref x), a1, a2, a3, a4] (st) w Q = Wp d 133 53 [some (.ref x), a1, a2, a3, a4] (.ref x :: st) w Q := Wp.loc e133_52 rfl rfl rfl
theorem e133_53 : decode (j_co 133) 53 = .ok (.getfield 135, 3) := by decide +kernel
set_option maxRecDepth 20000 in
theorem w133_53 {d : Nat} {st : List Value} {Q : Option Value × jW → Prop} {ls : jL} {xs : List Value} {I : fI} {L : fL} {o : Nat} (ht : f_tg o = 11) : Wp d 133 53 ls (.ref o :: st) (f_W xs I L) Q = Wp d 133 56 ls (.int (I o 16) :: st) (f_W xs I L) Q := Wp.getI (ci := 11) (k := 16) e133_53 rfl (by decide) (by decide) (by decide) ht
theorem e133_56 : decode (j_co 133) 56 = .ok (.iload_n 2, 1) := by decide +kernel
set_option maxRecDepth 20000 in
theorem w133_56 {d : Nat} {st : List Value} {Q : Option Value × jW → Prop} {w : jW} {a0 a1 a3 a4 : Option Value} {x : Int32} : Wp d 133 56 [a0, a1, some (.int x), a3, a4] (st) w Q = Wp d 133 57 [a0, a1, some (.int x), a3, a4] (.int x :: st) w Q := Wp.loc e133_56 rfl rfl rfl
theorem e133_57 : decode (j_co 133) 57 = .ok (.iastore, 1) := by decide +kernel
set_option maxRecDepth 20000 in
theorem w133_57 {d : Nat} {st : List Value} {Q : Option Value × jW → Prop} {ls : jL} {xs : List Value} {I : fI} {L : fL} {o : Nat} {i x : Int32} (ht : f_tg o = 100) (hi : ¬ (i < 0 ∨ f_ln o ≤ i.toNatClampNeg)) : Wp d 133 57 ls (.int x :: .int i :: .ref o :: st) (f_W xs I L) Q = Wp d 133 58 ls (st) (f_W xs (f_up I o i.toNatClampNeg x) L) Q := Wp.iast e133_57 ht hi
theorem e133_58 : decode (j_co 133) 58 = .ok (.aload_n 0, 1) := by decide +kernel
set_option maxRecDepth 20000 in
theorem w133_58 {d : Nat} {st : List Value} {Q : Option Value × jW → Prop} {w : jW} {a1 a2 a3 a4 : Option Value} {x : Nat} : Wp d 133 58 [some (.ref x), a1, a2, a3, a4] (st) w Q = Wp d 133 59 [some (.ref x), a1, a2, a3, a4] (.ref x :: st) w Q := Wp.loc e133_58 rfl rfl rfl
theorem e133_59 : decode (j_co 133) 59 = .ok (.getfield 60, 3) := by decide +kernel
set_option maxRecDepth 20000 in
theorem w133_59 {d : Nat} {st : List Value} {Q : Option Value × jW → Prop} {ls : jL} {xs : List Value} {I : fI} {L : fL} {o : Nat} (ht : f_tg o = 11) : Wp d 133 59 ls (.ref o :: st) (f_W xs I L) Q = Wp d 133 62 ls (.ref (f_rf o 20) :: st) (f_W xs I L) Q := Wp.getR (ci := 11) (k := 20) e133_59 rfl (by decide) (by decide) rfl ht
theorem e133_62 : decode (j_co 133) 62 = .ok (.aload_n 0, 1) := by decide +kernel
set_option maxRecDepth 20000 in
theorem w133_62 {d : Nat} {st : List Value} {Q : Option Value × jW → Prop} {w : jW} {a1 a2 a3 a4 : Option Value} {x : Nat} : Wp d 133 62 [some (.ref x), a1, a2, a3, a4] (st) w Q = Wp d 133 63 [some (.ref x), a1, a2, a3, a4] (.ref x :: st) w Q := Wp.loc e133_62 rfl rfl rfl
theorem e133_63 : decode (j_co 133) 63 = .ok (.getfield 135, 3) := by decide +kernel
set_option maxRecDepth 20000 in
theorem w133_63 {d : Nat} {st : List Value} {Q : Option Value × jW → Prop} {ls : jL} {xs : List Value} {I : fI} {L : fL} {o : Nat} (ht : f_tg o = 11) : Wp d 133 63 ls (.ref o :: st) (f_W xs I L) Q = Wp d 133 66 ls (.int (I o 16) :: st) (f_W xs I L) Q := Wp.getI (ci := 11) (k := 16) e133_63 rfl (by decide) (by decide) (by decide) ht
theorem e133_66 : decode (j_co 133) 66 = .ok (.iload_n 3, 1) := by decide +kernel
set_option maxRecDepth 20000 in
theorem w133_66 {d : Nat} {st : List Value} {Q : Option Value × jW → Prop} {w : jW} {a0 a1 a2 a4 : Option Value} {x : Int32} : Wp d 133 66 [a0, a1, a2, some (.int x), a4] (st) w Q = Wp d 133 67 [a0, a1, a2, some (.int x), a4] (.int x :: st) w Q := Wp.loc e133_66 rfl rfl rfl
theorem e133_67 : decode (j_co 133) 67 = .ok (.iastore, 1) := by decide +kernel
set_option maxRecDepth 20000 in
theorem w133_67 {d : Nat} {st : List Value} {Q : Option Value × jW → Prop} {ls : jL} {xs : List Value} {I : fI} {L : fL} {o : Nat} {i x : Int32} (ht : f_tg o = 100) (hi : ¬ (i < 0 ∨ f_ln o ≤ i.toNatClampNeg)) : Wp d 133 67 ls (.int x :: .int i :: .ref o :: st) (f_W xs I L) Q = Wp d 133 68 ls (st) (f_W xs (f_up I o i.toNatClampNeg x) L) Q := Wp.iast e133_67 ht hi
theorem e133_68 : decode (j_co 133) 68 = .ok (.aload_n 0, 1) := by decide +kernel
set_option maxRecDepth 20000 in
theorem w133_68 {d : Nat} {st : List Value} {Q : Option Value × jW → Prop} {w : jW} {a1 a2 a3 a4 : Option Value} {x : Nat} : Wp d 133 68 [some (.ref x), a1, a2, a3, a4] (st) w Q = Wp d 133 69 [some (.ref x), a1, a2, a3, a4] (.ref x :: st) w Q := Wp.loc e133_68 rfl rfl rfl
theorem e133_69 : decode (j_co 133) 69 = .ok (.getfield 63, 3) := by decide +kernel
set_option maxRecDepth 20000 in
theorem w133_69 {d : Nat} {st : List Value} {Q : Option Value × jW → Prop} {ls : jL} {xs : List Value} {I : fI} {L : fL} {o : Nat} (ht : f_tg o = 11) : Wp d 133 69 ls (.ref o :: st) (f_W xs I L) Q = Wp d 133 72 ls (.ref (f_rf o 21) :: st) (f_W xs I L) Q := Wp.getR (ci := 11) (k := 21) e133_69 rfl (by decide) (by decide) rfl ht
theorem e133_72 : decode (j_co 133) 72 = .ok (.aload_n 0, 1) := by decide +kernel
set_option maxRecDepth 20000 in
theorem w133_72 {d : Nat} {st : List Value} {Q : Option Value × jW → Prop} {w : jW} {a1 a2 a3 a4 : Option Value} {x : Nat} : Wp d 133 72 [some (.ref x), a1, a2, a3, a4] (st) w Q = Wp d 133 73 [some (.ref x), a1, a2, a3, a4] (.ref x :: st) w Q := Wp.loc e133_72 rfl rfl rfl
theorem e133_73 : decode (j_co 133) 73 = .ok (.getfield 135, 3) := by decide +kernel
set_option maxRecDepth 20000 in
theorem w133_73 {d : Nat} {st : List Value} {Q : Option Value × jW → Prop} {ls : jL} {xs : List Value} {I : fI} {L : fL} {o : Nat} (ht : f_tg o = 11) : Wp d 133 73 ls (.ref o :: st) (f_W xs I L) Q = Wp d 133 76 ls (.int (I o 16) :: st) (f_W xs I L) Q := Wp.getI (ci := 11) (k := 16) e133_73 rfl (by decide) (by decide) (by decide) ht
theorem e133_76 : decode (j_co 133) 76 = .ok (.iconst 0, 1) := by decide +kernel
set_option maxRecDepth 20000 in
theorem w133_76 {d : Nat} {st : List Value} {Q : Option Value × jW → Prop} {ls : jL} {w : jW} : Wp d 133 76 ls (st) w Q = Wp d 133 77 ls (.int (nI 0) :: st) w Q := Wp.alu e133_76 rfl rfl
theorem e133_77 : decode (j_co 133) 77 = .ok (.bastore, 1) := by decide +kernel
set_option maxRecDepth 20000 in
theorem w133_77 {d : Nat} {st : List Value} {Q : Option Value × jW → Prop} {ls : jL} {xs : List Value} {I : fI} {L : fL} {o : Nat} {i x : Int32} (ht : f_tg o = 101) (hi : ¬ (i < 0 ∨ f_ln o ≤ i.toNatClampNeg)) (hx : x = 0 ∨ x = 1) : Wp d 133 77 ls (.int x :: .int i :: .ref o :: st) (f_W xs I L) Q = Wp d 133 78 ls (st) (f_W xs (f_up I o i.toNatClampNeg x) L) Q := Wp.zast e133_77 ht hi hx
theorem e133_78 : decode (j_co 133) 78 = .ok (.aload_n 0, 1) := by decide +kernel
set_option maxRecDepth 20000 in
theorem w133_78 {d : Nat} {st : List Value} {Q : Option Value × jW → Prop} {w : jW} {a1 a2 a3 a4 : Option Value} {x : Nat} : Wp d 133 78 [some (.ref x), a1, a2, a3, a4] (st) w Q = Wp d 133 79 [some (.ref x), a1, a2, a3, a4] (.ref x :: st) w Q := Wp.loc e133_78 rfl rfl rfl
theorem e133_79 : decode (j_co 133) 79 = .ok (.getfield 66, 3) := by decide +kernel
set_option maxRecDepth 20000 in
theorem w133_79 {d : Nat} {st : List Value} {Q : Option Value × jW → Prop} {ls : jL} {xs : List Value} {I : fI} {L : fL} {o : Nat} (ht : f_tg o = 11) : Wp d 133 79 ls (.ref o :: st) (f_W xs I L) Q = Wp d 133 82 ls (.ref (f_rf o 22) :: st) (f_W xs I L) Q := Wp.getR (ci := 11) (k := 22) e133_79 rfl (by decide) (by decide) rfl ht
theorem e133_82 : decode (j_co 133) 82 = .ok (.aload_n 0, 1) := by decide +kernel
set_option maxRecDepth 20000 in
theorem w133_82 {d : Nat} {st : List Value} {Q : Option Value × jW → Prop} {w : jW} {a1 a2 a3 a4 : Option Value} {x : Nat} : Wp d 133 82 [some (.ref x), a1, a2, a3, a4] (st) w Q = Wp d 133 83 [some (.ref x), a1, a2, a3, a4] (.ref x :: st) w Q := Wp.loc e133_82 rfl rfl rfl
theorem e133_83 : decode (j_co 133) 83 = .ok (.getfield 135, 3) := by decide +kernel
set_option maxRecDepth 20000 in
theorem w133_83 {d : Nat} {st : List Value} {Q : Option Value × jW → Prop} {ls : jL} {xs : List Value} {I : fI} {L : fL} {o : Nat} (ht : f_tg o = 11) : Wp d 133 83 ls (.ref o :: st) (f_W xs I L) Q = Wp d 133 86 ls (.int (I o 16) :: st) (f_W xs I L) Q := Wp.getI (ci := 11) (k := 16) e133_83 rfl (by decide) (by decide) (by decide) ht
theorem e133_86 : decode (j_co 133) 86 = .ok (.iconst 0, 1) := by decide +kernel
set_option maxRecDepth 20000 in
theorem w133_86 {d : Nat} {st : List Value} {Q : Option Value × jW → Prop} {ls : jL} {w : jW} : Wp d 133 86 ls (st) w Q = Wp d 133 87 ls (.int (nI 0) :: st) w Q := Wp.alu e133_86 rfl rfl
theorem e133_87 : decode (j_co 133) 87 = .ok (.bastore, 1) := by decide +kernel
set_option maxRecDepth 20000 in
theorem w133_87 {d : Nat} {st : List Value} {Q : Option Value × jW → Prop} {ls : jL} {xs : List Value} {I : fI} {L : fL} {o : Nat} {i x : Int32} (ht : f_tg o = 101) (hi : ¬ (i < 0 ∨ f_ln o ≤ i.toNatClampNeg)) (hx : x = 0 ∨ x = 1) : Wp d 133 87 ls (.int x :: .int i :: .ref o :: st) (f_W xs I L) Q = Wp d 133 88 ls (st) (f_W xs (f_up I o i.toNatClampNeg x) L) Q := Wp.zast e133_87 ht hi hx
theorem e133_88 : decode (j_co 133) 88 = .ok (.aload_n 0, 1) := by decide +kernel
set_option maxRecDepth 20000 in
theorem w133_88 {d : Nat} {st : List Value} {Q : Option Value × jW → Prop} {w : jW} {a1 a2 a3 a4 : Option Value} {x : Nat} : Wp d 133 88 [some (.ref x), a1, a2, a3, a4] (st) w Q = Wp d 133 89 [some (.ref x), a1, a2, a3, a4] (.ref x :: st) w Q := Wp.loc e133_88 rfl rfl rfl
theorem e133_89 : decode (j_co 133) 89 = .ok (.dup, 1) := by decide +kernel
set_option maxRecDepth 20000 in
theorem w133_89 {d : Nat} {st : List Value} {Q : Option Value × jW → Prop} {ls : jL} {w : jW} {a : Int32} : Wp d 133 89 ls (.int a :: st) w Q = Wp d 133 90 ls (.int a :: .int a :: st) w Q := Wp.alu e133_89 rfl rfl
set_option maxRecDepth 20000 in
theorem w133_89r {d : Nat} {st : List Value} {Q : Option Value × jW → Prop} {ls : jL} {w : jW} {a : Nat} : Wp d 133 89 ls (.ref a :: st) w Q = Wp d 133 90 ls (.ref a :: .ref a :: st) w Q := Wp.alu e133_89 rfl rfl
theorem e133_90 : decode (j_co 133) 90 = .ok (.getfield 135, 3) := by decide +kernel
set_option maxRecDepth 20000 in
theorem w133_90 {d : Nat} {st : List Value} {Q : Option Value × jW → Prop} {ls : jL} {xs : List Value} {I : fI} {L : fL} {o : Nat} (ht : f_tg o = 11) : Wp d 133 90 ls (.ref o :: st) (f_W xs I L) Q = Wp d 133 93 ls (.int (I o 16) :: st) (f_W xs I L) Q := Wp.getI (ci := 11) (k := 16) e133_90 rfl (by decide) (by decide) (by decide) ht
theorem e133_93 : decode (j_co 133) 93 = .ok (.iconst 1, 1) := by decide +kernel
set_option maxRecDepth 20000 in
theorem w133_93 {d : Nat} {st : List Value} {Q : Option Value × jW → Prop} {ls : jL} {w : jW} : Wp d 133 93 ls (st) w Q = Wp d 133 94 ls (.int (nI 1) :: st) w Q := Wp.alu e133_93 rfl rfl
theorem e133_94 : decode (j_co 133) 94 = .ok (.iadd, 1) := by decide +kernel
set_option maxRecDepth 20000 in
theorem w133_94 {d : Nat} {st : List Value} {Q : Option Value × jW → Prop} {ls : jL} {w : jW} {a b : Int32} : Wp d 133 94 ls (.int b :: .int a :: st) w Q = Wp d 133 95 ls (.int (a + b) :: st) w Q := Wp.alu e133_94 rfl rfl
theorem e133_95 : decode (j_co 133) 95 = .ok (.putfield 135, 3) := by decide +kernel
set_option maxRecDepth 20000 in
theorem w133_95 {d : Nat} {st : List Value} {Q : Option Value × jW → Prop} {ls : jL} {xs : List Value} {I : fI} {L : fL} {o : Nat} {x : Int32} (ht : f_tg o = 11) : Wp d 133 95 ls (.int x :: .ref o :: st) (f_W xs I L) Q = Wp d 133 98 ls (st) (f_W xs (f_up I o 16 x) L) Q := Wp.putI (ci := 11) (k := 16) e133_95 rfl (by decide) (by decide) rfl (by decide) ht
theorem e133_98 : decode (j_co 133) 98 = .ok (.return_, 1) := by decide +kernel
set_option maxRecDepth 20000 in
theorem w133_98 {d : Nat} {Q : Option Value × jW → Prop} {ls : jL} {w : jW} : Wp d 133 98 ls [] w Q = Q (none, w) := Wp.ret e133_98 rfl
/-! M.nextHeap -/
theorem e134_0 : decode (j_co 134) 0 = .ok (.iconst 0, 1) := by decide +kernel
set_option maxRecDepth 20000 in
theorem w134_0 {d : Nat} {st : List Value} {Q : Option Value × jW → Prop} {ls : jL} {w : jW} : Wp d 134 0 ls (st) w Q = Wp d 134 1 ls (.int (nI 0) :: st) w Q := Wp.alu e134_0 rfl rfl
theorem e134_1 : decode (j_co 134) 1 = .ok (.istore_n 1, 1) := by decide +kernel
set_option maxRecDepth 20000 in
theorem w134_1 {d : Nat} {st : List Value} {Q : Option Value × jW → Prop} {w : jW} {a0 a1 : Option Value} {x : Int32} (h : j_cp a0) : Wp d 134 1 [a0, a1] (.int x :: st) w Q = Wp d 134 2 [a0, some (.int x)] (st) w Q := Wp.loc e134_1 rfl rfl (v_stI (ls := [a0, a1]) (k := 1) (show 1 < 2 by decide) h)
theorem e134_2 : decode (j_co 134) 2 = .ok (.iload_n 1, 1) := by decide +kernel
set_option maxRecDepth 20000 in
theorem w134_2 {d : Nat} {st : List Value} {Q : Option Value × jW → Prop} {w : jW} {a0 : Option Value} {x : Int32} : Wp d 134 2 [a0, some (.int x)] (st) w Q = Wp d 134 3 [a0, some (.int x)] (.int x :: st) w Q := Wp.loc e134_2 rfl rfl rfl
theorem e134_3 : decode (j_co 134) 3 = .ok (.aload_n 0, 1) := by decide +kernel
set_option maxRecDepth 20000 in
theorem w134_3 {d : Nat} {st : List Value} {Q : Option Value × jW → Prop} {w : jW} {a1 : Option Value} {x : Nat} : Wp d 134 3 [some (.ref x), a1] (st) w Q = Wp d 134 4 [some (.ref x), a1] (.ref x :: st) w Q := Wp.loc e134_3 rfl rfl rfl
theorem e134_4 : decode (j_co 134) 4 = .ok (.getfield 135, 3) := by decide +kernel
set_option maxRecDepth 20000 in
theorem w134_4 {d : Nat} {st : List Value} {Q : Option Value × jW → Prop} {ls : jL} {xs : List Value} {I : fI} {L : fL} {o : Nat} (ht : f_tg o = 11) : Wp d 134 4 ls (.ref o :: st) (f_W xs I L) Q = Wp d 134 7 ls (.int (I o 16) :: st) (f_W xs I L) Q := Wp.getI (ci := 11) (k := 16) e134_4 rfl (by decide) (by decide) (by decide) ht
theorem e134_7 : decode (j_co 134) 7 = .ok (.if_icmp .ge 20, 3) := by decide +kernel
set_option maxRecDepth 20000 in
theorem w134_7 {d : Nat} {st : List Value} {Q : Option Value × jW → Prop} {ls : jL} {w : jW} {a b : Int32} : Wp d 134 7 ls (.int b :: .int a :: st) w Q = ((b ≤ a → Wp d 134 27 ls st w Q) ∧ (¬ b ≤ a → Wp d 134 10 ls st w Q)) := Wp.if2 (c := b ≤ a) (off := 20) e134_7 rfl rfl rfl rfl rfl
theorem e134_10 : decode (j_co 134) 10 = .ok (.aload_n 0, 1) := by decide +kernel
set_option maxRecDepth 20000 in
theorem w134_10 {d : Nat} {st : List Value} {Q : Option Value × jW → Prop} {w : jW} {a1 : Option Value} {x : Nat} : Wp d 134 10 [some (.ref x), a1] (st) w Q = Wp d 134 11 [some (.ref x), a1] (.ref x :: st) w Q := Wp.loc e134_10 rfl rfl rfl
theorem e134_11 : decode (j_co 134) 11 = .ok (.getfield 66, 3) := by decide +kernel
set_option maxRecDepth 20000 in
theorem w134_11 {d : Nat} {st : List Value} {Q : Option Value × jW → Prop} {ls : jL} {xs : List Value} {I : fI} {L : fL} {o : Nat} (ht : f_tg o = 11) : Wp d 134 11 ls (.ref o :: st) (f_W xs I L) Q = Wp d 134 14 ls (.ref (f_rf o 22) :: st) (f_W xs I L) Q := Wp.getR (ci := 11) (k := 22) e134_11 rfl (by decide) (by decide) rfl ht
theorem e134_14 : decode (j_co 134) 14 = .ok (.iload_n 1, 1) := by decide +kernel
set_option maxRecDepth 20000 in
theorem w134_14 {d : Nat} {st : List Value} {Q : Option Value × jW → Prop} {w : jW} {a0 : Option Value} {x : Int32} : Wp d 134 14 [a0, some (.int x)] (st) w Q = Wp d 134 15 [a0, some (.int x)] (.int x :: st) w Q := Wp.loc e134_14 rfl rfl rfl
theorem e134_15 : decode (j_co 134) 15 = .ok (.baload, 1) := by decide +kernel
set_option maxRecDepth 20000 in
theorem w134_15 {d : Nat} {st : List Value} {Q : Option Value × jW → Prop} {ls : jL} {xs : List Value} {I : fI} {L : fL} {o : Nat} {i : Int32} (ht : f_tg o = 101) (hi : ¬ (i < 0 ∨ f_ln o ≤ i.toNatClampNeg)) : Wp d 134 15 ls (.int i :: .ref o :: st) (f_W xs I L) Q = Wp d 134 16 ls (.int (I o i.toNatClampNeg) :: st) (f_W xs I L) Q := Wp.zald e134_15 ht hi
theorem e134_16 : decode (j_co 134) 16 = .ok (.ifCond .ne 5, 3) := by decide +kernel
set_option maxRecDepth 20000 in
theorem w134_16 {d : Nat} {st : List Value} {Q : Option Value × jW → Prop} {ls : jL} {w : jW} {a : Int32} : Wp d 134 16 ls (.int a :: st) w Q = ((a = nI 0 → Wp d 134 19 ls st w Q) ∧ (¬ a = nI 0 → Wp d 134 21 ls st w Q)) := Wp.if2n (c := a = nI 0) (off := 5) e134_16 rfl rfl rfl rfl rfl
theorem e134_19 : decode (j_co 134) 19 = .ok (.iload_n 1, 1) := by decide +kernel
set_option maxRecDepth 20000 in
theorem w134_19 {d : Nat} {st : List Value} {Q : Option Value × jW → Prop} {w : jW} {a0 : Option Value} {x : Int32} : Wp d 134 19 [a0, some (.int x)] (st) w Q = Wp d 134 20 [a0, some (.int x)] (.int x :: st) w Q := Wp.loc e134_19 rfl rfl rfl
theorem e134_20 : decode (j_co 134) 20 = .ok (.ireturn, 1) := by decide +kernel
set_option maxRecDepth 20000 in
theorem w134_20 {d : Nat} {Q : Option Value × jW → Prop} {ls : jL} {w : jW} {x : Int32} : Wp d 134 20 ls [.int x] w Q = Q (some (.int x), w) := Wp.ret e134_20 rfl
theorem e134_21 : decode (j_co 134) 21 = .ok (.iinc 1 1, 3) := by decide +kernel
set_option maxRecDepth 20000 in
theorem w134_21 {d : Nat} {st : List Value} {Q : Option Value × jW → Prop} {w : jW} {a0 : Option Value} {x : Int32} (h : j_cp a0) : Wp d 134 21 [a0, some (.int x)] (st) w Q = Wp d 134 24 [a0, some (.int (x + nI 1))] (st) w Q := Wp.loc e134_21 rfl rfl (v_inc (ls := [a0, some (.int x)]) (k := 1) (n := 1) rfl (show 1 < 2 by decide) h)
theorem e134_24 : decode (j_co 134) 24 = .ok (.goto (-22), 3) := by decide +kernel
set_option maxRecDepth 20000 in
theorem w134_24 {d : Nat} {st : List Value} {Q : Option Value × jW → Prop} {ls : jL} {w : jW} : Wp d 134 24 ls (st) w Q = Wp d 134 2 ls (st) w Q := Wp.br e134_24 (Or.inl rfl) rfl rfl rfl rfl
theorem e134_27 : decode (j_co 134) 27 = .ok (.bipush (-4), 2) := by decide +kernel
set_option maxRecDepth 20000 in
theorem w134_27 {d : Nat} {st : List Value} {Q : Option Value × jW → Prop} {ls : jL} {w : jW} : Wp d 134 27 ls (st) w Q = Wp d 134 29 ls (.int (-4) :: st) w Q := Wp.alu e134_27 rfl rfl
theorem e134_29 : decode (j_co 134) 29 = .ok (.ireturn, 1) := by decide +kernel
set_option maxRecDepth 20000 in
theorem w134_29 {d : Nat} {Q : Option Value × jW → Prop} {ls : jL} {w : jW} {x : Int32} : Wp d 134 29 ls [.int x] w Q = Q (some (.int x), w) := Wp.ret e134_29 rfl
/-! M.work -/
theorem e135_0 : decode (j_co 135) 0 = .ok (.aload_n 0, 1) := by decide +kernel
set_option maxRecDepth 20000 in
theorem w135_0 {d : Nat} {st : List Value} {Q : Option Value × jW → Prop} {w : jW} {a1 a2 a3 : Option Value} {x : Nat} : Wp d 135 0 [some (.ref x), a1, a2, a3] (st) w Q = Wp d 135 1 [some (.ref x), a1, a2, a3] (.ref x :: st) w Q := Wp.loc e135_0 rfl rfl rfl
theorem e135_1 : decode (j_co 135) 1 = .ok (.dup, 1) := by decide +kernel
set_option maxRecDepth 20000 in
theorem w135_1 {d : Nat} {st : List Value} {Q : Option Value × jW → Prop} {ls : jL} {w : jW} {a : Int32} : Wp d 135 1 ls (.int a :: st) w Q = Wp d 135 2 ls (.int a :: .int a :: st) w Q := Wp.alu e135_1 rfl rfl
set_option maxRecDepth 20000 in
theorem w135_1r {d : Nat} {st : List Value} {Q : Option Value × jW → Prop} {ls : jL} {w : jW} {a : Nat} : Wp d 135 1 ls (.ref a :: st) w Q = Wp d 135 2 ls (.ref a :: .ref a :: st) w Q := Wp.alu e135_1 rfl rfl
theorem e135_2 : decode (j_co 135) 2 = .ok (.getfield 156, 3) := by decide +kernel
set_option maxRecDepth 20000 in
theorem w135_2 {d : Nat} {st : List Value} {Q : Option Value × jW → Prop} {ls : jL} {xs : List Value} {I : fI} {L : fL} {o : Nat} (ht : f_tg o = 11) : Wp d 135 2 ls (.ref o :: st) (f_W xs I L) Q = Wp d 135 5 ls (.int (I o 23) :: st) (f_W xs I L) Q := Wp.getI (ci := 11) (k := 23) e135_2 rfl (by decide) (by decide) (by decide) ht
theorem e135_5 : decode (j_co 135) 5 = .ok (.iconst 1, 1) := by decide +kernel
set_option maxRecDepth 20000 in
theorem w135_5 {d : Nat} {st : List Value} {Q : Option Value × jW → Prop} {ls : jL} {w : jW} : Wp d 135 5 ls (st) w Q = Wp d 135 6 ls (.int (nI 1) :: st) w Q := Wp.alu e135_5 rfl rfl
theorem e135_6 : decode (j_co 135) 6 = .ok (.iadd, 1) := by decide +kernel
set_option maxRecDepth 20000 in
theorem w135_6 {d : Nat} {st : List Value} {Q : Option Value × jW → Prop} {ls : jL} {w : jW} {a b : Int32} : Wp d 135 6 ls (.int b :: .int a :: st) w Q = Wp d 135 7 ls (.int (a + b) :: st) w Q := Wp.alu e135_6 rfl rfl
theorem e135_7 : decode (j_co 135) 7 = .ok (.putfield 156, 3) := by decide +kernel
set_option maxRecDepth 20000 in
theorem w135_7 {d : Nat} {st : List Value} {Q : Option Value × jW → Prop} {ls : jL} {xs : List Value} {I : fI} {L : fL} {o : Nat} {x : Int32} (ht : f_tg o = 11) : Wp d 135 7 ls (.int x :: .ref o :: st) (f_W xs I L) Q = Wp d 135 10 ls (st) (f_W xs (f_up I o 23 x) L) Q := Wp.putI (ci := 11) (k := 23) e135_7 rfl (by decide) (by decide) rfl (by decide) ht
theorem e135_10 : decode (j_co 135) 10 = .ok (.aload_n 0, 1) := by decide +kernel
set_option maxRecDepth 20000 in
theorem w135_10 {d : Nat} {st : List Value} {Q : Option Value × jW → Prop} {w : jW} {a1 a2 a3 : Option Value} {x : Nat} : Wp d 135 10 [some (.ref x), a1, a2, a3] (st) w Q = Wp d 135 11 [some (.ref x), a1, a2, a3] (.ref x :: st) w Q := Wp.loc e135_10 rfl rfl rfl
theorem e135_11 : decode (j_co 135) 11 = .ok (.iconst 0, 1) := by decide +kernel
set_option maxRecDepth 20000 in
theorem w135_11 {d : Nat} {st : List Value} {Q : Option Value × jW → Prop} {ls : jL} {w : jW} : Wp d 135 11 ls (st) w Q = Wp d 135 12 ls (.int (nI 0) :: st) w Q := Wp.alu e135_11 rfl rfl
theorem e135_12 : decode (j_co 135) 12 = .ok (.putfield 153, 3) := by decide +kernel
set_option maxRecDepth 20000 in
theorem w135_12 {d : Nat} {st : List Value} {Q : Option Value × jW → Prop} {ls : jL} {xs : List Value} {I : fI} {L : fL} {o : Nat} {x : Int32} (ht : f_tg o = 11) (hx : x = 0 ∨ x = 1) : Wp d 135 12 ls (.int x :: .ref o :: st) (f_W xs I L) Q = Wp d 135 15 ls (st) (f_W xs (f_up I o 25 x) L) Q := Wp.putI (ci := 11) (k := 25) e135_12 rfl (by decide) (by decide) (by rcases hx with rfl | rfl <;> rfl) (by decide) ht
theorem e135_15 : decode (j_co 135) 15 = .ok (.aload_n 0, 1) := by decide +kernel
set_option maxRecDepth 20000 in
theorem w135_15 {d : Nat} {st : List Value} {Q : Option Value × jW → Prop} {w : jW} {a1 a2 a3 : Option Value} {x : Nat} : Wp d 135 15 [some (.ref x), a1, a2, a3] (st) w Q = Wp d 135 16 [some (.ref x), a1, a2, a3] (.ref x :: st) w Q := Wp.loc e135_15 rfl rfl rfl
theorem e135_16 : decode (j_co 135) 16 = .ok (.getfield 51, 3) := by decide +kernel
set_option maxRecDepth 20000 in
theorem w135_16 {d : Nat} {st : List Value} {Q : Option Value × jW → Prop} {ls : jL} {xs : List Value} {I : fI} {L : fL} {o : Nat} (ht : f_tg o = 11) : Wp d 135 16 ls (.ref o :: st) (f_W xs I L) Q = Wp d 135 19 ls (.ref (f_rf o 17) :: st) (f_W xs I L) Q := Wp.getR (ci := 11) (k := 17) e135_16 rfl (by decide) (by decide) rfl ht
theorem e135_19 : decode (j_co 135) 19 = .ok (.iload_n 1, 1) := by decide +kernel
set_option maxRecDepth 20000 in
theorem w135_19 {d : Nat} {st : List Value} {Q : Option Value × jW → Prop} {w : jW} {a0 a2 a3 : Option Value} {x : Int32} : Wp d 135 19 [a0, some (.int x), a2, a3] (st) w Q = Wp d 135 20 [a0, some (.int x), a2, a3] (.int x :: st) w Q := Wp.loc e135_19 rfl rfl rfl
theorem e135_20 : decode (j_co 135) 20 = .ok (.iaload, 1) := by decide +kernel
set_option maxRecDepth 20000 in
theorem w135_20 {d : Nat} {st : List Value} {Q : Option Value × jW → Prop} {ls : jL} {xs : List Value} {I : fI} {L : fL} {o : Nat} {i : Int32} (ht : f_tg o = 100) (hi : ¬ (i < 0 ∨ f_ln o ≤ i.toNatClampNeg)) : Wp d 135 20 ls (.int i :: .ref o :: st) (f_W xs I L) Q = Wp d 135 21 ls (.int (I o i.toNatClampNeg) :: st) (f_W xs I L) Q := Wp.iald e135_20 ht hi
theorem e135_21 : decode (j_co 135) 21 = .ok (.istore_n 2, 1) := by decide +kernel
set_option maxRecDepth 20000 in
theorem w135_21 {d : Nat} {st : List Value} {Q : Option Value × jW → Prop} {w : jW} {a0 a1 a2 a3 : Option Value} {x : Int32} (h : j_cp a1) : Wp d 135 21 [a0, a1, a2, a3] (.int x :: st) w Q = Wp d 135 22 [a0, a1, some (.int x), a3] (st) w Q := Wp.loc e135_21 rfl rfl (v_stI (ls := [a0, a1, a2, a3]) (k := 2) (show 2 < 4 by decide) h)
theorem e135_22 : decode (j_co 135) 22 = .ok (.iconst 0, 1) := by decide +kernel
set_option maxRecDepth 20000 in
theorem w135_22 {d : Nat} {st : List Value} {Q : Option Value × jW → Prop} {ls : jL} {w : jW} : Wp d 135 22 ls (st) w Q = Wp d 135 23 ls (.int (nI 0) :: st) w Q := Wp.alu e135_22 rfl rfl
theorem e135_23 : decode (j_co 135) 23 = .ok (.istore_n 3, 1) := by decide +kernel
set_option maxRecDepth 20000 in
theorem w135_23 {d : Nat} {st : List Value} {Q : Option Value × jW → Prop} {w : jW} {a0 a1 a2 a3 : Option Value} {x : Int32} (h : j_cp a2) : Wp d 135 23 [a0, a1, a2, a3] (.int x :: st) w Q = Wp d 135 24 [a0, a1, a2, some (.int x)] (st) w Q := Wp.loc e135_23 rfl rfl (v_stI (ls := [a0, a1, a2, a3]) (k := 3) (show 3 < 4 by decide) h)
theorem e135_24 : decode (j_co 135) 24 = .ok (.iload_n 3, 1) := by decide +kernel
set_option maxRecDepth 20000 in
theorem w135_24 {d : Nat} {st : List Value} {Q : Option Value × jW → Prop} {w : jW} {a0 a1 a2 : Option Value} {x : Int32} : Wp d 135 24 [a0, a1, a2, some (.int x)] (st) w Q = Wp d 135 25 [a0, a1, a2, some (.int x)] (.int x :: st) w Q := Wp.loc e135_24 rfl rfl rfl
theorem e135_25 : decode (j_co 135) 25 = .ok (.bipush 6, 2) := by decide +kernel
set_option maxRecDepth 20000 in
theorem w135_25 {d : Nat} {st : List Value} {Q : Option Value × jW → Prop} {ls : jL} {w : jW} : Wp d 135 25 ls (st) w Q = Wp d 135 27 ls (.int (nI 6) :: st) w Q := Wp.alu e135_25 rfl rfl
theorem e135_27 : decode (j_co 135) 27 = .ok (.if_icmp .ge 26, 3) := by decide +kernel
set_option maxRecDepth 20000 in
theorem w135_27 {d : Nat} {st : List Value} {Q : Option Value × jW → Prop} {ls : jL} {w : jW} {a b : Int32} : Wp d 135 27 ls (.int b :: .int a :: st) w Q = ((b ≤ a → Wp d 135 53 ls st w Q) ∧ (¬ b ≤ a → Wp d 135 30 ls st w Q)) := Wp.if2 (c := b ≤ a) (off := 26) e135_27 rfl rfl rfl rfl rfl
theorem e135_30 : decode (j_co 135) 30 = .ok (.aload_n 0, 1) := by decide +kernel
set_option maxRecDepth 20000 in
theorem w135_30 {d : Nat} {st : List Value} {Q : Option Value × jW → Prop} {w : jW} {a1 a2 a3 : Option Value} {x : Nat} : Wp d 135 30 [some (.ref x), a1, a2, a3] (st) w Q = Wp d 135 31 [some (.ref x), a1, a2, a3] (.ref x :: st) w Q := Wp.loc e135_30 rfl rfl rfl
theorem e135_31 : decode (j_co 135) 31 = .ok (.getfield 69, 3) := by decide +kernel
set_option maxRecDepth 20000 in
theorem w135_31 {d : Nat} {st : List Value} {Q : Option Value × jW → Prop} {ls : jL} {xs : List Value} {I : fI} {L : fL} {o : Nat} (ht : f_tg o = 11) : Wp d 135 31 ls (.ref o :: st) (f_W xs I L) Q = Wp d 135 34 ls (.ref (f_rf o 26) :: st) (f_W xs I L) Q := Wp.getR (ci := 11) (k := 26) e135_31 rfl (by decide) (by decide) rfl ht
theorem e135_34 : decode (j_co 135) 34 = .ok (.iload_n 3, 1) := by decide +kernel
set_option maxRecDepth 20000 in
theorem w135_34 {d : Nat} {st : List Value} {Q : Option Value × jW → Prop} {w : jW} {a0 a1 a2 : Option Value} {x : Int32} : Wp d 135 34 [a0, a1, a2, some (.int x)] (st) w Q = Wp d 135 35 [a0, a1, a2, some (.int x)] (.int x :: st) w Q := Wp.loc e135_34 rfl rfl rfl
theorem e135_35 : decode (j_co 135) 35 = .ok (.aload_n 0, 1) := by decide +kernel
set_option maxRecDepth 20000 in
theorem w135_35 {d : Nat} {st : List Value} {Q : Option Value × jW → Prop} {w : jW} {a1 a2 a3 : Option Value} {x : Nat} : Wp d 135 35 [some (.ref x), a1, a2, a3] (st) w Q = Wp d 135 36 [some (.ref x), a1, a2, a3] (.ref x :: st) w Q := Wp.loc e135_35 rfl rfl rfl
theorem e135_36 : decode (j_co 135) 36 = .ok (.getfield 54, 3) := by decide +kernel
set_option maxRecDepth 20000 in
theorem w135_36 {d : Nat} {st : List Value} {Q : Option Value × jW → Prop} {ls : jL} {xs : List Value} {I : fI} {L : fL} {o : Nat} (ht : f_tg o = 11) : Wp d 135 36 ls (.ref o :: st) (f_W xs I L) Q = Wp d 135 39 ls (.ref (f_rf o 18) :: st) (f_W xs I L) Q := Wp.getR (ci := 11) (k := 18) e135_36 rfl (by decide) (by decide) rfl ht
theorem e135_39 : decode (j_co 135) 39 = .ok (.bipush 6, 2) := by decide +kernel
set_option maxRecDepth 20000 in
theorem w135_39 {d : Nat} {st : List Value} {Q : Option Value × jW → Prop} {ls : jL} {w : jW} : Wp d 135 39 ls (st) w Q = Wp d 135 41 ls (.int (nI 6) :: st) w Q := Wp.alu e135_39 rfl rfl
theorem e135_41 : decode (j_co 135) 41 = .ok (.iload_n 1, 1) := by decide +kernel
set_option maxRecDepth 20000 in
theorem w135_41 {d : Nat} {st : List Value} {Q : Option Value × jW → Prop} {w : jW} {a0 a2 a3 : Option Value} {x : Int32} : Wp d 135 41 [a0, some (.int x), a2, a3] (st) w Q = Wp d 135 42 [a0, some (.int x), a2, a3] (.int x :: st) w Q := Wp.loc e135_41 rfl rfl rfl
theorem e135_42 : decode (j_co 135) 42 = .ok (.imul, 1) := by decide +kernel
set_option maxRecDepth 20000 in
theorem w135_42 {d : Nat} {st : List Value} {Q : Option Value × jW → Prop} {ls : jL} {w : jW} {a b : Int32} : Wp d 135 42 ls (.int b :: .int a :: st) w Q = Wp d 135 43 ls (.int (a * b) :: st) w Q := Wp.alu e135_42 rfl rfl
theorem e135_43 : decode (j_co 135) 43 = .ok (.iload_n 3, 1) := by decide +kernel
set_option maxRecDepth 20000 in
theorem w135_43 {d : Nat} {st : List Value} {Q : Option Value × jW → Prop} {w : jW} {a0 a1 a2 : Option Value} {x : Int32} : Wp d 135 43 [a0, a1, a2, some (.int x)] (st) w Q = Wp d 135 44 [a0, a1, a2, some (.int x)] (.int x :: st) w Q := Wp.loc e135_43 rfl rfl rfl
theorem e135_44 : decode (j_co 135) 44 = .ok (.iadd, 1) := by decide +kernel
set_option maxRecDepth 20000 in
theorem w135_44 {d : Nat} {st : List Value} {Q : Option Value × jW → Prop} {ls : jL} {w : jW} {a b : Int32} : Wp d 135 44 ls (.int b :: .int a :: st) w Q = Wp d 135 45 ls (.int (a + b) :: st) w Q := Wp.alu e135_44 rfl rfl
theorem e135_45 : decode (j_co 135) 45 = .ok (.iaload, 1) := by decide +kernel
set_option maxRecDepth 20000 in
theorem w135_45 {d : Nat} {st : List Value} {Q : Option Value × jW → Prop} {ls : jL} {xs : List Value} {I : fI} {L : fL} {o : Nat} {i : Int32} (ht : f_tg o = 100) (hi : ¬ (i < 0 ∨ f_ln o ≤ i.toNatClampNeg)) : Wp d 135 45 ls (.int i :: .ref o :: st) (f_W xs I L) Q = Wp d 135 46 ls (.int (I o i.toNatClampNeg) :: st) (f_W xs I L) Q := Wp.iald e135_45 ht hi
theorem e135_46 : decode (j_co 135) 46 = .ok (.iastore, 1) := by decide +kernel
set_option maxRecDepth 20000 in
theorem w135_46 {d : Nat} {st : List Value} {Q : Option Value × jW → Prop} {ls : jL} {xs : List Value} {I : fI} {L : fL} {o : Nat} {i x : Int32} (ht : f_tg o = 100) (hi : ¬ (i < 0 ∨ f_ln o ≤ i.toNatClampNeg)) : Wp d 135 46 ls (.int x :: .int i :: .ref o :: st) (f_W xs I L) Q = Wp d 135 47 ls (st) (f_W xs (f_up I o i.toNatClampNeg x) L) Q := Wp.iast e135_46 ht hi
theorem e135_47 : decode (j_co 135) 47 = .ok (.iinc 3 1, 3) := by decide +kernel
set_option maxRecDepth 20000 in
theorem w135_47 {d : Nat} {st : List Value} {Q : Option Value × jW → Prop} {w : jW} {a0 a1 a2 : Option Value} {x : Int32} (h : j_cp a2) : Wp d 135 47 [a0, a1, a2, some (.int x)] (st) w Q = Wp d 135 50 [a0, a1, a2, some (.int (x + nI 1))] (st) w Q := Wp.loc e135_47 rfl rfl (v_inc (ls := [a0, a1, a2, some (.int x)]) (k := 3) (n := 1) rfl (show 3 < 4 by decide) h)
theorem e135_50 : decode (j_co 135) 50 = .ok (.goto (-26), 3) := by decide +kernel
set_option maxRecDepth 20000 in
theorem w135_50 {d : Nat} {st : List Value} {Q : Option Value × jW → Prop} {ls : jL} {w : jW} : Wp d 135 50 ls (st) w Q = Wp d 135 24 ls (st) w Q := Wp.br e135_50 (Or.inl rfl) rfl rfl rfl rfl
theorem e135_53 : decode (j_co 135) 53 = .ok (.aload_n 0, 1) := by decide +kernel
set_option maxRecDepth 20000 in
theorem w135_53 {d : Nat} {st : List Value} {Q : Option Value × jW → Prop} {w : jW} {a1 a2 a3 : Option Value} {x : Nat} : Wp d 135 53 [some (.ref x), a1, a2, a3] (st) w Q = Wp d 135 54 [some (.ref x), a1, a2, a3] (.ref x :: st) w Q := Wp.loc e135_53 rfl rfl rfl
theorem e135_54 : decode (j_co 135) 54 = .ok (.aload_n 0, 1) := by decide +kernel
set_option maxRecDepth 20000 in
theorem w135_54 {d : Nat} {st : List Value} {Q : Option Value × jW → Prop} {w : jW} {a1 a2 a3 : Option Value} {x : Nat} : Wp d 135 54 [some (.ref x), a1, a2, a3] (st) w Q = Wp d 135 55 [some (.ref x), a1, a2, a3] (.ref x :: st) w Q := Wp.loc e135_54 rfl rfl rfl
theorem e135_55 : decode (j_co 135) 55 = .ok (.getfield 69, 3) := by decide +kernel
set_option maxRecDepth 20000 in
theorem w135_55 {d : Nat} {st : List Value} {Q : Option Value × jW → Prop} {ls : jL} {xs : List Value} {I : fI} {L : fL} {o : Nat} (ht : f_tg o = 11) : Wp d 135 55 ls (.ref o :: st) (f_W xs I L) Q = Wp d 135 58 ls (.ref (f_rf o 26) :: st) (f_W xs I L) Q := Wp.getR (ci := 11) (k := 26) e135_55 rfl (by decide) (by decide) rfl ht
theorem e135_58 : decode (j_co 135) 58 = .ok (.iconst 0, 1) := by decide +kernel
set_option maxRecDepth 20000 in
theorem w135_58 {d : Nat} {st : List Value} {Q : Option Value × jW → Prop} {ls : jL} {w : jW} : Wp d 135 58 ls (st) w Q = Wp d 135 59 ls (.int (nI 0) :: st) w Q := Wp.alu e135_58 rfl rfl
theorem e135_59 : decode (j_co 135) 59 = .ok (.invokevirtual 159, 3) := by decide +kernel
set_option maxRecDepth 20000 in
theorem w135_59 {d : Nat} {st : List Value} {Q : Option Value × jW → Prop} {ls : jL} {xs : List Value} {I : fI} {L : fL} {r : Nat} {x0 : Nat} {x1 : Int32} (hs : j_sumc st ≤ 8) (ht : f_tg r = 11) : Wp (d + 1) 135 59 ls (.int x1 :: .ref x0 :: .ref r :: st) (f_W xs I L) Q = Wp d 130 0 [some (.ref r), some (.ref x0), some (.int x1), none] [] (f_W xs I L) (fun r1 => Wp (d + 1) 135 62 ls (r1.1.toList ++ st) r1.2 Q) := Wp.cv (y' := 130) (as := [.ref x0, .int x1]) e135_59 rfl (by decide) rfl (show 3 ≤ 4 by decide) (by decide) hs ht
theorem e135_62 : decode (j_co 135) 62 = .ok (.aload_n 0, 1) := by decide +kernel
set_option maxRecDepth 20000 in
theorem w135_62 {d : Nat} {st : List Value} {Q : Option Value × jW → Prop} {w : jW} {a1 a2 a3 : Option Value} {x : Nat} : Wp d 135 62 [some (.ref x), a1, a2, a3] (st) w Q = Wp d 135 63 [some (.ref x), a1, a2, a3] (.ref x :: st) w Q := Wp.loc e135_62 rfl rfl rfl
theorem e135_63 : decode (j_co 135) 63 = .ok (.iload_n 2, 1) := by decide +kernel
set_option maxRecDepth 20000 in
theorem w135_63 {d : Nat} {st : List Value} {Q : Option Value × jW → Prop} {w : jW} {a0 a1 a3 : Option Value} {x : Int32} : Wp d 135 63 [a0, a1, some (.int x), a3] (st) w Q = Wp d 135 64 [a0, a1, some (.int x), a3] (.int x :: st) w Q := Wp.loc e135_63 rfl rfl rfl
theorem e135_64 : decode (j_co 135) 64 = .ok (.invokevirtual 162, 3) := by decide +kernel
set_option maxRecDepth 20000 in
theorem w135_64 {d : Nat} {st : List Value} {Q : Option Value × jW → Prop} {ls : jL} {xs : List Value} {I : fI} {L : fL} {r : Nat} {x0 : Int32} (hs : j_sumc st ≤ 8) (ht : f_tg r = 11) : Wp (d + 1) 135 64 ls (.int x0 :: .ref r :: st) (f_W xs I L) Q = Wp d 136 0 [some (.ref r), some (.int x0), none] [] (f_W xs I L) (fun r1 => Wp (d + 1) 135 67 ls (r1.1.toList ++ st) r1.2 Q) := Wp.cv (y' := 136) (as := [.int x0]) e135_64 rfl (by decide) rfl (show 2 ≤ 3 by decide) (by decide) hs ht
theorem e135_67 : decode (j_co 135) 67 = .ok (.aload_n 0, 1) := by decide +kernel
set_option maxRecDepth 20000 in
theorem w135_67 {d : Nat} {st : List Value} {Q : Option Value × jW → Prop} {w : jW} {a1 a2 a3 : Option Value} {x : Nat} : Wp d 135 67 [some (.ref x), a1, a2, a3] (st) w Q = Wp d 135 68 [some (.ref x), a1, a2, a3] (.ref x :: st) w Q := Wp.loc e135_67 rfl rfl rfl
theorem e135_68 : decode (j_co 135) 68 = .ok (.iload_n 2, 1) := by decide +kernel
set_option maxRecDepth 20000 in
theorem w135_68 {d : Nat} {st : List Value} {Q : Option Value × jW → Prop} {w : jW} {a0 a1 a3 : Option Value} {x : Int32} : Wp d 135 68 [a0, a1, some (.int x), a3] (st) w Q = Wp d 135 69 [a0, a1, some (.int x), a3] (.int x :: st) w Q := Wp.loc e135_68 rfl rfl rfl
theorem e135_69 : decode (j_co 135) 69 = .ok (.iload_n 1, 1) := by decide +kernel
set_option maxRecDepth 20000 in
theorem w135_69 {d : Nat} {st : List Value} {Q : Option Value × jW → Prop} {w : jW} {a0 a2 a3 : Option Value} {x : Int32} : Wp d 135 69 [a0, some (.int x), a2, a3] (st) w Q = Wp d 135 70 [a0, some (.int x), a2, a3] (.int x :: st) w Q := Wp.loc e135_69 rfl rfl rfl
theorem e135_70 : decode (j_co 135) 70 = .ok (.iconst 0, 1) := by decide +kernel
set_option maxRecDepth 20000 in
theorem w135_70 {d : Nat} {st : List Value} {Q : Option Value × jW → Prop} {ls : jL} {w : jW} : Wp d 135 70 ls (st) w Q = Wp d 135 71 ls (.int (nI 0) :: st) w Q := Wp.alu e135_70 rfl rfl
theorem e135_71 : decode (j_co 135) 71 = .ok (.invokevirtual 166, 3) := by decide +kernel
set_option maxRecDepth 20000 in
theorem w135_71 {d : Nat} {st : List Value} {Q : Option Value × jW → Prop} {ls : jL} {xs : List Value} {I : fI} {L : fL} {r : Nat} {x0 : Int32} {x1 : Int32} {x2 : Int32} (hs : j_sumc st ≤ 8) (ht : f_tg r = 11) : Wp (d + 1) 135 71 ls (.int x2 :: .int x1 :: .int x0 :: .ref r :: st) (f_W xs I L) Q = Wp d 137 0 [some (.ref r), some (.int x0), some (.int x1), some (.int x2), none, none, none, none] [] (f_W xs I L) (fun r1 => Wp (d + 1) 135 74 ls (r1.1.toList ++ st) r1.2 Q) := Wp.cv (y' := 137) (as := [.int x0, .int x1, .int x2]) e135_71 rfl (by decide) rfl (show 4 ≤ 8 by decide) (by decide) hs ht
theorem e135_74 : decode (j_co 135) 74 = .ok (.iconst 0, 1) := by decide +kernel
set_option maxRecDepth 20000 in
theorem w135_74 {d : Nat} {st : List Value} {Q : Option Value × jW → Prop} {ls : jL} {w : jW} : Wp d 135 74 ls (st) w Q = Wp d 135 75 ls (.int (nI 0) :: st) w Q := Wp.alu e135_74 rfl rfl
theorem e135_75 : decode (j_co 135) 75 = .ok (.istore_n 3, 1) := by decide +kernel
set_option maxRecDepth 20000 in
theorem w135_75 {d : Nat} {st : List Value} {Q : Option Value × jW → Prop} {w : jW} {a0 a1 a2 a3 : Option Value} {x : Int32} (h : j_cp a2) : Wp d 135 75 [a0, a1, a2, a3] (.int x :: st) w Q = Wp d 135 76 [a0, a1, a2, some (.int x)] (st) w Q := Wp.loc e135_75 rfl rfl (v_stI (ls := [a0, a1, a2, a3]) (k := 3) (show 3 < 4 by decide) h)
theorem e135_76 : decode (j_co 135) 76 = .ok (.iload_n 3, 1) := by decide +kernel
set_option maxRecDepth 20000 in
theorem w135_76 {d : Nat} {st : List Value} {Q : Option Value × jW → Prop} {w : jW} {a0 a1 a2 : Option Value} {x : Int32} : Wp d 135 76 [a0, a1, a2, some (.int x)] (st) w Q = Wp d 135 77 [a0, a1, a2, some (.int x)] (.int x :: st) w Q := Wp.loc e135_76 rfl rfl rfl
theorem e135_77 : decode (j_co 135) 77 = .ok (.aload_n 0, 1) := by decide +kernel
set_option maxRecDepth 20000 in
theorem w135_77 {d : Nat} {st : List Value} {Q : Option Value × jW → Prop} {w : jW} {a1 a2 a3 : Option Value} {x : Nat} : Wp d 135 77 [some (.ref x), a1, a2, a3] (st) w Q = Wp d 135 78 [some (.ref x), a1, a2, a3] (.ref x :: st) w Q := Wp.loc e135_77 rfl rfl rfl
theorem e135_78 : decode (j_co 135) 78 = .ok (.getfield 97, 3) := by decide +kernel
set_option maxRecDepth 20000 in
theorem w135_78 {d : Nat} {st : List Value} {Q : Option Value × jW → Prop} {ls : jL} {xs : List Value} {I : fI} {L : fL} {o : Nat} (ht : f_tg o = 11) : Wp d 135 78 ls (.ref o :: st) (f_W xs I L) Q = Wp d 135 81 ls (.int (I o 3) :: st) (f_W xs I L) Q := Wp.getI (ci := 11) (k := 3) e135_78 rfl (by decide) (by decide) (by decide) ht
theorem e135_81 : decode (j_co 135) 81 = .ok (.if_icmp .ge 57, 3) := by decide +kernel
set_option maxRecDepth 20000 in
theorem w135_81 {d : Nat} {st : List Value} {Q : Option Value × jW → Prop} {ls : jL} {w : jW} {a b : Int32} : Wp d 135 81 ls (.int b :: .int a :: st) w Q = ((b ≤ a → Wp d 135 138 ls st w Q) ∧ (¬ b ≤ a → Wp d 135 84 ls st w Q)) := Wp.if2 (c := b ≤ a) (off := 57) e135_81 rfl rfl rfl rfl rfl
theorem e135_84 : decode (j_co 135) 84 = .ok (.aload_n 0, 1) := by decide +kernel
set_option maxRecDepth 20000 in
theorem w135_84 {d : Nat} {st : List Value} {Q : Option Value × jW → Prop} {w : jW} {a1 a2 a3 : Option Value} {x : Nat} : Wp d 135 84 [some (.ref x), a1, a2, a3] (st) w Q = Wp d 135 85 [some (.ref x), a1, a2, a3] (.ref x :: st) w Q := Wp.loc e135_84 rfl rfl rfl
theorem e135_85 : decode (j_co 135) 85 = .ok (.getfield 145, 3) := by decide +kernel
set_option maxRecDepth 20000 in
theorem w135_85 {d : Nat} {st : List Value} {Q : Option Value × jW → Prop} {ls : jL} {xs : List Value} {I : fI} {L : fL} {o : Nat} (ht : f_tg o = 11) : Wp d 135 85 ls (.ref o :: st) (f_W xs I L) Q = Wp d 135 88 ls (.int (I o 24) :: st) (f_W xs I L) Q := Wp.getI (ci := 11) (k := 24) e135_85 rfl (by decide) (by decide) (by decide) ht
theorem e135_88 : decode (j_co 135) 88 = .ok (.ifCond .ne 50, 3) := by decide +kernel
set_option maxRecDepth 20000 in
theorem w135_88 {d : Nat} {st : List Value} {Q : Option Value × jW → Prop} {ls : jL} {w : jW} {a : Int32} : Wp d 135 88 ls (.int a :: st) w Q = ((a = nI 0 → Wp d 135 91 ls st w Q) ∧ (¬ a = nI 0 → Wp d 135 138 ls st w Q)) := Wp.if2n (c := a = nI 0) (off := 50) e135_88 rfl rfl rfl rfl rfl
theorem e135_91 : decode (j_co 135) 91 = .ok (.aload_n 0, 1) := by decide +kernel
set_option maxRecDepth 20000 in
theorem w135_91 {d : Nat} {st : List Value} {Q : Option Value × jW → Prop} {w : jW} {a1 a2 a3 : Option Value} {x : Nat} : Wp d 135 91 [some (.ref x), a1, a2, a3] (st) w Q = Wp d 135 92 [some (.ref x), a1, a2, a3] (.ref x :: st) w Q := Wp.loc e135_91 rfl rfl rfl
theorem e135_92 : decode (j_co 135) 92 = .ok (.getfield 16, 3) := by decide +kernel
set_option maxRecDepth 20000 in
theorem w135_92 {d : Nat} {st : List Value} {Q : Option Value × jW → Prop} {ls : jL} {xs : List Value} {I : fI} {L : fL} {o : Nat} (ht : f_tg o = 11) : Wp d 135 92 ls (.ref o :: st) (f_W xs I L) Q = Wp d 135 95 ls (.ref (f_rf o 4) :: st) (f_W xs I L) Q := Wp.getR (ci := 11) (k := 4) e135_92 rfl (by decide) (by decide) rfl ht
theorem e135_95 : decode (j_co 135) 95 = .ok (.iload_n 3, 1) := by decide +kernel
set_option maxRecDepth 20000 in
theorem w135_95 {d : Nat} {st : List Value} {Q : Option Value × jW → Prop} {w : jW} {a0 a1 a2 : Option Value} {x : Int32} : Wp d 135 95 [a0, a1, a2, some (.int x)] (st) w Q = Wp d 135 96 [a0, a1, a2, some (.int x)] (.int x :: st) w Q := Wp.loc e135_95 rfl rfl rfl
theorem e135_96 : decode (j_co 135) 96 = .ok (.iaload, 1) := by decide +kernel
set_option maxRecDepth 20000 in
theorem w135_96 {d : Nat} {st : List Value} {Q : Option Value × jW → Prop} {ls : jL} {xs : List Value} {I : fI} {L : fL} {o : Nat} {i : Int32} (ht : f_tg o = 100) (hi : ¬ (i < 0 ∨ f_ln o ≤ i.toNatClampNeg)) : Wp d 135 96 ls (.int i :: .ref o :: st) (f_W xs I L) Q = Wp d 135 97 ls (.int (I o i.toNatClampNeg) :: st) (f_W xs I L) Q := Wp.iald e135_96 ht hi
theorem e135_97 : decode (j_co 135) 97 = .ok (.iload_n 2, 1) := by decide +kernel
set_option maxRecDepth 20000 in
theorem w135_97 {d : Nat} {st : List Value} {Q : Option Value × jW → Prop} {w : jW} {a0 a1 a3 : Option Value} {x : Int32} : Wp d 135 97 [a0, a1, some (.int x), a3] (st) w Q = Wp d 135 98 [a0, a1, some (.int x), a3] (.int x :: st) w Q := Wp.loc e135_97 rfl rfl rfl
theorem e135_98 : decode (j_co 135) 98 = .ok (.if_icmp .ne 34, 3) := by decide +kernel
set_option maxRecDepth 20000 in
theorem w135_98 {d : Nat} {st : List Value} {Q : Option Value × jW → Prop} {ls : jL} {w : jW} {a b : Int32} : Wp d 135 98 ls (.int b :: .int a :: st) w Q = ((a = b → Wp d 135 101 ls st w Q) ∧ (¬ a = b → Wp d 135 132 ls st w Q)) := Wp.if2n (c := a = b) (off := 34) e135_98 rfl rfl rfl rfl rfl
theorem e135_101 : decode (j_co 135) 101 = .ok (.aload_n 0, 1) := by decide +kernel
set_option maxRecDepth 20000 in
theorem w135_101 {d : Nat} {st : List Value} {Q : Option Value × jW → Prop} {w : jW} {a1 a2 a3 : Option Value} {x : Nat} : Wp d 135 101 [some (.ref x), a1, a2, a3] (st) w Q = Wp d 135 102 [some (.ref x), a1, a2, a3] (.ref x :: st) w Q := Wp.loc e135_101 rfl rfl rfl
theorem e135_102 : decode (j_co 135) 102 = .ok (.aload_n 0, 1) := by decide +kernel
set_option maxRecDepth 20000 in
theorem w135_102 {d : Nat} {st : List Value} {Q : Option Value × jW → Prop} {w : jW} {a1 a2 a3 : Option Value} {x : Nat} : Wp d 135 102 [some (.ref x), a1, a2, a3] (st) w Q = Wp d 135 103 [some (.ref x), a1, a2, a3] (.ref x :: st) w Q := Wp.loc e135_102 rfl rfl rfl
theorem e135_103 : decode (j_co 135) 103 = .ok (.getfield 69, 3) := by decide +kernel
set_option maxRecDepth 20000 in
theorem w135_103 {d : Nat} {st : List Value} {Q : Option Value × jW → Prop} {ls : jL} {xs : List Value} {I : fI} {L : fL} {o : Nat} (ht : f_tg o = 11) : Wp d 135 103 ls (.ref o :: st) (f_W xs I L) Q = Wp d 135 106 ls (.ref (f_rf o 26) :: st) (f_W xs I L) Q := Wp.getR (ci := 11) (k := 26) e135_103 rfl (by decide) (by decide) rfl ht
theorem e135_106 : decode (j_co 135) 106 = .ok (.iconst 0, 1) := by decide +kernel
set_option maxRecDepth 20000 in
theorem w135_106 {d : Nat} {st : List Value} {Q : Option Value × jW → Prop} {ls : jL} {w : jW} : Wp d 135 106 ls (st) w Q = Wp d 135 107 ls (.int (nI 0) :: st) w Q := Wp.alu e135_106 rfl rfl
theorem e135_107 : decode (j_co 135) 107 = .ok (.invokevirtual 159, 3) := by decide +kernel
set_option maxRecDepth 20000 in
theorem w135_107 {d : Nat} {st : List Value} {Q : Option Value × jW → Prop} {ls : jL} {xs : List Value} {I : fI} {L : fL} {r : Nat} {x0 : Nat} {x1 : Int32} (hs : j_sumc st ≤ 8) (ht : f_tg r = 11) : Wp (d + 1) 135 107 ls (.int x1 :: .ref x0 :: .ref r :: st) (f_W xs I L) Q = Wp d 130 0 [some (.ref r), some (.ref x0), some (.int x1), none] [] (f_W xs I L) (fun r1 => Wp (d + 1) 135 110 ls (r1.1.toList ++ st) r1.2 Q) := Wp.cv (y' := 130) (as := [.ref x0, .int x1]) e135_107 rfl (by decide) rfl (show 3 ≤ 4 by decide) (by decide) hs ht
theorem e135_110 : decode (j_co 135) 110 = .ok (.aload_n 0, 1) := by decide +kernel
set_option maxRecDepth 20000 in
theorem w135_110 {d : Nat} {st : List Value} {Q : Option Value × jW → Prop} {w : jW} {a1 a2 a3 : Option Value} {x : Nat} : Wp d 135 110 [some (.ref x), a1, a2, a3] (st) w Q = Wp d 135 111 [some (.ref x), a1, a2, a3] (.ref x :: st) w Q := Wp.loc e135_110 rfl rfl rfl
theorem e135_111 : decode (j_co 135) 111 = .ok (.iload_n 3, 1) := by decide +kernel
set_option maxRecDepth 20000 in
theorem w135_111 {d : Nat} {st : List Value} {Q : Option Value × jW → Prop} {w : jW} {a0 a1 a2 : Option Value} {x : Int32} : Wp d 135 111 [a0, a1, a2, some (.int x)] (st) w Q = Wp d 135 112 [a0, a1, a2, some (.int x)] (.int x :: st) w Q := Wp.loc e135_111 rfl rfl rfl
theorem e135_112 : decode (j_co 135) 112 = .ok (.invokevirtual 169, 3) := by decide +kernel
set_option maxRecDepth 20000 in
theorem w135_112 {d : Nat} {st : List Value} {Q : Option Value × jW → Prop} {ls : jL} {xs : List Value} {I : fI} {L : fL} {r : Nat} {x0 : Int32} (hs : j_sumc st ≤ 8) (ht : f_tg r = 11) : Wp (d + 1) 135 112 ls (.int x0 :: .ref r :: st) (f_W xs I L) Q = Wp d 140 0 [some (.ref r), some (.int x0), none] [] (f_W xs I L) (fun r1 => Wp (d + 1) 135 115 ls (r1.1.toList ++ st) r1.2 Q) := Wp.cv (y' := 140) (as := [.int x0]) e135_112 rfl (by decide) rfl (show 2 ≤ 3 by decide) (by decide) hs ht
theorem e135_115 : decode (j_co 135) 115 = .ok (.ifCond .eq 17, 3) := by decide +kernel
set_option maxRecDepth 20000 in
theorem w135_115 {d : Nat} {st : List Value} {Q : Option Value × jW → Prop} {ls : jL} {w : jW} {a : Int32} : Wp d 135 115 ls (.int a :: st) w Q = ((a = nI 0 → Wp d 135 132 ls st w Q) ∧ (¬ a = nI 0 → Wp d 135 118 ls st w Q)) := Wp.if2 (c := a = nI 0) (off := 17) e135_115 rfl rfl rfl rfl rfl
theorem e135_118 : decode (j_co 135) 118 = .ok (.aload_n 0, 1) := by decide +kernel
set_option maxRecDepth 20000 in
theorem w135_118 {d : Nat} {st : List Value} {Q : Option Value × jW → Prop} {w : jW} {a1 a2 a3 : Option Value} {x : Nat} : Wp d 135 118 [some (.ref x), a1, a2, a3] (st) w Q = Wp d 135 119 [some (.ref x), a1, a2, a3] (.ref x :: st) w Q := Wp.loc e135_118 rfl rfl rfl
theorem e135_119 : decode (j_co 135) 119 = .ok (.aload_n 0, 1) := by decide +kernel
set_option maxRecDepth 20000 in
theorem w135_119 {d : Nat} {st : List Value} {Q : Option Value × jW → Prop} {w : jW} {a1 a2 a3 : Option Value} {x : Nat} : Wp d 135 119 [some (.ref x), a1, a2, a3] (st) w Q = Wp d 135 120 [some (.ref x), a1, a2, a3] (.ref x :: st) w Q := Wp.loc e135_119 rfl rfl rfl
theorem e135_120 : decode (j_co 135) 120 = .ok (.getfield 19, 3) := by decide +kernel
set_option maxRecDepth 20000 in
theorem w135_120 {d : Nat} {st : List Value} {Q : Option Value × jW → Prop} {ls : jL} {xs : List Value} {I : fI} {L : fL} {o : Nat} (ht : f_tg o = 11) : Wp d 135 120 ls (.ref o :: st) (f_W xs I L) Q = Wp d 135 123 ls (.ref (f_rf o 5) :: st) (f_W xs I L) Q := Wp.getR (ci := 11) (k := 5) e135_120 rfl (by decide) (by decide) rfl ht
theorem e135_123 : decode (j_co 135) 123 = .ok (.iload_n 3, 1) := by decide +kernel
set_option maxRecDepth 20000 in
theorem w135_123 {d : Nat} {st : List Value} {Q : Option Value × jW → Prop} {w : jW} {a0 a1 a2 : Option Value} {x : Int32} : Wp d 135 123 [a0, a1, a2, some (.int x)] (st) w Q = Wp d 135 124 [a0, a1, a2, some (.int x)] (.int x :: st) w Q := Wp.loc e135_123 rfl rfl rfl
theorem e135_124 : decode (j_co 135) 124 = .ok (.iaload, 1) := by decide +kernel
set_option maxRecDepth 20000 in
theorem w135_124 {d : Nat} {st : List Value} {Q : Option Value × jW → Prop} {ls : jL} {xs : List Value} {I : fI} {L : fL} {o : Nat} {i : Int32} (ht : f_tg o = 100) (hi : ¬ (i < 0 ∨ f_ln o ≤ i.toNatClampNeg)) : Wp d 135 124 ls (.int i :: .ref o :: st) (f_W xs I L) Q = Wp d 135 125 ls (.int (I o i.toNatClampNeg) :: st) (f_W xs I L) Q := Wp.iald e135_124 ht hi
theorem e135_125 : decode (j_co 135) 125 = .ok (.iload_n 1, 1) := by decide +kernel
set_option maxRecDepth 20000 in
theorem w135_125 {d : Nat} {st : List Value} {Q : Option Value × jW → Prop} {w : jW} {a0 a2 a3 : Option Value} {x : Int32} : Wp d 135 125 [a0, some (.int x), a2, a3] (st) w Q = Wp d 135 126 [a0, some (.int x), a2, a3] (.int x :: st) w Q := Wp.loc e135_125 rfl rfl rfl
theorem e135_126 : decode (j_co 135) 126 = .ok (.iconst 1, 1) := by decide +kernel
set_option maxRecDepth 20000 in
theorem w135_126 {d : Nat} {st : List Value} {Q : Option Value × jW → Prop} {ls : jL} {w : jW} : Wp d 135 126 ls (st) w Q = Wp d 135 127 ls (.int (nI 1) :: st) w Q := Wp.alu e135_126 rfl rfl
theorem e135_127 : decode (j_co 135) 127 = .ok (.iload_n 3, 1) := by decide +kernel
set_option maxRecDepth 20000 in
theorem w135_127 {d : Nat} {st : List Value} {Q : Option Value × jW → Prop} {w : jW} {a0 a1 a2 : Option Value} {x : Int32} : Wp d 135 127 [a0, a1, a2, some (.int x)] (st) w Q = Wp d 135 128 [a0, a1, a2, some (.int x)] (.int x :: st) w Q := Wp.loc e135_127 rfl rfl rfl
theorem e135_128 : decode (j_co 135) 128 = .ok (.iadd, 1) := by decide +kernel
set_option maxRecDepth 20000 in
theorem w135_128 {d : Nat} {st : List Value} {Q : Option Value × jW → Prop} {ls : jL} {w : jW} {a b : Int32} : Wp d 135 128 ls (.int b :: .int a :: st) w Q = Wp d 135 129 ls (.int (a + b) :: st) w Q := Wp.alu e135_128 rfl rfl
theorem e135_129 : decode (j_co 135) 129 = .ok (.invokevirtual 166, 3) := by decide +kernel
set_option maxRecDepth 20000 in
theorem w135_129 {d : Nat} {st : List Value} {Q : Option Value × jW → Prop} {ls : jL} {xs : List Value} {I : fI} {L : fL} {r : Nat} {x0 : Int32} {x1 : Int32} {x2 : Int32} (hs : j_sumc st ≤ 8) (ht : f_tg r = 11) : Wp (d + 1) 135 129 ls (.int x2 :: .int x1 :: .int x0 :: .ref r :: st) (f_W xs I L) Q = Wp d 137 0 [some (.ref r), some (.int x0), some (.int x1), some (.int x2), none, none, none, none] [] (f_W xs I L) (fun r1 => Wp (d + 1) 135 132 ls (r1.1.toList ++ st) r1.2 Q) := Wp.cv (y' := 137) (as := [.int x0, .int x1, .int x2]) e135_129 rfl (by decide) rfl (show 4 ≤ 8 by decide) (by decide) hs ht
theorem e135_132 : decode (j_co 135) 132 = .ok (.iinc 3 1, 3) := by decide +kernel
set_option maxRecDepth 20000 in
theorem w135_132 {d : Nat} {st : List Value} {Q : Option Value × jW → Prop} {w : jW} {a0 a1 a2 : Option Value} {x : Int32} (h : j_cp a2) : Wp d 135 132 [a0, a1, a2, some (.int x)] (st) w Q = Wp d 135 135 [a0, a1, a2, some (.int (x + nI 1))] (st) w Q := Wp.loc e135_132 rfl rfl (v_inc (ls := [a0, a1, a2, some (.int x)]) (k := 3) (n := 1) rfl (show 3 < 4 by decide) h)
theorem e135_135 : decode (j_co 135) 135 = .ok (.goto (-59), 3) := by decide +kernel
set_option maxRecDepth 20000 in
theorem w135_135 {d : Nat} {st : List Value} {Q : Option Value × jW → Prop} {ls : jL} {w : jW} : Wp d 135 135 ls (st) w Q = Wp d 135 76 ls (st) w Q := Wp.br e135_135 (Or.inl rfl) rfl rfl rfl rfl
theorem e135_138 : decode (j_co 135) 138 = .ok (.aload_n 0, 1) := by decide +kernel
set_option maxRecDepth 20000 in
theorem w135_138 {d : Nat} {st : List Value} {Q : Option Value × jW → Prop} {w : jW} {a1 a2 a3 : Option Value} {x : Nat} : Wp d 135 138 [some (.ref x), a1, a2, a3] (st) w Q = Wp d 135 139 [some (.ref x), a1, a2, a3] (.ref x :: st) w Q := Wp.loc e135_138 rfl rfl rfl
theorem e135_139 : decode (j_co 135) 139 = .ok (.getfield 66, 3) := by decide +kernel
set_option maxRecDepth 20000 in
theorem w135_139 {d : Nat} {st : List Value} {Q : Option Value × jW → Prop} {ls : jL} {xs : List Value} {I : fI} {L : fL} {o : Nat} (ht : f_tg o = 11) : Wp d 135 139 ls (.ref o :: st) (f_W xs I L) Q = Wp d 135 142 ls (.ref (f_rf o 22) :: st) (f_W xs I L) Q := Wp.getR (ci := 11) (k := 22) e135_139 rfl (by decide) (by decide) rfl ht
theorem e135_142 : decode (j_co 135) 142 = .ok (.iload_n 1, 1) := by decide +kernel
set_option maxRecDepth 20000 in
theorem w135_142 {d : Nat} {st : List Value} {Q : Option Value × jW → Prop} {w : jW} {a0 a2 a3 : Option Value} {x : Int32} : Wp d 135 142 [a0, some (.int x), a2, a3] (st) w Q = Wp d 135 143 [a0, some (.int x), a2, a3] (.int x :: st) w Q := Wp.loc e135_142 rfl rfl rfl
theorem e135_143 : decode (j_co 135) 143 = .ok (.aload_n 0, 1) := by decide +kernel
set_option maxRecDepth 20000 in
theorem w135_143 {d : Nat} {st : List Value} {Q : Option Value × jW → Prop} {w : jW} {a1 a2 a3 : Option Value} {x : Nat} : Wp d 135 143 [some (.ref x), a1, a2, a3] (st) w Q = Wp d 135 144 [some (.ref x), a1, a2, a3] (.ref x :: st) w Q := Wp.loc e135_143 rfl rfl rfl
theorem e135_144 : decode (j_co 135) 144 = .ok (.getfield 153, 3) := by decide +kernel
set_option maxRecDepth 20000 in
theorem w135_144 {d : Nat} {st : List Value} {Q : Option Value × jW → Prop} {ls : jL} {xs : List Value} {I : fI} {L : fL} {o : Nat} (ht : f_tg o = 11) : Wp d 135 144 ls (.ref o :: st) (f_W xs I L) Q = Wp d 135 147 ls (.int (I o 25) :: st) (f_W xs I L) Q := Wp.getI (ci := 11) (k := 25) e135_144 rfl (by decide) (by decide) (by decide) ht
theorem e135_147 : decode (j_co 135) 147 = .ok (.ifCond .ne 7, 3) := by decide +kernel
set_option maxRecDepth 20000 in
theorem w135_147 {d : Nat} {st : List Value} {Q : Option Value × jW → Prop} {ls : jL} {w : jW} {a : Int32} : Wp d 135 147 ls (.int a :: st) w Q = ((a = nI 0 → Wp d 135 150 ls st w Q) ∧ (¬ a = nI 0 → Wp d 135 154 ls st w Q)) := Wp.if2n (c := a = nI 0) (off := 7) e135_147 rfl rfl rfl rfl rfl
theorem e135_150 : decode (j_co 135) 150 = .ok (.iconst 1, 1) := by decide +kernel
set_option maxRecDepth 20000 in
theorem w135_150 {d : Nat} {st : List Value} {Q : Option Value × jW → Prop} {ls : jL} {w : jW} : Wp d 135 150 ls (st) w Q = Wp d 135 151 ls (.int (nI 1) :: st) w Q := Wp.alu e135_150 rfl rfl
theorem e135_151 : decode (j_co 135) 151 = .ok (.goto 4, 3) := by decide +kernel
set_option maxRecDepth 20000 in
theorem w135_151 {d : Nat} {st : List Value} {Q : Option Value × jW → Prop} {ls : jL} {w : jW} : Wp d 135 151 ls (st) w Q = Wp d 135 155 ls (st) w Q := Wp.br e135_151 (Or.inl rfl) rfl rfl rfl rfl
theorem e135_154 : decode (j_co 135) 154 = .ok (.iconst 0, 1) := by decide +kernel
set_option maxRecDepth 20000 in
theorem w135_154 {d : Nat} {st : List Value} {Q : Option Value × jW → Prop} {ls : jL} {w : jW} : Wp d 135 154 ls (st) w Q = Wp d 135 155 ls (.int (nI 0) :: st) w Q := Wp.alu e135_154 rfl rfl
theorem e135_155 : decode (j_co 135) 155 = .ok (.bastore, 1) := by decide +kernel
set_option maxRecDepth 20000 in
theorem w135_155 {d : Nat} {st : List Value} {Q : Option Value × jW → Prop} {ls : jL} {xs : List Value} {I : fI} {L : fL} {o : Nat} {i x : Int32} (ht : f_tg o = 101) (hi : ¬ (i < 0 ∨ f_ln o ≤ i.toNatClampNeg)) (hx : x = 0 ∨ x = 1) : Wp d 135 155 ls (.int x :: .int i :: .ref o :: st) (f_W xs I L) Q = Wp d 135 156 ls (st) (f_W xs (f_up I o i.toNatClampNeg x) L) Q := Wp.zast e135_155 ht hi hx
theorem e135_156 : decode (j_co 135) 156 = .ok (.return_, 1) := by decide +kernel
set_option maxRecDepth 20000 in
theorem w135_156 {d : Nat} {Q : Option Value × jW → Prop} {ls : jL} {w : jW} : Wp d 135 156 ls [] w Q = Q (none, w) := Wp.ret e135_156 rfl
/-! M.ticks -/
theorem e136_0 : decode (j_co 136) 0 = .ok (.iconst 0, 1) := by decide +kernel
set_option maxRecDepth 20000 in
theorem w136_0 {d : Nat} {st : List Value} {Q : Option Value × jW → Prop} {ls : jL} {w : jW} : Wp d 136 0 ls (st) w Q = Wp d 136 1 ls (.int (nI 0) :: st) w Q := Wp.alu e136_0 rfl rfl
theorem e136_1 : decode (j_co 136) 1 = .ok (.istore_n 2, 1) := by decide +kernel
set_option maxRecDepth 20000 in
theorem w136_1 {d : Nat} {st : List Value} {Q : Option Value × jW → Prop} {w : jW} {a0 a1 a2 : Option Value} {x : Int32} (h : j_cp a1) : Wp d 136 1 [a0, a1, a2] (.int x :: st) w Q = Wp d 136 2 [a0, a1, some (.int x)] (st) w Q := Wp.loc e136_1 rfl rfl (v_stI (ls := [a0, a1, a2]) (k := 2) (show 2 < 3 by decide) h)
theorem e136_2 : decode (j_co 136) 2 = .ok (.iload_n 2, 1) := by decide +kernel
set_option maxRecDepth 20000 in
theorem w136_2 {d : Nat} {st : List Value} {Q : Option Value × jW → Prop} {w : jW} {a0 a1 : Option Value} {x : Int32} : Wp d 136 2 [a0, a1, some (.int x)] (st) w Q = Wp d 136 3 [a0, a1, some (.int x)] (.int x :: st) w Q := Wp.loc e136_2 rfl rfl rfl
theorem e136_3 : decode (j_co 136) 3 = .ok (.bipush 6, 2) := by decide +kernel
set_option maxRecDepth 20000 in
theorem w136_3 {d : Nat} {st : List Value} {Q : Option Value × jW → Prop} {ls : jL} {w : jW} : Wp d 136 3 ls (st) w Q = Wp d 136 5 ls (.int (nI 6) :: st) w Q := Wp.alu e136_3 rfl rfl
theorem e136_5 : decode (j_co 136) 5 = .ok (.if_icmp .ge 29, 3) := by decide +kernel
set_option maxRecDepth 20000 in
theorem w136_5 {d : Nat} {st : List Value} {Q : Option Value × jW → Prop} {ls : jL} {w : jW} {a b : Int32} : Wp d 136 5 ls (.int b :: .int a :: st) w Q = ((b ≤ a → Wp d 136 34 ls st w Q) ∧ (¬ b ≤ a → Wp d 136 8 ls st w Q)) := Wp.if2 (c := b ≤ a) (off := 29) e136_5 rfl rfl rfl rfl rfl
theorem e136_8 : decode (j_co 136) 8 = .ok (.aload_n 0, 1) := by decide +kernel
set_option maxRecDepth 20000 in
theorem w136_8 {d : Nat} {st : List Value} {Q : Option Value × jW → Prop} {w : jW} {a1 a2 : Option Value} {x : Nat} : Wp d 136 8 [some (.ref x), a1, a2] (st) w Q = Wp d 136 9 [some (.ref x), a1, a2] (.ref x :: st) w Q := Wp.loc e136_8 rfl rfl rfl
theorem e136_9 : decode (j_co 136) 9 = .ok (.getfield 48, 3) := by decide +kernel
set_option maxRecDepth 20000 in
theorem w136_9 {d : Nat} {st : List Value} {Q : Option Value × jW → Prop} {ls : jL} {xs : List Value} {I : fI} {L : fL} {o : Nat} (ht : f_tg o = 11) : Wp d 136 9 ls (.ref o :: st) (f_W xs I L) Q = Wp d 136 12 ls (.ref (f_rf o 15) :: st) (f_W xs I L) Q := Wp.getR (ci := 11) (k := 15) e136_9 rfl (by decide) (by decide) rfl ht
theorem e136_12 : decode (j_co 136) 12 = .ok (.iload_n 2, 1) := by decide +kernel
set_option maxRecDepth 20000 in
theorem w136_12 {d : Nat} {st : List Value} {Q : Option Value × jW → Prop} {w : jW} {a0 a1 : Option Value} {x : Int32} : Wp d 136 12 [a0, a1, some (.int x)] (st) w Q = Wp d 136 13 [a0, a1, some (.int x)] (.int x :: st) w Q := Wp.loc e136_12 rfl rfl rfl
theorem e136_13 : decode (j_co 136) 13 = .ok (.dup2, 1) := by decide +kernel
set_option maxRecDepth 20000 in
theorem w136_13 {d : Nat} {st : List Value} {Q : Option Value × jW → Prop} {ls : jL} {w : jW} {a : Int32} {b : Nat} : Wp d 136 13 ls (.int a :: .ref b :: st) w Q = Wp d 136 14 ls (.int a :: .ref b :: .int a :: .ref b :: st) w Q := Wp.alu e136_13 rfl rfl
theorem e136_14 : decode (j_co 136) 14 = .ok (.iaload, 1) := by decide +kernel
set_option maxRecDepth 20000 in
theorem w136_14 {d : Nat} {st : List Value} {Q : Option Value × jW → Prop} {ls : jL} {xs : List Value} {I : fI} {L : fL} {o : Nat} {i : Int32} (ht : f_tg o = 100) (hi : ¬ (i < 0 ∨ f_ln o ≤ i.toNatClampNeg)) : Wp d 136 14 ls (.int i :: .ref o :: st) (f_W xs I L) Q = Wp d 136 15 ls (.int (I o i.toNatClampNeg) :: st) (f_W xs I L) Q := Wp.iald e136_14 ht hi
theorem e136_15 : decode (j_co 136) 15 = .ok (.aload_n 0, 1) := by decide +kernel
set_option maxRecDepth 20000 in
theorem w136_15 {d : Nat} {st : List Value} {Q : Option Value × jW → Prop} {w : jW} {a1 a2 : Option Value} {x : Nat} : Wp d 136 15 [some (.ref x), a1, a2] (st) w Q = Wp d 136 16 [some (.ref x), a1, a2] (.ref x :: st) w Q := Wp.loc e136_15 rfl rfl rfl
theorem e136_16 : decode (j_co 136) 16 = .ok (.getfield 13, 3) := by decide +kernel
set_option maxRecDepth 20000 in
theorem w136_16 {d : Nat} {st : List Value} {Q : Option Value × jW → Prop} {ls : jL} {xs : List Value} {I : fI} {L : fL} {o : Nat} (ht : f_tg o = 11) : Wp d 136 16 ls (.ref o :: st) (f_W xs I L) Q = Wp d 136 19 ls (.ref (f_rf o 2) :: st) (f_W xs I L) Q := Wp.getR (ci := 11) (k := 2) e136_16 rfl (by decide) (by decide) rfl ht
theorem e136_19 : decode (j_co 136) 19 = .ok (.bipush 6, 2) := by decide +kernel
set_option maxRecDepth 20000 in
theorem w136_19 {d : Nat} {st : List Value} {Q : Option Value × jW → Prop} {ls : jL} {w : jW} : Wp d 136 19 ls (st) w Q = Wp d 136 21 ls (.int (nI 6) :: st) w Q := Wp.alu e136_19 rfl rfl
theorem e136_21 : decode (j_co 136) 21 = .ok (.iload_n 1, 1) := by decide +kernel
set_option maxRecDepth 20000 in
theorem w136_21 {d : Nat} {st : List Value} {Q : Option Value × jW → Prop} {w : jW} {a0 a2 : Option Value} {x : Int32} : Wp d 136 21 [a0, some (.int x), a2] (st) w Q = Wp d 136 22 [a0, some (.int x), a2] (.int x :: st) w Q := Wp.loc e136_21 rfl rfl rfl
theorem e136_22 : decode (j_co 136) 22 = .ok (.imul, 1) := by decide +kernel
set_option maxRecDepth 20000 in
theorem w136_22 {d : Nat} {st : List Value} {Q : Option Value × jW → Prop} {ls : jL} {w : jW} {a b : Int32} : Wp d 136 22 ls (.int b :: .int a :: st) w Q = Wp d 136 23 ls (.int (a * b) :: st) w Q := Wp.alu e136_22 rfl rfl
theorem e136_23 : decode (j_co 136) 23 = .ok (.iload_n 2, 1) := by decide +kernel
set_option maxRecDepth 20000 in
theorem w136_23 {d : Nat} {st : List Value} {Q : Option Value × jW → Prop} {w : jW} {a0 a1 : Option Value} {x : Int32} : Wp d 136 23 [a0, a1, some (.int x)] (st) w Q = Wp d 136 24 [a0, a1, some (.int x)] (.int x :: st) w Q := Wp.loc e136_23 rfl rfl rfl
theorem e136_24 : decode (j_co 136) 24 = .ok (.iadd, 1) := by decide +kernel
set_option maxRecDepth 20000 in
theorem w136_24 {d : Nat} {st : List Value} {Q : Option Value × jW → Prop} {ls : jL} {w : jW} {a b : Int32} : Wp d 136 24 ls (.int b :: .int a :: st) w Q = Wp d 136 25 ls (.int (a + b) :: st) w Q := Wp.alu e136_24 rfl rfl
theorem e136_25 : decode (j_co 136) 25 = .ok (.iaload, 1) := by decide +kernel
set_option maxRecDepth 20000 in
theorem w136_25 {d : Nat} {st : List Value} {Q : Option Value × jW → Prop} {ls : jL} {xs : List Value} {I : fI} {L : fL} {o : Nat} {i : Int32} (ht : f_tg o = 100) (hi : ¬ (i < 0 ∨ f_ln o ≤ i.toNatClampNeg)) : Wp d 136 25 ls (.int i :: .ref o :: st) (f_W xs I L) Q = Wp d 136 26 ls (.int (I o i.toNatClampNeg) :: st) (f_W xs I L) Q := Wp.iald e136_25 ht hi
theorem e136_26 : decode (j_co 136) 26 = .ok (.iadd, 1) := by decide +kernel
set_option maxRecDepth 20000 in
theorem w136_26 {d : Nat} {st : List Value} {Q : Option Value × jW → Prop} {ls : jL} {w : jW} {a b : Int32} : Wp d 136 26 ls (.int b :: .int a :: st) w Q = Wp d 136 27 ls (.int (a + b) :: st) w Q := Wp.alu e136_26 rfl rfl
theorem e136_27 : decode (j_co 136) 27 = .ok (.iastore, 1) := by decide +kernel
set_option maxRecDepth 20000 in
theorem w136_27 {d : Nat} {st : List Value} {Q : Option Value × jW → Prop} {ls : jL} {xs : List Value} {I : fI} {L : fL} {o : Nat} {i x : Int32} (ht : f_tg o = 100) (hi : ¬ (i < 0 ∨ f_ln o ≤ i.toNatClampNeg)) : Wp d 136 27 ls (.int x :: .int i :: .ref o :: st) (f_W xs I L) Q = Wp d 136 28 ls (st) (f_W xs (f_up I o i.toNatClampNeg x) L) Q := Wp.iast e136_27 ht hi
theorem e136_28 : decode (j_co 136) 28 = .ok (.iinc 2 1, 3) := by decide +kernel
set_option maxRecDepth 20000 in
theorem w136_28 {d : Nat} {st : List Value} {Q : Option Value × jW → Prop} {w : jW} {a0 a1 : Option Value} {x : Int32} (h : j_cp a1) : Wp d 136 28 [a0, a1, some (.int x)] (st) w Q = Wp d 136 31 [a0, a1, some (.int (x + nI 1))] (st) w Q := Wp.loc e136_28 rfl rfl (v_inc (ls := [a0, a1, some (.int x)]) (k := 2) (n := 1) rfl (show 2 < 3 by decide) h)
theorem e136_31 : decode (j_co 136) 31 = .ok (.goto (-29), 3) := by decide +kernel
set_option maxRecDepth 20000 in
theorem w136_31 {d : Nat} {st : List Value} {Q : Option Value × jW → Prop} {ls : jL} {w : jW} : Wp d 136 31 ls (st) w Q = Wp d 136 2 ls (st) w Q := Wp.br e136_31 (Or.inl rfl) rfl rfl rfl rfl
theorem e136_34 : decode (j_co 136) 34 = .ok (.aload_n 0, 1) := by decide +kernel
set_option maxRecDepth 20000 in
theorem w136_34 {d : Nat} {st : List Value} {Q : Option Value × jW → Prop} {w : jW} {a1 a2 : Option Value} {x : Nat} : Wp d 136 34 [some (.ref x), a1, a2] (st) w Q = Wp d 136 35 [some (.ref x), a1, a2] (.ref x :: st) w Q := Wp.loc e136_34 rfl rfl rfl
theorem e136_35 : decode (j_co 136) 35 = .ok (.aload_n 0, 1) := by decide +kernel
set_option maxRecDepth 20000 in
theorem w136_35 {d : Nat} {st : List Value} {Q : Option Value × jW → Prop} {w : jW} {a1 a2 : Option Value} {x : Nat} : Wp d 136 35 [some (.ref x), a1, a2] (st) w Q = Wp d 136 36 [some (.ref x), a1, a2] (.ref x :: st) w Q := Wp.loc e136_35 rfl rfl rfl
theorem e136_36 : decode (j_co 136) 36 = .ok (.getfield 7, 3) := by decide +kernel
set_option maxRecDepth 20000 in
theorem w136_36 {d : Nat} {st : List Value} {Q : Option Value × jW → Prop} {ls : jL} {xs : List Value} {I : fI} {L : fL} {o : Nat} (ht : f_tg o = 11) : Wp d 136 36 ls (.ref o :: st) (f_W xs I L) Q = Wp d 136 39 ls (.ref (f_rf o 1) :: st) (f_W xs I L) Q := Wp.getR (ci := 11) (k := 1) e136_36 rfl (by decide) (by decide) rfl ht
theorem e136_39 : decode (j_co 136) 39 = .ok (.bipush 6, 2) := by decide +kernel
set_option maxRecDepth 20000 in
theorem w136_39 {d : Nat} {st : List Value} {Q : Option Value × jW → Prop} {ls : jL} {w : jW} : Wp d 136 39 ls (st) w Q = Wp d 136 41 ls (.int (nI 6) :: st) w Q := Wp.alu e136_39 rfl rfl
theorem e136_41 : decode (j_co 136) 41 = .ok (.iload_n 1, 1) := by decide +kernel
set_option maxRecDepth 20000 in
theorem w136_41 {d : Nat} {st : List Value} {Q : Option Value × jW → Prop} {w : jW} {a0 a2 : Option Value} {x : Int32} : Wp d 136 41 [a0, some (.int x), a2] (st) w Q = Wp d 136 42 [a0, some (.int x), a2] (.int x :: st) w Q := Wp.loc e136_41 rfl rfl rfl
theorem e136_42 : decode (j_co 136) 42 = .ok (.imul, 1) := by decide +kernel
set_option maxRecDepth 20000 in
theorem w136_42 {d : Nat} {st : List Value} {Q : Option Value × jW → Prop} {ls : jL} {w : jW} {a b : Int32} : Wp d 136 42 ls (.int b :: .int a :: st) w Q = Wp d 136 43 ls (.int (a * b) :: st) w Q := Wp.alu e136_42 rfl rfl
theorem e136_43 : decode (j_co 136) 43 = .ok (.invokevirtual 128, 3) := by decide +kernel
set_option maxRecDepth 20000 in
theorem w136_43 {d : Nat} {st : List Value} {Q : Option Value × jW → Prop} {ls : jL} {xs : List Value} {I : fI} {L : fL} {r : Nat} {x0 : Nat} {x1 : Int32} (hs : j_sumc st ≤ 8) (ht : f_tg r = 11) : Wp (d + 1) 136 43 ls (.int x1 :: .ref x0 :: .ref r :: st) (f_W xs I L) Q = Wp d 131 0 [some (.ref r), some (.ref x0), some (.int x1), none, none, none] [] (f_W xs I L) (fun r1 => Wp (d + 1) 136 46 ls (r1.1.toList ++ st) r1.2 Q) := Wp.cv (y' := 131) (as := [.ref x0, .int x1]) e136_43 rfl (by decide) rfl (show 3 ≤ 6 by decide) (by decide) hs ht
theorem e136_46 : decode (j_co 136) 46 = .ok (.return_, 1) := by decide +kernel
set_option maxRecDepth 20000 in
theorem w136_46 {d : Nat} {Q : Option Value × jW → Prop} {ls : jL} {w : jW} : Wp d 136 46 ls [] w Q = Q (none, w) := Wp.ret e136_46 rfl
/-! M.comesTo -/
theorem e137_0 : decode (j_co 137) 0 = .ok (.aload_n 0, 1) := by decide +kernel
set_option maxRecDepth 20000 in
theorem w137_0 {d : Nat} {st : List Value} {Q : Option Value × jW → Prop} {w : jW} {a1 a2 a3 a4 a5 a6 a7 : Option Value} {x : Nat} : Wp d 137 0 [some (.ref x), a1, a2, a3, a4, a5, a6, a7] (st) w Q = Wp d 137 1 [some (.ref x), a1, a2, a3, a4, a5, a6, a7] (.ref x :: st) w Q := Wp.loc e137_0 rfl rfl rfl
theorem e137_1 : decode (j_co 137) 1 = .ok (.invokevirtual 131, 3) := by decide +kernel
set_option maxRecDepth 20000 in
theorem w137_1 {d : Nat} {st : List Value} {Q : Option Value × jW → Prop} {ls : jL} {xs : List Value} {I : fI} {L : fL} {r : Nat} (hs : j_sumc st ≤ 8) (ht : f_tg r = 11) : Wp (d + 1) 137 1 ls (.ref r :: st) (f_W xs I L) Q = Wp d 132 0 [some (.ref r)] [] (f_W xs I L) (fun r1 => Wp (d + 1) 137 4 ls (r1.1.toList ++ st) r1.2 Q) := Wp.cv (y' := 132) (as := []) e137_1 rfl (by decide) rfl (show 1 ≤ 1 by decide) (by decide) hs ht
theorem e137_4 : decode (j_co 137) 4 = .ok (.ifCond .ne 11, 3) := by decide +kernel
set_option maxRecDepth 20000 in
theorem w137_4 {d : Nat} {st : List Value} {Q : Option Value × jW → Prop} {ls : jL} {w : jW} {a : Int32} : Wp d 137 4 ls (.int a :: st) w Q = ((a = nI 0 → Wp d 137 7 ls st w Q) ∧ (¬ a = nI 0 → Wp d 137 15 ls st w Q)) := Wp.if2n (c := a = nI 0) (off := 11) e137_4 rfl rfl rfl rfl rfl
theorem e137_7 : decode (j_co 137) 7 = .ok (.aload_n 0, 1) := by decide +kernel
set_option maxRecDepth 20000 in
theorem w137_7 {d : Nat} {st : List Value} {Q : Option Value × jW → Prop} {w : jW} {a1 a2 a3 a4 a5 a6 a7 : Option Value} {x : Nat} : Wp d 137 7 [some (.ref x), a1, a2, a3, a4, a5, a6, a7] (st) w Q = Wp d 137 8 [some (.ref x), a1, a2, a3, a4, a5, a6, a7] (.ref x :: st) w Q := Wp.loc e137_7 rfl rfl rfl
theorem e137_8 : decode (j_co 137) 8 = .ok (.iload_n 1, 1) := by decide +kernel
set_option maxRecDepth 20000 in
theorem w137_8 {d : Nat} {st : List Value} {Q : Option Value × jW → Prop} {w : jW} {a0 a2 a3 a4 a5 a6 a7 : Option Value} {x : Int32} : Wp d 137 8 [a0, some (.int x), a2, a3, a4, a5, a6, a7] (st) w Q = Wp d 137 9 [a0, some (.int x), a2, a3, a4, a5, a6, a7] (.int x :: st) w Q := Wp.loc e137_8 rfl rfl rfl
theorem e137_9 : decode (j_co 137) 9 = .ok (.invokevirtual 142, 3) := by decide +kernel
set_option maxRecDepth 20000 in
theorem w137_9 {d : Nat} {st : List Value} {Q : Option Value × jW → Prop} {ls : jL} {xs : List Value} {I : fI} {L : fL} {r : Nat} {x0 : Int32} (hs : j_sumc st ≤ 8) (ht : f_tg r = 11) : Wp (d + 1) 137 9 ls (.int x0 :: .ref r :: st) (f_W xs I L) Q = Wp d 138 0 [some (.ref r), some (.int x0), none, none] [] (f_W xs I L) (fun r1 => Wp (d + 1) 137 12 ls (r1.1.toList ++ st) r1.2 Q) := Wp.cv (y' := 138) (as := [.int x0]) e137_9 rfl (by decide) rfl (show 2 ≤ 4 by decide) (by decide) hs ht
theorem e137_12 : decode (j_co 137) 12 = .ok (.ifCond .eq 4, 3) := by decide +kernel
set_option maxRecDepth 20000 in
theorem w137_12 {d : Nat} {st : List Value} {Q : Option Value × jW → Prop} {ls : jL} {w : jW} {a : Int32} : Wp d 137 12 ls (.int a :: st) w Q = ((a = nI 0 → Wp d 137 16 ls st w Q) ∧ (¬ a = nI 0 → Wp d 137 15 ls st w Q)) := Wp.if2 (c := a = nI 0) (off := 4) e137_12 rfl rfl rfl rfl rfl
theorem e137_15 : decode (j_co 137) 15 = .ok (.return_, 1) := by decide +kernel
set_option maxRecDepth 20000 in
theorem w137_15 {d : Nat} {Q : Option Value × jW → Prop} {ls : jL} {w : jW} : Wp d 137 15 ls [] w Q = Q (none, w) := Wp.ret e137_15 rfl
theorem e137_16 : decode (j_co 137) 16 = .ok (.iconst 0, 1) := by decide +kernel
set_option maxRecDepth 20000 in
theorem w137_16 {d : Nat} {st : List Value} {Q : Option Value × jW → Prop} {ls : jL} {w : jW} : Wp d 137 16 ls (st) w Q = Wp d 137 17 ls (.int (nI 0) :: st) w Q := Wp.alu e137_16 rfl rfl
theorem e137_17 : decode (j_co 137) 17 = .ok (.istore 4, 2) := by decide +kernel
set_option maxRecDepth 20000 in
theorem w137_17 {d : Nat} {st : List Value} {Q : Option Value × jW → Prop} {w : jW} {a0 a1 a2 a3 a4 a5 a6 a7 : Option Value} {x : Int32} (h : j_cp a3) : Wp d 137 17 [a0, a1, a2, a3, a4, a5, a6, a7] (.int x :: st) w Q = Wp d 137 19 [a0, a1, a2, a3, some (.int x), a5, a6, a7] (st) w Q := Wp.loc e137_17 rfl rfl (v_stI (ls := [a0, a1, a2, a3, a4, a5, a6, a7]) (k := 4) (show 4 < 8 by decide) h)
theorem e137_19 : decode (j_co 137) 19 = .ok (.bipush (-4), 2) := by decide +kernel
set_option maxRecDepth 20000 in
theorem w137_19 {d : Nat} {st : List Value} {Q : Option Value × jW → Prop} {ls : jL} {w : jW} : Wp d 137 19 ls (st) w Q = Wp d 137 21 ls (.int (-4) :: st) w Q := Wp.alu e137_19 rfl rfl
theorem e137_21 : decode (j_co 137) 21 = .ok (.istore 5, 2) := by decide +kernel
set_option maxRecDepth 20000 in
theorem w137_21 {d : Nat} {st : List Value} {Q : Option Value × jW → Prop} {w : jW} {a0 a1 a2 a3 a4 a5 a6 a7 : Option Value} {x : Int32} (h : j_cp a4) : Wp d 137 21 [a0, a1, a2, a3, a4, a5, a6, a7] (.int x :: st) w Q = Wp d 137 23 [a0, a1, a2, a3, a4, some (.int x), a6, a7] (st) w Q := Wp.loc e137_21 rfl rfl (v_stI (ls := [a0, a1, a2, a3, a4, a5, a6, a7]) (k := 5) (show 5 < 8 by decide) h)
theorem e137_23 : decode (j_co 137) 23 = .ok (.iconst 0, 1) := by decide +kernel
set_option maxRecDepth 20000 in
theorem w137_23 {d : Nat} {st : List Value} {Q : Option Value × jW → Prop} {ls : jL} {w : jW} : Wp d 137 23 ls (st) w Q = Wp d 137 24 ls (.int (nI 0) :: st) w Q := Wp.alu e137_23 rfl rfl
theorem e137_24 : decode (j_co 137) 24 = .ok (.istore 6, 2) := by decide +kernel
set_option maxRecDepth 20000 in
theorem w137_24 {d : Nat} {st : List Value} {Q : Option Value × jW → Prop} {w : jW} {a0 a1 a2 a3 a4 a5 a6 a7 : Option Value} {x : Int32} (h : j_cp a5) : Wp d 137 24 [a0, a1, a2, a3, a4, a5, a6, a7] (.int x :: st) w Q = Wp d 137 26 [a0, a1, a2, a3, a4, a5, some (.int x), a7] (st) w Q := Wp.loc e137_24 rfl rfl (v_stI (ls := [a0, a1, a2, a3, a4, a5, a6, a7]) (k := 6) (show 6 < 8 by decide) h)
theorem e137_26 : decode (j_co 137) 26 = .ok (.iload 6, 2) := by decide +kernel
set_option maxRecDepth 20000 in
theorem w137_26 {d : Nat} {st : List Value} {Q : Option Value × jW → Prop} {w : jW} {a0 a1 a2 a3 a4 a5 a7 : Option Value} {x : Int32} : Wp d 137 26 [a0, a1, a2, a3, a4, a5, some (.int x), a7] (st) w Q = Wp d 137 28 [a0, a1, a2, a3, a4, a5, some (.int x), a7] (.int x :: st) w Q := Wp.loc e137_26 rfl rfl rfl
theorem e137_28 : decode (j_co 137) 28 = .ok (.aload_n 0, 1) := by decide +kernel
set_option maxRecDepth 20000 in
theorem w137_28 {d : Nat} {st : List Value} {Q : Option Value × jW → Prop} {w : jW} {a1 a2 a3 a4 a5 a6 a7 : Option Value} {x : Nat} : Wp d 137 28 [some (.ref x), a1, a2, a3, a4, a5, a6, a7] (st) w Q = Wp d 137 29 [some (.ref x), a1, a2, a3, a4, a5, a6, a7] (.ref x :: st) w Q := Wp.loc e137_28 rfl rfl rfl
theorem e137_29 : decode (j_co 137) 29 = .ok (.getfield 135, 3) := by decide +kernel
set_option maxRecDepth 20000 in
theorem w137_29 {d : Nat} {st : List Value} {Q : Option Value × jW → Prop} {ls : jL} {xs : List Value} {I : fI} {L : fL} {o : Nat} (ht : f_tg o = 11) : Wp d 137 29 ls (.ref o :: st) (f_W xs I L) Q = Wp d 137 32 ls (.int (I o 16) :: st) (f_W xs I L) Q := Wp.getI (ci := 11) (k := 16) e137_29 rfl (by decide) (by decide) (by decide) ht
theorem e137_32 : decode (j_co 137) 32 = .ok (.if_icmp .ge 27, 3) := by decide +kernel
set_option maxRecDepth 20000 in
theorem w137_32 {d : Nat} {st : List Value} {Q : Option Value × jW → Prop} {ls : jL} {w : jW} {a b : Int32} : Wp d 137 32 ls (.int b :: .int a :: st) w Q = ((b ≤ a → Wp d 137 59 ls st w Q) ∧ (¬ b ≤ a → Wp d 137 35 ls st w Q)) := Wp.if2 (c := b ≤ a) (off := 27) e137_32 rfl rfl rfl rfl rfl
theorem e137_35 : decode (j_co 137) 35 = .ok (.aload_n 0, 1) := by decide +kernel
set_option maxRecDepth 20000 in
theorem w137_35 {d : Nat} {st : List Value} {Q : Option Value × jW → Prop} {w : jW} {a1 a2 a3 a4 a5 a6 a7 : Option Value} {x : Nat} : Wp d 137 35 [some (.ref x), a1, a2, a3, a4, a5, a6, a7] (st) w Q = Wp d 137 36 [some (.ref x), a1, a2, a3, a4, a5, a6, a7] (.ref x :: st) w Q := Wp.loc e137_35 rfl rfl rfl
theorem e137_36 : decode (j_co 137) 36 = .ok (.getfield 51, 3) := by decide +kernel
set_option maxRecDepth 20000 in
theorem w137_36 {d : Nat} {st : List Value} {Q : Option Value × jW → Prop} {ls : jL} {xs : List Value} {I : fI} {L : fL} {o : Nat} (ht : f_tg o = 11) : Wp d 137 36 ls (.ref o :: st) (f_W xs I L) Q = Wp d 137 39 ls (.ref (f_rf o 17) :: st) (f_W xs I L) Q := Wp.getR (ci := 11) (k := 17) e137_36 rfl (by decide) (by decide) rfl ht
theorem e137_39 : decode (j_co 137) 39 = .ok (.iload 6, 2) := by decide +kernel
set_option maxRecDepth 20000 in
theorem w137_39 {d : Nat} {st : List Value} {Q : Option Value × jW → Prop} {w : jW} {a0 a1 a2 a3 a4 a5 a7 : Option Value} {x : Int32} : Wp d 137 39 [a0, a1, a2, a3, a4, a5, some (.int x), a7] (st) w Q = Wp d 137 41 [a0, a1, a2, a3, a4, a5, some (.int x), a7] (.int x :: st) w Q := Wp.loc e137_39 rfl rfl rfl
theorem e137_41 : decode (j_co 137) 41 = .ok (.iaload, 1) := by decide +kernel
set_option maxRecDepth 20000 in
theorem w137_41 {d : Nat} {st : List Value} {Q : Option Value × jW → Prop} {ls : jL} {xs : List Value} {I : fI} {L : fL} {o : Nat} {i : Int32} (ht : f_tg o = 100) (hi : ¬ (i < 0 ∨ f_ln o ≤ i.toNatClampNeg)) : Wp d 137 41 ls (.int i :: .ref o :: st) (f_W xs I L) Q = Wp d 137 42 ls (.int (I o i.toNatClampNeg) :: st) (f_W xs I L) Q := Wp.iald e137_41 ht hi
theorem e137_42 : decode (j_co 137) 42 = .ok (.iload_n 1, 1) := by decide +kernel
set_option maxRecDepth 20000 in
theorem w137_42 {d : Nat} {st : List Value} {Q : Option Value × jW → Prop} {w : jW} {a0 a2 a3 a4 a5 a6 a7 : Option Value} {x : Int32} : Wp d 137 42 [a0, some (.int x), a2, a3, a4, a5, a6, a7] (st) w Q = Wp d 137 43 [a0, some (.int x), a2, a3, a4, a5, a6, a7] (.int x :: st) w Q := Wp.loc e137_42 rfl rfl rfl
theorem e137_43 : decode (j_co 137) 43 = .ok (.if_icmp .ne 10, 3) := by decide +kernel
set_option maxRecDepth 20000 in
theorem w137_43 {d : Nat} {st : List Value} {Q : Option Value × jW → Prop} {ls : jL} {w : jW} {a b : Int32} : Wp d 137 43 ls (.int b :: .int a :: st) w Q = ((a = b → Wp d 137 46 ls st w Q) ∧ (¬ a = b → Wp d 137 53 ls st w Q)) := Wp.if2n (c := a = b) (off := 10) e137_43 rfl rfl rfl rfl rfl
theorem e137_46 : decode (j_co 137) 46 = .ok (.iinc 4 1, 3) := by decide +kernel
set_option maxRecDepth 20000 in
theorem w137_46 {d : Nat} {st : List Value} {Q : Option Value × jW → Prop} {w : jW} {a0 a1 a2 a3 a5 a6 a7 : Option Value} {x : Int32} (h : j_cp a3) : Wp d 137 46 [a0, a1, a2, a3, some (.int x), a5, a6, a7] (st) w Q = Wp d 137 49 [a0, a1, a2, a3, some (.int (x + nI 1)), a5, a6, a7] (st) w Q := Wp.loc e137_46 rfl rfl (v_inc (ls := [a0, a1, a2, a3, some (.int x), a5, a6, a7]) (k := 4) (n := 1) rfl (show 4 < 8 by decide) h)
theorem e137_49 : decode (j_co 137) 49 = .ok (.iload 6, 2) := by decide +kernel
set_option maxRecDepth 20000 in
theorem w137_49 {d : Nat} {st : List Value} {Q : Option Value × jW → Prop} {w : jW} {a0 a1 a2 a3 a4 a5 a7 : Option Value} {x : Int32} : Wp d 137 49 [a0, a1, a2, a3, a4, a5, some (.int x), a7] (st) w Q = Wp d 137 51 [a0, a1, a2, a3, a4, a5, some (.int x), a7] (.int x :: st) w Q := Wp.loc e137_49 rfl rfl rfl
theorem e137_51 : decode (j_co 137) 51 = .ok (.istore 5, 2) := by decide +kernel
set_option maxRecDepth 20000 in
theorem w137_51 {d : Nat} {st : List Value} {Q : Option Value × jW → Prop} {w : jW} {a0 a1 a2 a3 a4 a5 a6 a7 : Option Value} {x : Int32} (h : j_cp a4) : Wp d 137 51 [a0, a1, a2, a3, a4, a5, a6, a7] (.int x :: st) w Q = Wp d 137 53 [a0, a1, a2, a3, a4, some (.int x), a6, a7] (st) w Q := Wp.loc e137_51 rfl rfl (v_stI (ls := [a0, a1, a2, a3, a4, a5, a6, a7]) (k := 5) (show 5 < 8 by decide) h)
theorem e137_53 : decode (j_co 137) 53 = .ok (.iinc 6 1, 3) := by decide +kernel
set_option maxRecDepth 20000 in
theorem w137_53 {d : Nat} {st : List Value} {Q : Option Value × jW → Prop} {w : jW} {a0 a1 a2 a3 a4 a5 a7 : Option Value} {x : Int32} (h : j_cp a5) : Wp d 137 53 [a0, a1, a2, a3, a4, a5, some (.int x), a7] (st) w Q = Wp d 137 56 [a0, a1, a2, a3, a4, a5, some (.int (x + nI 1)), a7] (st) w Q := Wp.loc e137_53 rfl rfl (v_inc (ls := [a0, a1, a2, a3, a4, a5, some (.int x), a7]) (k := 6) (n := 1) rfl (show 6 < 8 by decide) h)
theorem e137_56 : decode (j_co 137) 56 = .ok (.goto (-30), 3) := by decide +kernel
set_option maxRecDepth 20000 in
theorem w137_56 {d : Nat} {st : List Value} {Q : Option Value × jW → Prop} {ls : jL} {w : jW} : Wp d 137 56 ls (st) w Q = Wp d 137 26 ls (st) w Q := Wp.br e137_56 (Or.inl rfl) rfl rfl rfl rfl
theorem e137_59 : decode (j_co 137) 59 = .ok (.iload 4, 2) := by decide +kernel
set_option maxRecDepth 20000 in
theorem w137_59 {d : Nat} {st : List Value} {Q : Option Value × jW → Prop} {w : jW} {a0 a1 a2 a3 a5 a6 a7 : Option Value} {x : Int32} : Wp d 137 59 [a0, a1, a2, a3, some (.int x), a5, a6, a7] (st) w Q = Wp d 137 61 [a0, a1, a2, a3, some (.int x), a5, a6, a7] (.int x :: st) w Q := Wp.loc e137_59 rfl rfl rfl
theorem e137_61 : decode (j_co 137) 61 = .ok (.aload_n 0, 1) := by decide +kernel
set_option maxRecDepth 20000 in
theorem w137_61 {d : Nat} {st : List Value} {Q : Option Value × jW → Prop} {w : jW} {a1 a2 a3 a4 a5 a6 a7 : Option Value} {x : Nat} : Wp d 137 61 [some (.ref x), a1, a2, a3, a4, a5, a6, a7] (st) w Q = Wp d 137 62 [some (.ref x), a1, a2, a3, a4, a5, a6, a7] (.ref x :: st) w Q := Wp.loc e137_61 rfl rfl rfl
theorem e137_62 : decode (j_co 137) 62 = .ok (.getfield 39, 3) := by decide +kernel
set_option maxRecDepth 20000 in
theorem w137_62 {d : Nat} {st : List Value} {Q : Option Value × jW → Prop} {ls : jL} {xs : List Value} {I : fI} {L : fL} {o : Nat} (ht : f_tg o = 11) : Wp d 137 62 ls (.ref o :: st) (f_W xs I L) Q = Wp d 137 65 ls (.int (I o 12) :: st) (f_W xs I L) Q := Wp.getI (ci := 11) (k := 12) e137_62 rfl (by decide) (by decide) (by decide) ht
theorem e137_65 : decode (j_co 137) 65 = .ok (.if_icmp .ge 28, 3) := by decide +kernel
set_option maxRecDepth 20000 in
theorem w137_65 {d : Nat} {st : List Value} {Q : Option Value × jW → Prop} {ls : jL} {w : jW} {a b : Int32} : Wp d 137 65 ls (.int b :: .int a :: st) w Q = ((b ≤ a → Wp d 137 93 ls st w Q) ∧ (¬ b ≤ a → Wp d 137 68 ls st w Q)) := Wp.if2 (c := b ≤ a) (off := 28) e137_65 rfl rfl rfl rfl rfl
theorem e137_68 : decode (j_co 137) 68 = .ok (.aload_n 0, 1) := by decide +kernel
set_option maxRecDepth 20000 in
theorem w137_68 {d : Nat} {st : List Value} {Q : Option Value × jW → Prop} {w : jW} {a1 a2 a3 a4 a5 a6 a7 : Option Value} {x : Nat} : Wp d 137 68 [some (.ref x), a1, a2, a3, a4, a5, a6, a7] (st) w Q = Wp d 137 69 [some (.ref x), a1, a2, a3, a4, a5, a6, a7] (.ref x :: st) w Q := Wp.loc e137_68 rfl rfl rfl
theorem e137_69 : decode (j_co 137) 69 = .ok (.getfield 135, 3) := by decide +kernel
set_option maxRecDepth 20000 in
theorem w137_69 {d : Nat} {st : List Value} {Q : Option Value × jW → Prop} {ls : jL} {xs : List Value} {I : fI} {L : fL} {o : Nat} (ht : f_tg o = 11) : Wp d 137 69 ls (.ref o :: st) (f_W xs I L) Q = Wp d 137 72 ls (.int (I o 16) :: st) (f_W xs I L) Q := Wp.getI (ci := 11) (k := 16) e137_69 rfl (by decide) (by decide) (by decide) ht
theorem e137_72 : decode (j_co 137) 72 = .ok (.bipush 64, 2) := by decide +kernel
set_option maxRecDepth 20000 in
theorem w137_72 {d : Nat} {st : List Value} {Q : Option Value × jW → Prop} {ls : jL} {w : jW} : Wp d 137 72 ls (st) w Q = Wp d 137 74 ls (.int (nI 64) :: st) w Q := Wp.alu e137_72 rfl rfl
theorem e137_74 : decode (j_co 137) 74 = .ok (.if_icmp .ne 11, 3) := by decide +kernel
set_option maxRecDepth 20000 in
theorem w137_74 {d : Nat} {st : List Value} {Q : Option Value × jW → Prop} {ls : jL} {w : jW} {a b : Int32} : Wp d 137 74 ls (.int b :: .int a :: st) w Q = ((a = b → Wp d 137 77 ls st w Q) ∧ (¬ a = b → Wp d 137 85 ls st w Q)) := Wp.if2n (c := a = b) (off := 11) e137_74 rfl rfl rfl rfl rfl
theorem e137_77 : decode (j_co 137) 77 = .ok (.aload_n 0, 1) := by decide +kernel
set_option maxRecDepth 20000 in
theorem w137_77 {d : Nat} {st : List Value} {Q : Option Value × jW → Prop} {w : jW} {a1 a2 a3 a4 a5 a6 a7 : Option Value} {x : Nat} : Wp d 137 77 [some (.ref x), a1, a2, a3, a4, a5, a6, a7] (st) w Q = Wp d 137 78 [some (.ref x), a1, a2, a3, a4, a5, a6, a7] (.ref x :: st) w Q := Wp.loc e137_77 rfl rfl rfl
theorem e137_78 : decode (j_co 137) 78 = .ok (.iconst 1, 1) := by decide +kernel
set_option maxRecDepth 20000 in
theorem w137_78 {d : Nat} {st : List Value} {Q : Option Value × jW → Prop} {ls : jL} {w : jW} : Wp d 137 78 ls (st) w Q = Wp d 137 79 ls (.int (nI 1) :: st) w Q := Wp.alu e137_78 rfl rfl
theorem e137_79 : decode (j_co 137) 79 = .ok (.putfield 145, 3) := by decide +kernel
set_option maxRecDepth 20000 in
theorem w137_79 {d : Nat} {st : List Value} {Q : Option Value × jW → Prop} {ls : jL} {xs : List Value} {I : fI} {L : fL} {o : Nat} {x : Int32} (ht : f_tg o = 11) (hx : x = 0 ∨ x = 1) : Wp d 137 79 ls (.int x :: .ref o :: st) (f_W xs I L) Q = Wp d 137 82 ls (st) (f_W xs (f_up I o 24 x) L) Q := Wp.putI (ci := 11) (k := 24) e137_79 rfl (by decide) (by decide) (by rcases hx with rfl | rfl <;> rfl) (by decide) ht
theorem e137_82 : decode (j_co 137) 82 = .ok (.goto 10, 3) := by decide +kernel
set_option maxRecDepth 20000 in
theorem w137_82 {d : Nat} {st : List Value} {Q : Option Value × jW → Prop} {ls : jL} {w : jW} : Wp d 137 82 ls (st) w Q = Wp d 137 92 ls (st) w Q := Wp.br e137_82 (Or.inl rfl) rfl rfl rfl rfl
theorem e137_85 : decode (j_co 137) 85 = .ok (.aload_n 0, 1) := by decide +kernel
set_option maxRecDepth 20000 in
theorem w137_85 {d : Nat} {st : List Value} {Q : Option Value × jW → Prop} {w : jW} {a1 a2 a3 a4 a5 a6 a7 : Option Value} {x : Nat} : Wp d 137 85 [some (.ref x), a1, a2, a3, a4, a5, a6, a7] (st) w Q = Wp d 137 86 [some (.ref x), a1, a2, a3, a4, a5, a6, a7] (.ref x :: st) w Q := Wp.loc e137_85 rfl rfl rfl
theorem e137_86 : decode (j_co 137) 86 = .ok (.iload_n 1, 1) := by decide +kernel
set_option maxRecDepth 20000 in
theorem w137_86 {d : Nat} {st : List Value} {Q : Option Value × jW → Prop} {w : jW} {a0 a2 a3 a4 a5 a6 a7 : Option Value} {x : Int32} : Wp d 137 86 [a0, some (.int x), a2, a3, a4, a5, a6, a7] (st) w Q = Wp d 137 87 [a0, some (.int x), a2, a3, a4, a5, a6, a7] (.int x :: st) w Q := Wp.loc e137_86 rfl rfl rfl
theorem e137_87 : decode (j_co 137) 87 = .ok (.iload_n 2, 1) := by decide +kernel
set_option maxRecDepth 20000 in
theorem w137_87 {d : Nat} {st : List Value} {Q : Option Value × jW → Prop} {w : jW} {a0 a1 a3 a4 a5 a6 a7 : Option Value} {x : Int32} : Wp d 137 87 [a0, a1, some (.int x), a3, a4, a5, a6, a7] (st) w Q = Wp d 137 88 [a0, a1, some (.int x), a3, a4, a5, a6, a7] (.int x :: st) w Q := Wp.loc e137_87 rfl rfl rfl
theorem e137_88 : decode (j_co 137) 88 = .ok (.iload_n 3, 1) := by decide +kernel
set_option maxRecDepth 20000 in
theorem w137_88 {d : Nat} {st : List Value} {Q : Option Value × jW → Prop} {w : jW} {a0 a1 a2 a4 a5 a6 a7 : Option Value} {x : Int32} : Wp d 137 88 [a0, a1, a2, some (.int x), a4, a5, a6, a7] (st) w Q = Wp d 137 89 [a0, a1, a2, some (.int x), a4, a5, a6, a7] (.int x :: st) w Q := Wp.loc e137_88 rfl rfl rfl
theorem e137_89 : decode (j_co 137) 89 = .ok (.invokevirtual 149, 3) := by decide +kernel
set_option maxRecDepth 20000 in
theorem w137_89 {d : Nat} {st : List Value} {Q : Option Value × jW → Prop} {ls : jL} {xs : List Value} {I : fI} {L : fL} {r : Nat} {x0 : Int32} {x1 : Int32} {x2 : Int32} (hs : j_sumc st ≤ 8) (ht : f_tg r = 11) : Wp (d + 1) 137 89 ls (.int x2 :: .int x1 :: .int x0 :: .ref r :: st) (f_W xs I L) Q = Wp d 133 0 [some (.ref r), some (.int x0), some (.int x1), some (.int x2), none] [] (f_W xs I L) (fun r1 => Wp (d + 1) 137 92 ls (r1.1.toList ++ st) r1.2 Q) := Wp.cv (y' := 133) (as := [.int x0, .int x1, .int x2]) e137_89 rfl (by decide) rfl (show 4 ≤ 5 by decide) (by decide) hs ht
theorem e137_92 : decode (j_co 137) 92 = .ok (.return_, 1) := by decide +kernel
set_option maxRecDepth 20000 in
theorem w137_92 {d : Nat} {Q : Option Value × jW → Prop} {ls : jL} {w : jW} : Wp d 137 92 ls [] w Q = Q (none, w) := Wp.ret e137_92 rfl
theorem e137_93 : decode (j_co 137) 93 = .ok (.iconst 0, 1) := by decide +kernel
set_option maxRecDepth 20000 in
theorem w137_93 {d : Nat} {st : List Value} {Q : Option Value × jW → Prop} {ls : jL} {w : jW} : Wp d 137 93 ls (st) w Q = Wp d 137 94 ls (.int (nI 0) :: st) w Q := Wp.alu e137_93 rfl rfl
theorem e137_94 : decode (j_co 137) 94 = .ok (.istore 6, 2) := by decide +kernel
set_option maxRecDepth 20000 in
theorem w137_94 {d : Nat} {st : List Value} {Q : Option Value × jW → Prop} {w : jW} {a0 a1 a2 a3 a4 a5 a6 a7 : Option Value} {x : Int32} (h : j_cp a5) : Wp d 137 94 [a0, a1, a2, a3, a4, a5, a6, a7] (.int x :: st) w Q = Wp d 137 96 [a0, a1, a2, a3, a4, a5, some (.int x), a7] (st) w Q := Wp.loc e137_94 rfl rfl (v_stI (ls := [a0, a1, a2, a3, a4, a5, a6, a7]) (k := 6) (show 6 < 8 by decide) h)
theorem e137_96 : decode (j_co 137) 96 = .ok (.iload 6, 2) := by decide +kernel
set_option maxRecDepth 20000 in
theorem w137_96 {d : Nat} {st : List Value} {Q : Option Value × jW → Prop} {w : jW} {a0 a1 a2 a3 a4 a5 a7 : Option Value} {x : Int32} : Wp d 137 96 [a0, a1, a2, a3, a4, a5, some (.int x), a7] (st) w Q = Wp d 137 98 [a0, a1, a2, a3, a4, a5, some (.int x), a7] (.int x :: st) w Q := Wp.loc e137_96 rfl rfl rfl
theorem e137_98 : decode (j_co 137) 98 = .ok (.iconst 3, 1) := by decide +kernel
set_option maxRecDepth 20000 in
theorem w137_98 {d : Nat} {st : List Value} {Q : Option Value × jW → Prop} {ls : jL} {w : jW} : Wp d 137 98 ls (st) w Q = Wp d 137 99 ls (.int (nI 3) :: st) w Q := Wp.alu e137_98 rfl rfl
theorem e137_99 : decode (j_co 137) 99 = .ok (.if_icmp .ge 121, 3) := by decide +kernel
set_option maxRecDepth 20000 in
theorem w137_99 {d : Nat} {st : List Value} {Q : Option Value × jW → Prop} {ls : jL} {w : jW} {a b : Int32} : Wp d 137 99 ls (.int b :: .int a :: st) w Q = ((b ≤ a → Wp d 137 220 ls st w Q) ∧ (¬ b ≤ a → Wp d 137 102 ls st w Q)) := Wp.if2 (c := b ≤ a) (off := 121) e137_99 rfl rfl rfl rfl rfl
theorem e137_102 : decode (j_co 137) 102 = .ok (.bipush 6, 2) := by decide +kernel
set_option maxRecDepth 20000 in
theorem w137_102 {d : Nat} {st : List Value} {Q : Option Value × jW → Prop} {ls : jL} {w : jW} : Wp d 137 102 ls (st) w Q = Wp d 137 104 ls (.int (nI 6) :: st) w Q := Wp.alu e137_102 rfl rfl
theorem e137_104 : decode (j_co 137) 104 = .ok (.iload 5, 2) := by decide +kernel
set_option maxRecDepth 20000 in
theorem w137_104 {d : Nat} {st : List Value} {Q : Option Value × jW → Prop} {w : jW} {a0 a1 a2 a3 a4 a6 a7 : Option Value} {x : Int32} : Wp d 137 104 [a0, a1, a2, a3, a4, some (.int x), a6, a7] (st) w Q = Wp d 137 106 [a0, a1, a2, a3, a4, some (.int x), a6, a7] (.int x :: st) w Q := Wp.loc e137_104 rfl rfl rfl
theorem e137_106 : decode (j_co 137) 106 = .ok (.imul, 1) := by decide +kernel
set_option maxRecDepth 20000 in
theorem w137_106 {d : Nat} {st : List Value} {Q : Option Value × jW → Prop} {ls : jL} {w : jW} {a b : Int32} : Wp d 137 106 ls (.int b :: .int a :: st) w Q = Wp d 137 107 ls (.int (a * b) :: st) w Q := Wp.alu e137_106 rfl rfl
theorem e137_107 : decode (j_co 137) 107 = .ok (.iconst 2, 1) := by decide +kernel
set_option maxRecDepth 20000 in
theorem w137_107 {d : Nat} {st : List Value} {Q : Option Value × jW → Prop} {ls : jL} {w : jW} : Wp d 137 107 ls (st) w Q = Wp d 137 108 ls (.int (nI 2) :: st) w Q := Wp.alu e137_107 rfl rfl
theorem e137_108 : decode (j_co 137) 108 = .ok (.iload 6, 2) := by decide +kernel
set_option maxRecDepth 20000 in
theorem w137_108 {d : Nat} {st : List Value} {Q : Option Value × jW → Prop} {w : jW} {a0 a1 a2 a3 a4 a5 a7 : Option Value} {x : Int32} : Wp d 137 108 [a0, a1, a2, a3, a4, a5, some (.int x), a7] (st) w Q = Wp d 137 110 [a0, a1, a2, a3, a4, a5, some (.int x), a7] (.int x :: st) w Q := Wp.loc e137_108 rfl rfl rfl
theorem e137_110 : decode (j_co 137) 110 = .ok (.imul, 1) := by decide +kernel
set_option maxRecDepth 20000 in
theorem w137_110 {d : Nat} {st : List Value} {Q : Option Value × jW → Prop} {ls : jL} {w : jW} {a b : Int32} : Wp d 137 110 ls (.int b :: .int a :: st) w Q = Wp d 137 111 ls (.int (a * b) :: st) w Q := Wp.alu e137_110 rfl rfl
theorem e137_111 : decode (j_co 137) 111 = .ok (.iadd, 1) := by decide +kernel
set_option maxRecDepth 20000 in
theorem w137_111 {d : Nat} {st : List Value} {Q : Option Value × jW → Prop} {ls : jL} {w : jW} {a b : Int32} : Wp d 137 111 ls (.int b :: .int a :: st) w Q = Wp d 137 112 ls (.int (a + b) :: st) w Q := Wp.alu e137_111 rfl rfl
theorem e137_112 : decode (j_co 137) 112 = .ok (.istore 7, 2) := by decide +kernel
set_option maxRecDepth 20000 in
theorem w137_112 {d : Nat} {st : List Value} {Q : Option Value × jW → Prop} {w : jW} {a0 a1 a2 a3 a4 a5 a6 a7 : Option Value} {x : Int32} (h : j_cp a6) : Wp d 137 112 [a0, a1, a2, a3, a4, a5, a6, a7] (.int x :: st) w Q = Wp d 137 114 [a0, a1, a2, a3, a4, a5, a6, some (.int x)] (st) w Q := Wp.loc e137_112 rfl rfl (v_stI (ls := [a0, a1, a2, a3, a4, a5, a6, a7]) (k := 7) (show 7 < 8 by decide) h)
theorem e137_114 : decode (j_co 137) 114 = .ok (.aload_n 0, 1) := by decide +kernel
set_option maxRecDepth 20000 in
theorem w137_114 {d : Nat} {st : List Value} {Q : Option Value × jW → Prop} {w : jW} {a1 a2 a3 a4 a5 a6 a7 : Option Value} {x : Nat} : Wp d 137 114 [some (.ref x), a1, a2, a3, a4, a5, a6, a7] (st) w Q = Wp d 137 115 [some (.ref x), a1, a2, a3, a4, a5, a6, a7] (.ref x :: st) w Q := Wp.loc e137_114 rfl rfl rfl
theorem e137_115 : decode (j_co 137) 115 = .ok (.getfield 54, 3) := by decide +kernel
set_option maxRecDepth 20000 in
theorem w137_115 {d : Nat} {st : List Value} {Q : Option Value × jW → Prop} {ls : jL} {xs : List Value} {I : fI} {L : fL} {o : Nat} (ht : f_tg o = 11) : Wp d 137 115 ls (.ref o :: st) (f_W xs I L) Q = Wp d 137 118 ls (.ref (f_rf o 18) :: st) (f_W xs I L) Q := Wp.getR (ci := 11) (k := 18) e137_115 rfl (by decide) (by decide) rfl ht
theorem e137_118 : decode (j_co 137) 118 = .ok (.iload 7, 2) := by decide +kernel
set_option maxRecDepth 20000 in
theorem w137_118 {d : Nat} {st : List Value} {Q : Option Value × jW → Prop} {w : jW} {a0 a1 a2 a3 a4 a5 a6 : Option Value} {x : Int32} : Wp d 137 118 [a0, a1, a2, a3, a4, a5, a6, some (.int x)] (st) w Q = Wp d 137 120 [a0, a1, a2, a3, a4, a5, a6, some (.int x)] (.int x :: st) w Q := Wp.loc e137_118 rfl rfl rfl
theorem e137_120 : decode (j_co 137) 120 = .ok (.aload_n 0, 1) := by decide +kernel
set_option maxRecDepth 20000 in
theorem w137_120 {d : Nat} {st : List Value} {Q : Option Value × jW → Prop} {w : jW} {a1 a2 a3 a4 a5 a6 a7 : Option Value} {x : Nat} : Wp d 137 120 [some (.ref x), a1, a2, a3, a4, a5, a6, a7] (st) w Q = Wp d 137 121 [some (.ref x), a1, a2, a3, a4, a5, a6, a7] (.ref x :: st) w Q := Wp.loc e137_120 rfl rfl rfl
theorem e137_121 : decode (j_co 137) 121 = .ok (.getfield 48, 3) := by decide +kernel
set_option maxRecDepth 20000 in
theorem w137_121 {d : Nat} {st : List Value} {Q : Option Value × jW → Prop} {ls : jL} {xs : List Value} {I : fI} {L : fL} {o : Nat} (ht : f_tg o = 11) : Wp d 137 121 ls (.ref o :: st) (f_W xs I L) Q = Wp d 137 124 ls (.ref (f_rf o 15) :: st) (f_W xs I L) Q := Wp.getR (ci := 11) (k := 15) e137_121 rfl (by decide) (by decide) rfl ht
theorem e137_124 : decode (j_co 137) 124 = .ok (.iconst 2, 1) := by decide +kernel
set_option maxRecDepth 20000 in
theorem w137_124 {d : Nat} {st : List Value} {Q : Option Value × jW → Prop} {ls : jL} {w : jW} : Wp d 137 124 ls (st) w Q = Wp d 137 125 ls (.int (nI 2) :: st) w Q := Wp.alu e137_124 rfl rfl
theorem e137_125 : decode (j_co 137) 125 = .ok (.iload 6, 2) := by decide +kernel
set_option maxRecDepth 20000 in
theorem w137_125 {d : Nat} {st : List Value} {Q : Option Value × jW → Prop} {w : jW} {a0 a1 a2 a3 a4 a5 a7 : Option Value} {x : Int32} : Wp d 137 125 [a0, a1, a2, a3, a4, a5, some (.int x), a7] (st) w Q = Wp d 137 127 [a0, a1, a2, a3, a4, a5, some (.int x), a7] (.int x :: st) w Q := Wp.loc e137_125 rfl rfl rfl
theorem e137_127 : decode (j_co 137) 127 = .ok (.imul, 1) := by decide +kernel
set_option maxRecDepth 20000 in
theorem w137_127 {d : Nat} {st : List Value} {Q : Option Value × jW → Prop} {ls : jL} {w : jW} {a b : Int32} : Wp d 137 127 ls (.int b :: .int a :: st) w Q = Wp d 137 128 ls (.int (a * b) :: st) w Q := Wp.alu e137_127 rfl rfl
theorem e137_128 : decode (j_co 137) 128 = .ok (.iaload, 1) := by decide +kernel
set_option maxRecDepth 20000 in
theorem w137_128 {d : Nat} {st : List Value} {Q : Option Value × jW → Prop} {ls : jL} {xs : List Value} {I : fI} {L : fL} {o : Nat} {i : Int32} (ht : f_tg o = 100) (hi : ¬ (i < 0 ∨ f_ln o ≤ i.toNatClampNeg)) : Wp d 137 128 ls (.int i :: .ref o :: st) (f_W xs I L) Q = Wp d 137 129 ls (.int (I o i.toNatClampNeg) :: st) (f_W xs I L) Q := Wp.iald e137_128 ht hi
theorem e137_129 : decode (j_co 137) 129 = .ok (.aload_n 0, 1) := by decide +kernel
set_option maxRecDepth 20000 in
theorem w137_129 {d : Nat} {st : List Value} {Q : Option Value × jW → Prop} {w : jW} {a1 a2 a3 a4 a5 a6 a7 : Option Value} {x : Nat} : Wp d 137 129 [some (.ref x), a1, a2, a3, a4, a5, a6, a7] (st) w Q = Wp d 137 130 [some (.ref x), a1, a2, a3, a4, a5, a6, a7] (.ref x :: st) w Q := Wp.loc e137_129 rfl rfl rfl
theorem e137_130 : decode (j_co 137) 130 = .ok (.getfield 54, 3) := by decide +kernel
set_option maxRecDepth 20000 in
theorem w137_130 {d : Nat} {st : List Value} {Q : Option Value × jW → Prop} {ls : jL} {xs : List Value} {I : fI} {L : fL} {o : Nat} (ht : f_tg o = 11) : Wp d 137 130 ls (.ref o :: st) (f_W xs I L) Q = Wp d 137 133 ls (.ref (f_rf o 18) :: st) (f_W xs I L) Q := Wp.getR (ci := 11) (k := 18) e137_130 rfl (by decide) (by decide) rfl ht
theorem e137_133 : decode (j_co 137) 133 = .ok (.iload 7, 2) := by decide +kernel
set_option maxRecDepth 20000 in
theorem w137_133 {d : Nat} {st : List Value} {Q : Option Value × jW → Prop} {w : jW} {a0 a1 a2 a3 a4 a5 a6 : Option Value} {x : Int32} : Wp d 137 133 [a0, a1, a2, a3, a4, a5, a6, some (.int x)] (st) w Q = Wp d 137 135 [a0, a1, a2, a3, a4, a5, a6, some (.int x)] (.int x :: st) w Q := Wp.loc e137_133 rfl rfl rfl
theorem e137_135 : decode (j_co 137) 135 = .ok (.iaload, 1) := by decide +kernel
set_option maxRecDepth 20000 in
theorem w137_135 {d : Nat} {st : List Value} {Q : Option Value × jW → Prop} {ls : jL} {xs : List Value} {I : fI} {L : fL} {o : Nat} {i : Int32} (ht : f_tg o = 100) (hi : ¬ (i < 0 ∨ f_ln o ≤ i.toNatClampNeg)) : Wp d 137 135 ls (.int i :: .ref o :: st) (f_W xs I L) Q = Wp d 137 136 ls (.int (I o i.toNatClampNeg) :: st) (f_W xs I L) Q := Wp.iald e137_135 ht hi
theorem e137_136 : decode (j_co 137) 136 = .ok (.if_icmp .ge 15, 3) := by decide +kernel
set_option maxRecDepth 20000 in
theorem w137_136 {d : Nat} {st : List Value} {Q : Option Value × jW → Prop} {ls : jL} {w : jW} {a b : Int32} : Wp d 137 136 ls (.int b :: .int a :: st) w Q = ((b ≤ a → Wp d 137 151 ls st w Q) ∧ (¬ b ≤ a → Wp d 137 139 ls st w Q)) := Wp.if2 (c := b ≤ a) (off := 15) e137_136 rfl rfl rfl rfl rfl
theorem e137_139 : decode (j_co 137) 139 = .ok (.aload_n 0, 1) := by decide +kernel
set_option maxRecDepth 20000 in
theorem w137_139 {d : Nat} {st : List Value} {Q : Option Value × jW → Prop} {w : jW} {a1 a2 a3 a4 a5 a6 a7 : Option Value} {x : Nat} : Wp d 137 139 [some (.ref x), a1, a2, a3, a4, a5, a6, a7] (st) w Q = Wp d 137 140 [some (.ref x), a1, a2, a3, a4, a5, a6, a7] (.ref x :: st) w Q := Wp.loc e137_139 rfl rfl rfl
theorem e137_140 : decode (j_co 137) 140 = .ok (.getfield 48, 3) := by decide +kernel
set_option maxRecDepth 20000 in
theorem w137_140 {d : Nat} {st : List Value} {Q : Option Value × jW → Prop} {ls : jL} {xs : List Value} {I : fI} {L : fL} {o : Nat} (ht : f_tg o = 11) : Wp d 137 140 ls (.ref o :: st) (f_W xs I L) Q = Wp d 137 143 ls (.ref (f_rf o 15) :: st) (f_W xs I L) Q := Wp.getR (ci := 11) (k := 15) e137_140 rfl (by decide) (by decide) rfl ht
theorem e137_143 : decode (j_co 137) 143 = .ok (.iconst 2, 1) := by decide +kernel
set_option maxRecDepth 20000 in
theorem w137_143 {d : Nat} {st : List Value} {Q : Option Value × jW → Prop} {ls : jL} {w : jW} : Wp d 137 143 ls (st) w Q = Wp d 137 144 ls (.int (nI 2) :: st) w Q := Wp.alu e137_143 rfl rfl
theorem e137_144 : decode (j_co 137) 144 = .ok (.iload 6, 2) := by decide +kernel
set_option maxRecDepth 20000 in
theorem w137_144 {d : Nat} {st : List Value} {Q : Option Value × jW → Prop} {w : jW} {a0 a1 a2 a3 a4 a5 a7 : Option Value} {x : Int32} : Wp d 137 144 [a0, a1, a2, a3, a4, a5, some (.int x), a7] (st) w Q = Wp d 137 146 [a0, a1, a2, a3, a4, a5, some (.int x), a7] (.int x :: st) w Q := Wp.loc e137_144 rfl rfl rfl
theorem e137_146 : decode (j_co 137) 146 = .ok (.imul, 1) := by decide +kernel
set_option maxRecDepth 20000 in
theorem w137_146 {d : Nat} {st : List Value} {Q : Option Value × jW → Prop} {ls : jL} {w : jW} {a b : Int32} : Wp d 137 146 ls (.int b :: .int a :: st) w Q = Wp d 137 147 ls (.int (a * b) :: st) w Q := Wp.alu e137_146 rfl rfl
theorem e137_147 : decode (j_co 137) 147 = .ok (.iaload, 1) := by decide +kernel
set_option maxRecDepth 20000 in
theorem w137_147 {d : Nat} {st : List Value} {Q : Option Value × jW → Prop} {ls : jL} {xs : List Value} {I : fI} {L : fL} {o : Nat} {i : Int32} (ht : f_tg o = 100) (hi : ¬ (i < 0 ∨ f_ln o ≤ i.toNatClampNeg)) : Wp d 137 147 ls (.int i :: .ref o :: st) (f_W xs I L) Q = Wp d 137 148 ls (.int (I o i.toNatClampNeg) :: st) (f_W xs I L) Q := Wp.iald e137_147 ht hi
theorem e137_148 : decode (j_co 137) 148 = .ok (.goto 10, 3) := by decide +kernel
set_option maxRecDepth 20000 in
theorem w137_148 {d : Nat} {st : List Value} {Q : Option Value × jW → Prop} {ls : jL} {w : jW} : Wp d 137 148 ls (st) w Q = Wp d 137 158 ls (st) w Q := Wp.br e137_148 (Or.inl rfl) rfl rfl rfl rfl
theorem e137_151 : decode (j_co 137) 151 = .ok (.aload_n 0, 1) := by decide +kernel
set_option maxRecDepth 20000 in
theorem w137_151 {d : Nat} {st : List Value} {Q : Option Value × jW → Prop} {w : jW} {a1 a2 a3 a4 a5 a6 a7 : Option Value} {x : Nat} : Wp d 137 151 [some (.ref x), a1, a2, a3, a4, a5, a6, a7] (st) w Q = Wp d 137 152 [some (.ref x), a1, a2, a3, a4, a5, a6, a7] (.ref x :: st) w Q := Wp.loc e137_151 rfl rfl rfl
theorem e137_152 : decode (j_co 137) 152 = .ok (.getfield 54, 3) := by decide +kernel
set_option maxRecDepth 20000 in
theorem w137_152 {d : Nat} {st : List Value} {Q : Option Value × jW → Prop} {ls : jL} {xs : List Value} {I : fI} {L : fL} {o : Nat} (ht : f_tg o = 11) : Wp d 137 152 ls (.ref o :: st) (f_W xs I L) Q = Wp d 137 155 ls (.ref (f_rf o 18) :: st) (f_W xs I L) Q := Wp.getR (ci := 11) (k := 18) e137_152 rfl (by decide) (by decide) rfl ht
theorem e137_155 : decode (j_co 137) 155 = .ok (.iload 7, 2) := by decide +kernel
set_option maxRecDepth 20000 in
theorem w137_155 {d : Nat} {st : List Value} {Q : Option Value × jW → Prop} {w : jW} {a0 a1 a2 a3 a4 a5 a6 : Option Value} {x : Int32} : Wp d 137 155 [a0, a1, a2, a3, a4, a5, a6, some (.int x)] (st) w Q = Wp d 137 157 [a0, a1, a2, a3, a4, a5, a6, some (.int x)] (.int x :: st) w Q := Wp.loc e137_155 rfl rfl rfl
theorem e137_157 : decode (j_co 137) 157 = .ok (.iaload, 1) := by decide +kernel
set_option maxRecDepth 20000 in
theorem w137_157 {d : Nat} {st : List Value} {Q : Option Value × jW → Prop} {ls : jL} {xs : List Value} {I : fI} {L : fL} {o : Nat} {i : Int32} (ht : f_tg o = 100) (hi : ¬ (i < 0 ∨ f_ln o ≤ i.toNatClampNeg)) : Wp d 137 157 ls (.int i :: .ref o :: st) (f_W xs I L) Q = Wp d 137 158 ls (.int (I o i.toNatClampNeg) :: st) (f_W xs I L) Q := Wp.iald e137_157 ht hi
theorem e137_158 : decode (j_co 137) 158 = .ok (.iastore, 1) := by decide +kernel
set_option maxRecDepth 20000 in
theorem w137_158 {d : Nat} {st : List Value} {Q : Option Value × jW → Prop} {ls : jL} {xs : List Value} {I : fI} {L : fL} {o : Nat} {i x : Int32} (ht : f_tg o = 100) (hi : ¬ (i < 0 ∨ f_ln o ≤ i.toNatClampNeg)) : Wp d 137 158 ls (.int x :: .int i :: .ref o :: st) (f_W xs I L) Q = Wp d 137 159 ls (st) (f_W xs (f_up I o i.toNatClampNeg x) L) Q := Wp.iast e137_158 ht hi
theorem e137_159 : decode (j_co 137) 159 = .ok (.aload_n 0, 1) := by decide +kernel
set_option maxRecDepth 20000 in
theorem w137_159 {d : Nat} {st : List Value} {Q : Option Value × jW → Prop} {w : jW} {a1 a2 a3 a4 a5 a6 a7 : Option Value} {x : Nat} : Wp d 137 159 [some (.ref x), a1, a2, a3, a4, a5, a6, a7] (st) w Q = Wp d 137 160 [some (.ref x), a1, a2, a3, a4, a5, a6, a7] (.ref x :: st) w Q := Wp.loc e137_159 rfl rfl rfl
theorem e137_160 : decode (j_co 137) 160 = .ok (.getfield 54, 3) := by decide +kernel
set_option maxRecDepth 20000 in
theorem w137_160 {d : Nat} {st : List Value} {Q : Option Value × jW → Prop} {ls : jL} {xs : List Value} {I : fI} {L : fL} {o : Nat} (ht : f_tg o = 11) : Wp d 137 160 ls (.ref o :: st) (f_W xs I L) Q = Wp d 137 163 ls (.ref (f_rf o 18) :: st) (f_W xs I L) Q := Wp.getR (ci := 11) (k := 18) e137_160 rfl (by decide) (by decide) rfl ht
theorem e137_163 : decode (j_co 137) 163 = .ok (.iload 7, 2) := by decide +kernel
set_option maxRecDepth 20000 in
theorem w137_163 {d : Nat} {st : List Value} {Q : Option Value × jW → Prop} {w : jW} {a0 a1 a2 a3 a4 a5 a6 : Option Value} {x : Int32} : Wp d 137 163 [a0, a1, a2, a3, a4, a5, a6, some (.int x)] (st) w Q = Wp d 137 165 [a0, a1, a2, a3, a4, a5, a6, some (.int x)] (.int x :: st) w Q := Wp.loc e137_163 rfl rfl rfl
theorem e137_165 : decode (j_co 137) 165 = .ok (.iconst 1, 1) := by decide +kernel
set_option maxRecDepth 20000 in
theorem w137_165 {d : Nat} {st : List Value} {Q : Option Value × jW → Prop} {ls : jL} {w : jW} : Wp d 137 165 ls (st) w Q = Wp d 137 166 ls (.int (nI 1) :: st) w Q := Wp.alu e137_165 rfl rfl
theorem e137_166 : decode (j_co 137) 166 = .ok (.iadd, 1) := by decide +kernel
set_option maxRecDepth 20000 in
theorem w137_166 {d : Nat} {st : List Value} {Q : Option Value × jW → Prop} {ls : jL} {w : jW} {a b : Int32} : Wp d 137 166 ls (.int b :: .int a :: st) w Q = Wp d 137 167 ls (.int (a + b) :: st) w Q := Wp.alu e137_166 rfl rfl
theorem e137_167 : decode (j_co 137) 167 = .ok (.aload_n 0, 1) := by decide +kernel
set_option maxRecDepth 20000 in
theorem w137_167 {d : Nat} {st : List Value} {Q : Option Value × jW → Prop} {w : jW} {a1 a2 a3 a4 a5 a6 a7 : Option Value} {x : Nat} : Wp d 137 167 [some (.ref x), a1, a2, a3, a4, a5, a6, a7] (st) w Q = Wp d 137 168 [some (.ref x), a1, a2, a3, a4, a5, a6, a7] (.ref x :: st) w Q := Wp.loc e137_167 rfl rfl rfl
theorem e137_168 : decode (j_co 137) 168 = .ok (.getfield 48, 3) := by decide +kernel
set_option maxRecDepth 20000 in
theorem w137_168 {d : Nat} {st : List Value} {Q : Option Value × jW → Prop} {ls : jL} {xs : List Value} {I : fI} {L : fL} {o : Nat} (ht : f_tg o = 11) : Wp d 137 168 ls (.ref o :: st) (f_W xs I L) Q = Wp d 137 171 ls (.ref (f_rf o 15) :: st) (f_W xs I L) Q := Wp.getR (ci := 11) (k := 15) e137_168 rfl (by decide) (by decide) rfl ht
theorem e137_171 : decode (j_co 137) 171 = .ok (.iconst 2, 1) := by decide +kernel
set_option maxRecDepth 20000 in
theorem w137_171 {d : Nat} {st : List Value} {Q : Option Value × jW → Prop} {ls : jL} {w : jW} : Wp d 137 171 ls (st) w Q = Wp d 137 172 ls (.int (nI 2) :: st) w Q := Wp.alu e137_171 rfl rfl
theorem e137_172 : decode (j_co 137) 172 = .ok (.iload 6, 2) := by decide +kernel
set_option maxRecDepth 20000 in
theorem w137_172 {d : Nat} {st : List Value} {Q : Option Value × jW → Prop} {w : jW} {a0 a1 a2 a3 a4 a5 a7 : Option Value} {x : Int32} : Wp d 137 172 [a0, a1, a2, a3, a4, a5, some (.int x), a7] (st) w Q = Wp d 137 174 [a0, a1, a2, a3, a4, a5, some (.int x), a7] (.int x :: st) w Q := Wp.loc e137_172 rfl rfl rfl
theorem e137_174 : decode (j_co 137) 174 = .ok (.imul, 1) := by decide +kernel
set_option maxRecDepth 20000 in
theorem w137_174 {d : Nat} {st : List Value} {Q : Option Value × jW → Prop} {ls : jL} {w : jW} {a b : Int32} : Wp d 137 174 ls (.int b :: .int a :: st) w Q = Wp d 137 175 ls (.int (a * b) :: st) w Q := Wp.alu e137_174 rfl rfl
theorem e137_175 : decode (j_co 137) 175 = .ok (.iconst 1, 1) := by decide +kernel
set_option maxRecDepth 20000 in
theorem w137_175 {d : Nat} {st : List Value} {Q : Option Value × jW → Prop} {ls : jL} {w : jW} : Wp d 137 175 ls (st) w Q = Wp d 137 176 ls (.int (nI 1) :: st) w Q := Wp.alu e137_175 rfl rfl
theorem e137_176 : decode (j_co 137) 176 = .ok (.iadd, 1) := by decide +kernel
set_option maxRecDepth 20000 in
theorem w137_176 {d : Nat} {st : List Value} {Q : Option Value × jW → Prop} {ls : jL} {w : jW} {a b : Int32} : Wp d 137 176 ls (.int b :: .int a :: st) w Q = Wp d 137 177 ls (.int (a + b) :: st) w Q := Wp.alu e137_176 rfl rfl
theorem e137_177 : decode (j_co 137) 177 = .ok (.iaload, 1) := by decide +kernel
set_option maxRecDepth 20000 in
theorem w137_177 {d : Nat} {st : List Value} {Q : Option Value × jW → Prop} {ls : jL} {xs : List Value} {I : fI} {L : fL} {o : Nat} {i : Int32} (ht : f_tg o = 100) (hi : ¬ (i < 0 ∨ f_ln o ≤ i.toNatClampNeg)) : Wp d 137 177 ls (.int i :: .ref o :: st) (f_W xs I L) Q = Wp d 137 178 ls (.int (I o i.toNatClampNeg) :: st) (f_W xs I L) Q := Wp.iald e137_177 ht hi
theorem e137_178 : decode (j_co 137) 178 = .ok (.aload_n 0, 1) := by decide +kernel
set_option maxRecDepth 20000 in
theorem w137_178 {d : Nat} {st : List Value} {Q : Option Value × jW → Prop} {w : jW} {a1 a2 a3 a4 a5 a6 a7 : Option Value} {x : Nat} : Wp d 137 178 [some (.ref x), a1, a2, a3, a4, a5, a6, a7] (st) w Q = Wp d 137 179 [some (.ref x), a1, a2, a3, a4, a5, a6, a7] (.ref x :: st) w Q := Wp.loc e137_178 rfl rfl rfl
theorem e137_179 : decode (j_co 137) 179 = .ok (.getfield 54, 3) := by decide +kernel
set_option maxRecDepth 20000 in
theorem w137_179 {d : Nat} {st : List Value} {Q : Option Value × jW → Prop} {ls : jL} {xs : List Value} {I : fI} {L : fL} {o : Nat} (ht : f_tg o = 11) : Wp d 137 179 ls (.ref o :: st) (f_W xs I L) Q = Wp d 137 182 ls (.ref (f_rf o 18) :: st) (f_W xs I L) Q := Wp.getR (ci := 11) (k := 18) e137_179 rfl (by decide) (by decide) rfl ht
theorem e137_182 : decode (j_co 137) 182 = .ok (.iload 7, 2) := by decide +kernel
set_option maxRecDepth 20000 in
theorem w137_182 {d : Nat} {st : List Value} {Q : Option Value × jW → Prop} {w : jW} {a0 a1 a2 a3 a4 a5 a6 : Option Value} {x : Int32} : Wp d 137 182 [a0, a1, a2, a3, a4, a5, a6, some (.int x)] (st) w Q = Wp d 137 184 [a0, a1, a2, a3, a4, a5, a6, some (.int x)] (.int x :: st) w Q := Wp.loc e137_182 rfl rfl rfl
theorem e137_184 : decode (j_co 137) 184 = .ok (.iconst 1, 1) := by decide +kernel
set_option maxRecDepth 20000 in
theorem w137_184 {d : Nat} {st : List Value} {Q : Option Value × jW → Prop} {ls : jL} {w : jW} : Wp d 137 184 ls (st) w Q = Wp d 137 185 ls (.int (nI 1) :: st) w Q := Wp.alu e137_184 rfl rfl
theorem e137_185 : decode (j_co 137) 185 = .ok (.iadd, 1) := by decide +kernel
set_option maxRecDepth 20000 in
theorem w137_185 {d : Nat} {st : List Value} {Q : Option Value × jW → Prop} {ls : jL} {w : jW} {a b : Int32} : Wp d 137 185 ls (.int b :: .int a :: st) w Q = Wp d 137 186 ls (.int (a + b) :: st) w Q := Wp.alu e137_185 rfl rfl
theorem e137_186 : decode (j_co 137) 186 = .ok (.iaload, 1) := by decide +kernel
set_option maxRecDepth 20000 in
theorem w137_186 {d : Nat} {st : List Value} {Q : Option Value × jW → Prop} {ls : jL} {xs : List Value} {I : fI} {L : fL} {o : Nat} {i : Int32} (ht : f_tg o = 100) (hi : ¬ (i < 0 ∨ f_ln o ≤ i.toNatClampNeg)) : Wp d 137 186 ls (.int i :: .ref o :: st) (f_W xs I L) Q = Wp d 137 187 ls (.int (I o i.toNatClampNeg) :: st) (f_W xs I L) Q := Wp.iald e137_186 ht hi
theorem e137_187 : decode (j_co 137) 187 = .ok (.if_icmp .le 17, 3) := by decide +kernel
set_option maxRecDepth 20000 in
theorem w137_187 {d : Nat} {st : List Value} {Q : Option Value × jW → Prop} {ls : jL} {w : jW} {a b : Int32} : Wp d 137 187 ls (.int b :: .int a :: st) w Q = ((a ≤ b → Wp d 137 204 ls st w Q) ∧ (¬ a ≤ b → Wp d 137 190 ls st w Q)) := Wp.if2 (c := a ≤ b) (off := 17) e137_187 rfl rfl rfl rfl rfl
theorem e137_190 : decode (j_co 137) 190 = .ok (.aload_n 0, 1) := by decide +kernel
set_option maxRecDepth 20000 in
theorem w137_190 {d : Nat} {st : List Value} {Q : Option Value × jW → Prop} {w : jW} {a1 a2 a3 a4 a5 a6 a7 : Option Value} {x : Nat} : Wp d 137 190 [some (.ref x), a1, a2, a3, a4, a5, a6, a7] (st) w Q = Wp d 137 191 [some (.ref x), a1, a2, a3, a4, a5, a6, a7] (.ref x :: st) w Q := Wp.loc e137_190 rfl rfl rfl
theorem e137_191 : decode (j_co 137) 191 = .ok (.getfield 48, 3) := by decide +kernel
set_option maxRecDepth 20000 in
theorem w137_191 {d : Nat} {st : List Value} {Q : Option Value × jW → Prop} {ls : jL} {xs : List Value} {I : fI} {L : fL} {o : Nat} (ht : f_tg o = 11) : Wp d 137 191 ls (.ref o :: st) (f_W xs I L) Q = Wp d 137 194 ls (.ref (f_rf o 15) :: st) (f_W xs I L) Q := Wp.getR (ci := 11) (k := 15) e137_191 rfl (by decide) (by decide) rfl ht
theorem e137_194 : decode (j_co 137) 194 = .ok (.iconst 2, 1) := by decide +kernel
set_option maxRecDepth 20000 in
theorem w137_194 {d : Nat} {st : List Value} {Q : Option Value × jW → Prop} {ls : jL} {w : jW} : Wp d 137 194 ls (st) w Q = Wp d 137 195 ls (.int (nI 2) :: st) w Q := Wp.alu e137_194 rfl rfl
theorem e137_195 : decode (j_co 137) 195 = .ok (.iload 6, 2) := by decide +kernel
set_option maxRecDepth 20000 in
theorem w137_195 {d : Nat} {st : List Value} {Q : Option Value × jW → Prop} {w : jW} {a0 a1 a2 a3 a4 a5 a7 : Option Value} {x : Int32} : Wp d 137 195 [a0, a1, a2, a3, a4, a5, some (.int x), a7] (st) w Q = Wp d 137 197 [a0, a1, a2, a3, a4, a5, some (.int x), a7] (.int x :: st) w Q := Wp.loc e137_195 rfl rfl rfl
theorem e137_197 : decode (j_co 137) 197 = .ok (.imul, 1) := by decide +kernel
set_option maxRecDepth 20000 in
theorem w137_197 {d : Nat} {st : List Value} {Q : Option Value × jW → Prop} {ls : jL} {w : jW} {a b : Int32} : Wp d 137 197 ls (.int b :: .int a :: st) w Q = Wp d 137 198 ls (.int (a * b) :: st) w Q := Wp.alu e137_197 rfl rfl
theorem e137_198 : decode (j_co 137) 198 = .ok (.iconst 1, 1) := by decide +kernel
set_option maxRecDepth 20000 in
theorem w137_198 {d : Nat} {st : List Value} {Q : Option Value × jW → Prop} {ls : jL} {w : jW} : Wp d 137 198 ls (st) w Q = Wp d 137 199 ls (.int (nI 1) :: st) w Q := Wp.alu e137_198 rfl rfl
theorem e137_199 : decode (j_co 137) 199 = .ok (.iadd, 1) := by decide +kernel
set_option maxRecDepth 20000 in
theorem w137_199 {d : Nat} {st : List Value} {Q : Option Value × jW → Prop} {ls : jL} {w : jW} {a b : Int32} : Wp d 137 199 ls (.int b :: .int a :: st) w Q = Wp d 137 200 ls (.int (a + b) :: st) w Q := Wp.alu e137_199 rfl rfl
theorem e137_200 : decode (j_co 137) 200 = .ok (.iaload, 1) := by decide +kernel
set_option maxRecDepth 20000 in
theorem w137_200 {d : Nat} {st : List Value} {Q : Option Value × jW → Prop} {ls : jL} {xs : List Value} {I : fI} {L : fL} {o : Nat} {i : Int32} (ht : f_tg o = 100) (hi : ¬ (i < 0 ∨ f_ln o ≤ i.toNatClampNeg)) : Wp d 137 200 ls (.int i :: .ref o :: st) (f_W xs I L) Q = Wp d 137 201 ls (.int (I o i.toNatClampNeg) :: st) (f_W xs I L) Q := Wp.iald e137_200 ht hi
theorem e137_201 : decode (j_co 137) 201 = .ok (.goto 12, 3) := by decide +kernel
set_option maxRecDepth 20000 in
theorem w137_201 {d : Nat} {st : List Value} {Q : Option Value × jW → Prop} {ls : jL} {w : jW} : Wp d 137 201 ls (st) w Q = Wp d 137 213 ls (st) w Q := Wp.br e137_201 (Or.inl rfl) rfl rfl rfl rfl
theorem e137_204 : decode (j_co 137) 204 = .ok (.aload_n 0, 1) := by decide +kernel
set_option maxRecDepth 20000 in
theorem w137_204 {d : Nat} {st : List Value} {Q : Option Value × jW → Prop} {w : jW} {a1 a2 a3 a4 a5 a6 a7 : Option Value} {x : Nat} : Wp d 137 204 [some (.ref x), a1, a2, a3, a4, a5, a6, a7] (st) w Q = Wp d 137 205 [some (.ref x), a1, a2, a3, a4, a5, a6, a7] (.ref x :: st) w Q := Wp.loc e137_204 rfl rfl rfl
theorem e137_205 : decode (j_co 137) 205 = .ok (.getfield 54, 3) := by decide +kernel
set_option maxRecDepth 20000 in
theorem w137_205 {d : Nat} {st : List Value} {Q : Option Value × jW → Prop} {ls : jL} {xs : List Value} {I : fI} {L : fL} {o : Nat} (ht : f_tg o = 11) : Wp d 137 205 ls (.ref o :: st) (f_W xs I L) Q = Wp d 137 208 ls (.ref (f_rf o 18) :: st) (f_W xs I L) Q := Wp.getR (ci := 11) (k := 18) e137_205 rfl (by decide) (by decide) rfl ht
theorem e137_208 : decode (j_co 137) 208 = .ok (.iload 7, 2) := by decide +kernel
set_option maxRecDepth 20000 in
theorem w137_208 {d : Nat} {st : List Value} {Q : Option Value × jW → Prop} {w : jW} {a0 a1 a2 a3 a4 a5 a6 : Option Value} {x : Int32} : Wp d 137 208 [a0, a1, a2, a3, a4, a5, a6, some (.int x)] (st) w Q = Wp d 137 210 [a0, a1, a2, a3, a4, a5, a6, some (.int x)] (.int x :: st) w Q := Wp.loc e137_208 rfl rfl rfl
theorem e137_210 : decode (j_co 137) 210 = .ok (.iconst 1, 1) := by decide +kernel
set_option maxRecDepth 20000 in
theorem w137_210 {d : Nat} {st : List Value} {Q : Option Value × jW → Prop} {ls : jL} {w : jW} : Wp d 137 210 ls (st) w Q = Wp d 137 211 ls (.int (nI 1) :: st) w Q := Wp.alu e137_210 rfl rfl
theorem e137_211 : decode (j_co 137) 211 = .ok (.iadd, 1) := by decide +kernel
set_option maxRecDepth 20000 in
theorem w137_211 {d : Nat} {st : List Value} {Q : Option Value × jW → Prop} {ls : jL} {w : jW} {a b : Int32} : Wp d 137 211 ls (.int b :: .int a :: st) w Q = Wp d 137 212 ls (.int (a + b) :: st) w Q := Wp.alu e137_211 rfl rfl
theorem e137_212 : decode (j_co 137) 212 = .ok (.iaload, 1) := by decide +kernel
set_option maxRecDepth 20000 in
theorem w137_212 {d : Nat} {st : List Value} {Q : Option Value × jW → Prop} {ls : jL} {xs : List Value} {I : fI} {L : fL} {o : Nat} {i : Int32} (ht : f_tg o = 100) (hi : ¬ (i < 0 ∨ f_ln o ≤ i.toNatClampNeg)) : Wp d 137 212 ls (.int i :: .ref o :: st) (f_W xs I L) Q = Wp d 137 213 ls (.int (I o i.toNatClampNeg) :: st) (f_W xs I L) Q := Wp.iald e137_212 ht hi
theorem e137_213 : decode (j_co 137) 213 = .ok (.iastore, 1) := by decide +kernel
set_option maxRecDepth 20000 in
theorem w137_213 {d : Nat} {st : List Value} {Q : Option Value × jW → Prop} {ls : jL} {xs : List Value} {I : fI} {L : fL} {o : Nat} {i x : Int32} (ht : f_tg o = 100) (hi : ¬ (i < 0 ∨ f_ln o ≤ i.toNatClampNeg)) : Wp d 137 213 ls (.int x :: .int i :: .ref o :: st) (f_W xs I L) Q = Wp d 137 214 ls (st) (f_W xs (f_up I o i.toNatClampNeg x) L) Q := Wp.iast e137_213 ht hi
theorem e137_214 : decode (j_co 137) 214 = .ok (.iinc 6 1, 3) := by decide +kernel
set_option maxRecDepth 20000 in
theorem w137_214 {d : Nat} {st : List Value} {Q : Option Value × jW → Prop} {w : jW} {a0 a1 a2 a3 a4 a5 a7 : Option Value} {x : Int32} (h : j_cp a5) : Wp d 137 214 [a0, a1, a2, a3, a4, a5, some (.int x), a7] (st) w Q = Wp d 137 217 [a0, a1, a2, a3, a4, a5, some (.int (x + nI 1)), a7] (st) w Q := Wp.loc e137_214 rfl rfl (v_inc (ls := [a0, a1, a2, a3, a4, a5, some (.int x), a7]) (k := 6) (n := 1) rfl (show 6 < 8 by decide) h)
theorem e137_217 : decode (j_co 137) 217 = .ok (.goto (-121), 3) := by decide +kernel
set_option maxRecDepth 20000 in
theorem w137_217 {d : Nat} {st : List Value} {Q : Option Value × jW → Prop} {ls : jL} {w : jW} : Wp d 137 217 ls (st) w Q = Wp d 137 96 ls (st) w Q := Wp.br e137_217 (Or.inl rfl) rfl rfl rfl rfl
theorem e137_220 : decode (j_co 137) 220 = .ok (.aload_n 0, 1) := by decide +kernel
set_option maxRecDepth 20000 in
theorem w137_220 {d : Nat} {st : List Value} {Q : Option Value × jW → Prop} {w : jW} {a1 a2 a3 a4 a5 a6 a7 : Option Value} {x : Nat} : Wp d 137 220 [some (.ref x), a1, a2, a3, a4, a5, a6, a7] (st) w Q = Wp d 137 221 [some (.ref x), a1, a2, a3, a4, a5, a6, a7] (.ref x :: st) w Q := Wp.loc e137_220 rfl rfl rfl
theorem e137_221 : decode (j_co 137) 221 = .ok (.getfield 63, 3) := by decide +kernel
set_option maxRecDepth 20000 in
theorem w137_221 {d : Nat} {st : List Value} {Q : Option Value × jW → Prop} {ls : jL} {xs : List Value} {I : fI} {L : fL} {o : Nat} (ht : f_tg o = 11) : Wp d 137 221 ls (.ref o :: st) (f_W xs I L) Q = Wp d 137 224 ls (.ref (f_rf o 21) :: st) (f_W xs I L) Q := Wp.getR (ci := 11) (k := 21) e137_221 rfl (by decide) (by decide) rfl ht
theorem e137_224 : decode (j_co 137) 224 = .ok (.iload 5, 2) := by decide +kernel
set_option maxRecDepth 20000 in
theorem w137_224 {d : Nat} {st : List Value} {Q : Option Value × jW → Prop} {w : jW} {a0 a1 a2 a3 a4 a6 a7 : Option Value} {x : Int32} : Wp d 137 224 [a0, a1, a2, a3, a4, some (.int x), a6, a7] (st) w Q = Wp d 137 226 [a0, a1, a2, a3, a4, some (.int x), a6, a7] (.int x :: st) w Q := Wp.loc e137_224 rfl rfl rfl
theorem e137_226 : decode (j_co 137) 226 = .ok (.iconst 1, 1) := by decide +kernel
set_option maxRecDepth 20000 in
theorem w137_226 {d : Nat} {st : List Value} {Q : Option Value × jW → Prop} {ls : jL} {w : jW} : Wp d 137 226 ls (st) w Q = Wp d 137 227 ls (.int (nI 1) :: st) w Q := Wp.alu e137_226 rfl rfl
theorem e137_227 : decode (j_co 137) 227 = .ok (.bastore, 1) := by decide +kernel
set_option maxRecDepth 20000 in
theorem w137_227 {d : Nat} {st : List Value} {Q : Option Value × jW → Prop} {ls : jL} {xs : List Value} {I : fI} {L : fL} {o : Nat} {i x : Int32} (ht : f_tg o = 101) (hi : ¬ (i < 0 ∨ f_ln o ≤ i.toNatClampNeg)) (hx : x = 0 ∨ x = 1) : Wp d 137 227 ls (.int x :: .int i :: .ref o :: st) (f_W xs I L) Q = Wp d 137 228 ls (st) (f_W xs (f_up I o i.toNatClampNeg x) L) Q := Wp.zast e137_227 ht hi hx
theorem e137_228 : decode (j_co 137) 228 = .ok (.aload_n 0, 1) := by decide +kernel
set_option maxRecDepth 20000 in
theorem w137_228 {d : Nat} {st : List Value} {Q : Option Value × jW → Prop} {w : jW} {a1 a2 a3 a4 a5 a6 a7 : Option Value} {x : Nat} : Wp d 137 228 [some (.ref x), a1, a2, a3, a4, a5, a6, a7] (st) w Q = Wp d 137 229 [some (.ref x), a1, a2, a3, a4, a5, a6, a7] (.ref x :: st) w Q := Wp.loc e137_228 rfl rfl rfl
theorem e137_229 : decode (j_co 137) 229 = .ok (.getfield 66, 3) := by decide +kernel
set_option maxRecDepth 20000 in
theorem w137_229 {d : Nat} {st : List Value} {Q : Option Value × jW → Prop} {ls : jL} {xs : List Value} {I : fI} {L : fL} {o : Nat} (ht : f_tg o = 11) : Wp d 137 229 ls (.ref o :: st) (f_W xs I L) Q = Wp d 137 232 ls (.ref (f_rf o 22) :: st) (f_W xs I L) Q := Wp.getR (ci := 11) (k := 22) e137_229 rfl (by decide) (by decide) rfl ht
theorem e137_232 : decode (j_co 137) 232 = .ok (.iload 5, 2) := by decide +kernel
set_option maxRecDepth 20000 in
theorem w137_232 {d : Nat} {st : List Value} {Q : Option Value × jW → Prop} {w : jW} {a0 a1 a2 a3 a4 a6 a7 : Option Value} {x : Int32} : Wp d 137 232 [a0, a1, a2, a3, a4, some (.int x), a6, a7] (st) w Q = Wp d 137 234 [a0, a1, a2, a3, a4, some (.int x), a6, a7] (.int x :: st) w Q := Wp.loc e137_232 rfl rfl rfl
theorem e137_234 : decode (j_co 137) 234 = .ok (.iconst 0, 1) := by decide +kernel
set_option maxRecDepth 20000 in
theorem w137_234 {d : Nat} {st : List Value} {Q : Option Value × jW → Prop} {ls : jL} {w : jW} : Wp d 137 234 ls (st) w Q = Wp d 137 235 ls (.int (nI 0) :: st) w Q := Wp.alu e137_234 rfl rfl
theorem e137_235 : decode (j_co 137) 235 = .ok (.bastore, 1) := by decide +kernel
set_option maxRecDepth 20000 in
theorem w137_235 {d : Nat} {st : List Value} {Q : Option Value × jW → Prop} {ls : jL} {xs : List Value} {I : fI} {L : fL} {o : Nat} {i x : Int32} (ht : f_tg o = 101) (hi : ¬ (i < 0 ∨ f_ln o ≤ i.toNatClampNeg)) (hx : x = 0 ∨ x = 1) : Wp d 137 235 ls (.int x :: .int i :: .ref o :: st) (f_W xs I L) Q = Wp d 137 236 ls (st) (f_W xs (f_up I o i.toNatClampNeg x) L) Q := Wp.zast e137_235 ht hi hx
theorem e137_236 : decode (j_co 137) 236 = .ok (.aload_n 0, 1) := by decide +kernel
set_option maxRecDepth 20000 in
theorem w137_236 {d : Nat} {st : List Value} {Q : Option Value × jW → Prop} {w : jW} {a1 a2 a3 a4 a5 a6 a7 : Option Value} {x : Nat} : Wp d 137 236 [some (.ref x), a1, a2, a3, a4, a5, a6, a7] (st) w Q = Wp d 137 237 [some (.ref x), a1, a2, a3, a4, a5, a6, a7] (.ref x :: st) w Q := Wp.loc e137_236 rfl rfl rfl
theorem e137_237 : decode (j_co 137) 237 = .ok (.aload_n 0, 1) := by decide +kernel
set_option maxRecDepth 20000 in
theorem w137_237 {d : Nat} {st : List Value} {Q : Option Value × jW → Prop} {w : jW} {a1 a2 a3 a4 a5 a6 a7 : Option Value} {x : Nat} : Wp d 137 237 [some (.ref x), a1, a2, a3, a4, a5, a6, a7] (st) w Q = Wp d 137 238 [some (.ref x), a1, a2, a3, a4, a5, a6, a7] (.ref x :: st) w Q := Wp.loc e137_237 rfl rfl rfl
theorem e137_238 : decode (j_co 137) 238 = .ok (.getfield 153, 3) := by decide +kernel
set_option maxRecDepth 20000 in
theorem w137_238 {d : Nat} {st : List Value} {Q : Option Value × jW → Prop} {ls : jL} {xs : List Value} {I : fI} {L : fL} {o : Nat} (ht : f_tg o = 11) : Wp d 137 238 ls (.ref o :: st) (f_W xs I L) Q = Wp d 137 241 ls (.int (I o 25) :: st) (f_W xs I L) Q := Wp.getI (ci := 11) (k := 25) e137_238 rfl (by decide) (by decide) (by decide) ht
theorem e137_241 : decode (j_co 137) 241 = .ok (.ifCond .ne 9, 3) := by decide +kernel
set_option maxRecDepth 20000 in
theorem w137_241 {d : Nat} {st : List Value} {Q : Option Value × jW → Prop} {ls : jL} {w : jW} {a : Int32} : Wp d 137 241 ls (.int a :: st) w Q = ((a = nI 0 → Wp d 137 244 ls st w Q) ∧ (¬ a = nI 0 → Wp d 137 250 ls st w Q)) := Wp.if2n (c := a = nI 0) (off := 9) e137_241 rfl rfl rfl rfl rfl
theorem e137_244 : decode (j_co 137) 244 = .ok (.iload 5, 2) := by decide +kernel
set_option maxRecDepth 20000 in
theorem w137_244 {d : Nat} {st : List Value} {Q : Option Value × jW → Prop} {w : jW} {a0 a1 a2 a3 a4 a6 a7 : Option Value} {x : Int32} : Wp d 137 244 [a0, a1, a2, a3, a4, some (.int x), a6, a7] (st) w Q = Wp d 137 246 [a0, a1, a2, a3, a4, some (.int x), a6, a7] (.int x :: st) w Q := Wp.loc e137_244 rfl rfl rfl
theorem e137_246 : decode (j_co 137) 246 = .ok (.iload_n 2, 1) := by decide +kernel
set_option maxRecDepth 20000 in
theorem w137_246 {d : Nat} {st : List Value} {Q : Option Value × jW → Prop} {w : jW} {a0 a1 a3 a4 a5 a6 a7 : Option Value} {x : Int32} : Wp d 137 246 [a0, a1, some (.int x), a3, a4, a5, a6, a7] (st) w Q = Wp d 137 247 [a0, a1, some (.int x), a3, a4, a5, a6, a7] (.int x :: st) w Q := Wp.loc e137_246 rfl rfl rfl
theorem e137_247 : decode (j_co 137) 247 = .ok (.if_icmp .ne 7, 3) := by decide +kernel
set_option maxRecDepth 20000 in
theorem w137_247 {d : Nat} {st : List Value} {Q : Option Value × jW → Prop} {ls : jL} {w : jW} {a b : Int32} : Wp d 137 247 ls (.int b :: .int a :: st) w Q = ((a = b → Wp d 137 250 ls st w Q) ∧ (¬ a = b → Wp d 137 254 ls st w Q)) := Wp.if2n (c := a = b) (off := 7) e137_247 rfl rfl rfl rfl rfl
theorem e137_250 : decode (j_co 137) 250 = .ok (.iconst 1, 1) := by decide +kernel
set_option maxRecDepth 20000 in
theorem w137_250 {d : Nat} {st : List Value} {Q : Option Value × jW → Prop} {ls : jL} {w : jW} : Wp d 137 250 ls (st) w Q = Wp d 137 251 ls (.int (nI 1) :: st) w Q := Wp.alu e137_250 rfl rfl
theorem e137_251 : decode (j_co 137) 251 = .ok (.goto 4, 3) := by decide +kernel
set_option maxRecDepth 20000 in
theorem w137_251 {d : Nat} {st : List Value} {Q : Option Value × jW → Prop} {ls : jL} {w : jW} : Wp d 137 251 ls (st) w Q = Wp d 137 255 ls (st) w Q := Wp.br e137_251 (Or.inl rfl) rfl rfl rfl rfl
theorem e137_254 : decode (j_co 137) 254 = .ok (.iconst 0, 1) := by decide +kernel
set_option maxRecDepth 20000 in
theorem w137_254 {d : Nat} {st : List Value} {Q : Option Value × jW → Prop} {ls : jL} {w : jW} : Wp d 137 254 ls (st) w Q = Wp d 137 255 ls (.int (nI 0) :: st) w Q := Wp.alu e137_254 rfl rfl
theorem e137_255 : decode (j_co 137) 255 = .ok (.putfield 153, 3) := by decide +kernel
set_option maxRecDepth 20000 in
theorem w137_255 {d : Nat} {st : List Value} {Q : Option Value × jW → Prop} {ls : jL} {xs : List Value} {I : fI} {L : fL} {o : Nat} {x : Int32} (ht : f_tg o = 11) (hx : x = 0 ∨ x = 1) : Wp d 137 255 ls (.int x :: .ref o :: st) (f_W xs I L) Q = Wp d 137 258 ls (st) (f_W xs (f_up I o 25 x) L) Q := Wp.putI (ci := 11) (k := 25) e137_255 rfl (by decide) (by decide) (by rcases hx with rfl | rfl <;> rfl) (by decide) ht
theorem e137_258 : decode (j_co 137) 258 = .ok (.return_, 1) := by decide +kernel
set_option maxRecDepth 20000 in
theorem w137_258 {d : Nat} {Q : Option Value × jW → Prop} {ls : jL} {w : jW} : Wp d 137 258 ls [] w Q = Q (none, w) := Wp.ret e137_258 rfl
/-! M.isKnown -/
theorem e138_0 : decode (j_co 138) 0 = .ok (.iconst 0, 1) := by decide +kernel
set_option maxRecDepth 20000 in
theorem w138_0 {d : Nat} {st : List Value} {Q : Option Value × jW → Prop} {ls : jL} {w : jW} : Wp d 138 0 ls (st) w Q = Wp d 138 1 ls (.int (nI 0) :: st) w Q := Wp.alu e138_0 rfl rfl
theorem e138_1 : decode (j_co 138) 1 = .ok (.istore_n 2, 1) := by decide +kernel
set_option maxRecDepth 20000 in
theorem w138_1 {d : Nat} {st : List Value} {Q : Option Value × jW → Prop} {w : jW} {a0 a1 a2 a3 : Option Value} {x : Int32} (h : j_cp a1) : Wp d 138 1 [a0, a1, a2, a3] (.int x :: st) w Q = Wp d 138 2 [a0, a1, some (.int x), a3] (st) w Q := Wp.loc e138_1 rfl rfl (v_stI (ls := [a0, a1, a2, a3]) (k := 2) (show 2 < 4 by decide) h)
theorem e138_2 : decode (j_co 138) 2 = .ok (.iconst 0, 1) := by decide +kernel
set_option maxRecDepth 20000 in
theorem w138_2 {d : Nat} {st : List Value} {Q : Option Value × jW → Prop} {ls : jL} {w : jW} : Wp d 138 2 ls (st) w Q = Wp d 138 3 ls (.int (nI 0) :: st) w Q := Wp.alu e138_2 rfl rfl
theorem e138_3 : decode (j_co 138) 3 = .ok (.istore_n 3, 1) := by decide +kernel
set_option maxRecDepth 20000 in
theorem w138_3 {d : Nat} {st : List Value} {Q : Option Value × jW → Prop} {w : jW} {a0 a1 a2 a3 : Option Value} {x : Int32} (h : j_cp a2) : Wp d 138 3 [a0, a1, a2, a3] (.int x :: st) w Q = Wp d 138 4 [a0, a1, a2, some (.int x)] (st) w Q := Wp.loc e138_3 rfl rfl (v_stI (ls := [a0, a1, a2, a3]) (k := 3) (show 3 < 4 by decide) h)
theorem e138_4 : decode (j_co 138) 4 = .ok (.iload_n 3, 1) := by decide +kernel
set_option maxRecDepth 20000 in
theorem w138_4 {d : Nat} {st : List Value} {Q : Option Value × jW → Prop} {w : jW} {a0 a1 a2 : Option Value} {x : Int32} : Wp d 138 4 [a0, a1, a2, some (.int x)] (st) w Q = Wp d 138 5 [a0, a1, a2, some (.int x)] (.int x :: st) w Q := Wp.loc e138_4 rfl rfl rfl
theorem e138_5 : decode (j_co 138) 5 = .ok (.aload_n 0, 1) := by decide +kernel
set_option maxRecDepth 20000 in
theorem w138_5 {d : Nat} {st : List Value} {Q : Option Value × jW → Prop} {w : jW} {a1 a2 a3 : Option Value} {x : Nat} : Wp d 138 5 [some (.ref x), a1, a2, a3] (st) w Q = Wp d 138 6 [some (.ref x), a1, a2, a3] (.ref x :: st) w Q := Wp.loc e138_5 rfl rfl rfl
theorem e138_6 : decode (j_co 138) 6 = .ok (.getfield 135, 3) := by decide +kernel
set_option maxRecDepth 20000 in
theorem w138_6 {d : Nat} {st : List Value} {Q : Option Value × jW → Prop} {ls : jL} {xs : List Value} {I : fI} {L : fL} {o : Nat} (ht : f_tg o = 11) : Wp d 138 6 ls (.ref o :: st) (f_W xs I L) Q = Wp d 138 9 ls (.int (I o 16) :: st) (f_W xs I L) Q := Wp.getI (ci := 11) (k := 16) e138_6 rfl (by decide) (by decide) (by decide) ht
theorem e138_9 : decode (j_co 138) 9 = .ok (.if_icmp .ge 44, 3) := by decide +kernel
set_option maxRecDepth 20000 in
theorem w138_9 {d : Nat} {st : List Value} {Q : Option Value × jW → Prop} {ls : jL} {w : jW} {a b : Int32} : Wp d 138 9 ls (.int b :: .int a :: st) w Q = ((b ≤ a → Wp d 138 53 ls st w Q) ∧ (¬ b ≤ a → Wp d 138 12 ls st w Q)) := Wp.if2 (c := b ≤ a) (off := 44) e138_9 rfl rfl rfl rfl rfl
theorem e138_12 : decode (j_co 138) 12 = .ok (.iload_n 2, 1) := by decide +kernel
set_option maxRecDepth 20000 in
theorem w138_12 {d : Nat} {st : List Value} {Q : Option Value × jW → Prop} {w : jW} {a0 a1 a3 : Option Value} {x : Int32} : Wp d 138 12 [a0, a1, some (.int x), a3] (st) w Q = Wp d 138 13 [a0, a1, some (.int x), a3] (.int x :: st) w Q := Wp.loc e138_12 rfl rfl rfl
theorem e138_13 : decode (j_co 138) 13 = .ok (.ifCond .ne 28, 3) := by decide +kernel
set_option maxRecDepth 20000 in
theorem w138_13 {d : Nat} {st : List Value} {Q : Option Value × jW → Prop} {ls : jL} {w : jW} {a : Int32} : Wp d 138 13 ls (.int a :: st) w Q = ((a = nI 0 → Wp d 138 16 ls st w Q) ∧ (¬ a = nI 0 → Wp d 138 41 ls st w Q)) := Wp.if2n (c := a = nI 0) (off := 28) e138_13 rfl rfl rfl rfl rfl
theorem e138_16 : decode (j_co 138) 16 = .ok (.aload_n 0, 1) := by decide +kernel
set_option maxRecDepth 20000 in
theorem w138_16 {d : Nat} {st : List Value} {Q : Option Value × jW → Prop} {w : jW} {a1 a2 a3 : Option Value} {x : Nat} : Wp d 138 16 [some (.ref x), a1, a2, a3] (st) w Q = Wp d 138 17 [some (.ref x), a1, a2, a3] (.ref x :: st) w Q := Wp.loc e138_16 rfl rfl rfl
theorem e138_17 : decode (j_co 138) 17 = .ok (.getfield 51, 3) := by decide +kernel
set_option maxRecDepth 20000 in
theorem w138_17 {d : Nat} {st : List Value} {Q : Option Value × jW → Prop} {ls : jL} {xs : List Value} {I : fI} {L : fL} {o : Nat} (ht : f_tg o = 11) : Wp d 138 17 ls (.ref o :: st) (f_W xs I L) Q = Wp d 138 20 ls (.ref (f_rf o 17) :: st) (f_W xs I L) Q := Wp.getR (ci := 11) (k := 17) e138_17 rfl (by decide) (by decide) rfl ht
theorem e138_20 : decode (j_co 138) 20 = .ok (.iload_n 3, 1) := by decide +kernel
set_option maxRecDepth 20000 in
theorem w138_20 {d : Nat} {st : List Value} {Q : Option Value × jW → Prop} {w : jW} {a0 a1 a2 : Option Value} {x : Int32} : Wp d 138 20 [a0, a1, a2, some (.int x)] (st) w Q = Wp d 138 21 [a0, a1, a2, some (.int x)] (.int x :: st) w Q := Wp.loc e138_20 rfl rfl rfl
theorem e138_21 : decode (j_co 138) 21 = .ok (.iaload, 1) := by decide +kernel
set_option maxRecDepth 20000 in
theorem w138_21 {d : Nat} {st : List Value} {Q : Option Value × jW → Prop} {ls : jL} {xs : List Value} {I : fI} {L : fL} {o : Nat} {i : Int32} (ht : f_tg o = 100) (hi : ¬ (i < 0 ∨ f_ln o ≤ i.toNatClampNeg)) : Wp d 138 21 ls (.int i :: .ref o :: st) (f_W xs I L) Q = Wp d 138 22 ls (.int (I o i.toNatClampNeg) :: st) (f_W xs I L) Q := Wp.iald e138_21 ht hi
theorem e138_22 : decode (j_co 138) 22 = .ok (.iload_n 1, 1) := by decide +kernel
set_option maxRecDepth 20000 in
theorem w138_22 {d : Nat} {st : List Value} {Q : Option Value × jW → Prop} {w : jW} {a0 a2 a3 : Option Value} {x : Int32} : Wp d 138 22 [a0, some (.int x), a2, a3] (st) w Q = Wp d 138 23 [a0, some (.int x), a2, a3] (.int x :: st) w Q := Wp.loc e138_22 rfl rfl rfl
theorem e138_23 : decode (j_co 138) 23 = .ok (.if_icmp .ne 22, 3) := by decide +kernel
set_option maxRecDepth 20000 in
theorem w138_23 {d : Nat} {st : List Value} {Q : Option Value × jW → Prop} {ls : jL} {w : jW} {a b : Int32} : Wp d 138 23 ls (.int b :: .int a :: st) w Q = ((a = b → Wp d 138 26 ls st w Q) ∧ (¬ a = b → Wp d 138 45 ls st w Q)) := Wp.if2n (c := a = b) (off := 22) e138_23 rfl rfl rfl rfl rfl
theorem e138_26 : decode (j_co 138) 26 = .ok (.aload_n 0, 1) := by decide +kernel
set_option maxRecDepth 20000 in
theorem w138_26 {d : Nat} {st : List Value} {Q : Option Value × jW → Prop} {w : jW} {a1 a2 a3 : Option Value} {x : Nat} : Wp d 138 26 [some (.ref x), a1, a2, a3] (st) w Q = Wp d 138 27 [some (.ref x), a1, a2, a3] (.ref x :: st) w Q := Wp.loc e138_26 rfl rfl rfl
theorem e138_27 : decode (j_co 138) 27 = .ok (.aload_n 0, 1) := by decide +kernel
set_option maxRecDepth 20000 in
theorem w138_27 {d : Nat} {st : List Value} {Q : Option Value × jW → Prop} {w : jW} {a1 a2 a3 : Option Value} {x : Nat} : Wp d 138 27 [some (.ref x), a1, a2, a3] (st) w Q = Wp d 138 28 [some (.ref x), a1, a2, a3] (.ref x :: st) w Q := Wp.loc e138_27 rfl rfl rfl
theorem e138_28 : decode (j_co 138) 28 = .ok (.getfield 54, 3) := by decide +kernel
set_option maxRecDepth 20000 in
theorem w138_28 {d : Nat} {st : List Value} {Q : Option Value × jW → Prop} {ls : jL} {xs : List Value} {I : fI} {L : fL} {o : Nat} (ht : f_tg o = 11) : Wp d 138 28 ls (.ref o :: st) (f_W xs I L) Q = Wp d 138 31 ls (.ref (f_rf o 18) :: st) (f_W xs I L) Q := Wp.getR (ci := 11) (k := 18) e138_28 rfl (by decide) (by decide) rfl ht
theorem e138_31 : decode (j_co 138) 31 = .ok (.bipush 6, 2) := by decide +kernel
set_option maxRecDepth 20000 in
theorem w138_31 {d : Nat} {st : List Value} {Q : Option Value × jW → Prop} {ls : jL} {w : jW} : Wp d 138 31 ls (st) w Q = Wp d 138 33 ls (.int (nI 6) :: st) w Q := Wp.alu e138_31 rfl rfl
theorem e138_33 : decode (j_co 138) 33 = .ok (.iload_n 3, 1) := by decide +kernel
set_option maxRecDepth 20000 in
theorem w138_33 {d : Nat} {st : List Value} {Q : Option Value × jW → Prop} {w : jW} {a0 a1 a2 : Option Value} {x : Int32} : Wp d 138 33 [a0, a1, a2, some (.int x)] (st) w Q = Wp d 138 34 [a0, a1, a2, some (.int x)] (.int x :: st) w Q := Wp.loc e138_33 rfl rfl rfl
theorem e138_34 : decode (j_co 138) 34 = .ok (.imul, 1) := by decide +kernel
set_option maxRecDepth 20000 in
theorem w138_34 {d : Nat} {st : List Value} {Q : Option Value × jW → Prop} {ls : jL} {w : jW} {a b : Int32} : Wp d 138 34 ls (.int b :: .int a :: st) w Q = Wp d 138 35 ls (.int (a * b) :: st) w Q := Wp.alu e138_34 rfl rfl
theorem e138_35 : decode (j_co 138) 35 = .ok (.invokevirtual 138, 3) := by decide +kernel
set_option maxRecDepth 20000 in
theorem w138_35 {d : Nat} {st : List Value} {Q : Option Value × jW → Prop} {ls : jL} {xs : List Value} {I : fI} {L : fL} {r : Nat} {x0 : Nat} {x1 : Int32} (hs : j_sumc st ≤ 8) (ht : f_tg r = 11) : Wp (d + 1) 138 35 ls (.int x1 :: .ref x0 :: .ref r :: st) (f_W xs I L) Q = Wp d 139 0 [some (.ref r), some (.ref x0), some (.int x1), none, none] [] (f_W xs I L) (fun r1 => Wp (d + 1) 138 38 ls (r1.1.toList ++ st) r1.2 Q) := Wp.cv (y' := 139) (as := [.ref x0, .int x1]) e138_35 rfl (by decide) rfl (show 3 ≤ 5 by decide) (by decide) hs ht
theorem e138_38 : decode (j_co 138) 38 = .ok (.ifCond .eq 7, 3) := by decide +kernel
set_option maxRecDepth 20000 in
theorem w138_38 {d : Nat} {st : List Value} {Q : Option Value × jW → Prop} {ls : jL} {w : jW} {a : Int32} : Wp d 138 38 ls (.int a :: st) w Q = ((a = nI 0 → Wp d 138 45 ls st w Q) ∧ (¬ a = nI 0 → Wp d 138 41 ls st w Q)) := Wp.if2 (c := a = nI 0) (off := 7) e138_38 rfl rfl rfl rfl rfl
theorem e138_41 : decode (j_co 138) 41 = .ok (.iconst 1, 1) := by decide +kernel
set_option maxRecDepth 20000 in
theorem w138_41 {d : Nat} {st : List Value} {Q : Option Value × jW → Prop} {ls : jL} {w : jW} : Wp d 138 41 ls (st) w Q = Wp d 138 42 ls (.int (nI 1) :: st) w Q := Wp.alu e138_41 rfl rfl
theorem e138_42 : decode (j_co 138) 42 = .ok (.goto 4, 3) := by decide +kernel
set_option maxRecDepth 20000 in
theorem w138_42 {d : Nat} {st : List Value} {Q : Option Value × jW → Prop} {ls : jL} {w : jW} : Wp d 138 42 ls (st) w Q = Wp d 138 46 ls (st) w Q := Wp.br e138_42 (Or.inl rfl) rfl rfl rfl rfl
theorem e138_45 : decode (j_co 138) 45 = .ok (.iconst 0, 1) := by decide +kernel
set_option maxRecDepth 20000 in
theorem w138_45 {d : Nat} {st : List Value} {Q : Option Value × jW → Prop} {ls : jL} {w : jW} : Wp d 138 45 ls (st) w Q = Wp d 138 46 ls (.int (nI 0) :: st) w Q := Wp.alu e138_45 rfl rfl
theorem e138_46 : decode (j_co 138) 46 = .ok (.istore_n 2, 1) := by decide +kernel
set_option maxRecDepth 20000 in
theorem w138_46 {d : Nat} {st : List Value} {Q : Option Value × jW → Prop} {w : jW} {a0 a1 a2 a3 : Option Value} {x : Int32} (h : j_cp a1) : Wp d 138 46 [a0, a1, a2, a3] (.int x :: st) w Q = Wp d 138 47 [a0, a1, some (.int x), a3] (st) w Q := Wp.loc e138_46 rfl rfl (v_stI (ls := [a0, a1, a2, a3]) (k := 2) (show 2 < 4 by decide) h)
theorem e138_47 : decode (j_co 138) 47 = .ok (.iinc 3 1, 3) := by decide +kernel
set_option maxRecDepth 20000 in
theorem w138_47 {d : Nat} {st : List Value} {Q : Option Value × jW → Prop} {w : jW} {a0 a1 a2 : Option Value} {x : Int32} (h : j_cp a2) : Wp d 138 47 [a0, a1, a2, some (.int x)] (st) w Q = Wp d 138 50 [a0, a1, a2, some (.int (x + nI 1))] (st) w Q := Wp.loc e138_47 rfl rfl (v_inc (ls := [a0, a1, a2, some (.int x)]) (k := 3) (n := 1) rfl (show 3 < 4 by decide) h)
theorem e138_50 : decode (j_co 138) 50 = .ok (.goto (-46), 3) := by decide +kernel
set_option maxRecDepth 20000 in
theorem w138_50 {d : Nat} {st : List Value} {Q : Option Value × jW → Prop} {ls : jL} {w : jW} : Wp d 138 50 ls (st) w Q = Wp d 138 4 ls (st) w Q := Wp.br e138_50 (Or.inl rfl) rfl rfl rfl rfl
theorem e138_53 : decode (j_co 138) 53 = .ok (.iload_n 2, 1) := by decide +kernel
set_option maxRecDepth 20000 in
theorem w138_53 {d : Nat} {st : List Value} {Q : Option Value × jW → Prop} {w : jW} {a0 a1 a3 : Option Value} {x : Int32} : Wp d 138 53 [a0, a1, some (.int x), a3] (st) w Q = Wp d 138 54 [a0, a1, some (.int x), a3] (.int x :: st) w Q := Wp.loc e138_53 rfl rfl rfl
theorem e138_54 : decode (j_co 138) 54 = .ok (.ireturn, 1) := by decide +kernel
set_option maxRecDepth 20000 in
theorem w138_54 {d : Nat} {Q : Option Value × jW → Prop} {ls : jL} {w : jW} {x : Int32} (hx : x = 0 ∨ x = 1) : Wp d 138 54 ls [.int x] w Q = Q (some (.int x), w) := Wp.ret e138_54 (by rcases hx with rfl | rfl <;> rfl)
/-! M.isIn -/
theorem e139_0 : decode (j_co 139) 0 = .ok (.iconst 1, 1) := by decide +kernel
set_option maxRecDepth 20000 in
theorem w139_0 {d : Nat} {st : List Value} {Q : Option Value × jW → Prop} {ls : jL} {w : jW} : Wp d 139 0 ls (st) w Q = Wp d 139 1 ls (.int (nI 1) :: st) w Q := Wp.alu e139_0 rfl rfl
theorem e139_1 : decode (j_co 139) 1 = .ok (.istore_n 3, 1) := by decide +kernel
set_option maxRecDepth 20000 in
theorem w139_1 {d : Nat} {st : List Value} {Q : Option Value × jW → Prop} {w : jW} {a0 a1 a2 a3 a4 : Option Value} {x : Int32} (h : j_cp a2) : Wp d 139 1 [a0, a1, a2, a3, a4] (.int x :: st) w Q = Wp d 139 2 [a0, a1, a2, some (.int x), a4] (st) w Q := Wp.loc e139_1 rfl rfl (v_stI (ls := [a0, a1, a2, a3, a4]) (k := 3) (show 3 < 5 by decide) h)
theorem e139_2 : decode (j_co 139) 2 = .ok (.iconst 0, 1) := by decide +kernel
set_option maxRecDepth 20000 in
theorem w139_2 {d : Nat} {st : List Value} {Q : Option Value × jW → Prop} {ls : jL} {w : jW} : Wp d 139 2 ls (st) w Q = Wp d 139 3 ls (.int (nI 0) :: st) w Q := Wp.alu e139_2 rfl rfl
theorem e139_3 : decode (j_co 139) 3 = .ok (.istore 4, 2) := by decide +kernel
set_option maxRecDepth 20000 in
theorem w139_3 {d : Nat} {st : List Value} {Q : Option Value × jW → Prop} {w : jW} {a0 a1 a2 a3 a4 : Option Value} {x : Int32} (h : j_cp a3) : Wp d 139 3 [a0, a1, a2, a3, a4] (.int x :: st) w Q = Wp d 139 5 [a0, a1, a2, a3, some (.int x)] (st) w Q := Wp.loc e139_3 rfl rfl (v_stI (ls := [a0, a1, a2, a3, a4]) (k := 4) (show 4 < 5 by decide) h)
theorem e139_5 : decode (j_co 139) 5 = .ok (.iload 4, 2) := by decide +kernel
set_option maxRecDepth 20000 in
theorem w139_5 {d : Nat} {st : List Value} {Q : Option Value × jW → Prop} {w : jW} {a0 a1 a2 a3 : Option Value} {x : Int32} : Wp d 139 5 [a0, a1, a2, a3, some (.int x)] (st) w Q = Wp d 139 7 [a0, a1, a2, a3, some (.int x)] (.int x :: st) w Q := Wp.loc e139_5 rfl rfl rfl
theorem e139_7 : decode (j_co 139) 7 = .ok (.iconst 3, 1) := by decide +kernel
set_option maxRecDepth 20000 in
theorem w139_7 {d : Nat} {st : List Value} {Q : Option Value × jW → Prop} {ls : jL} {w : jW} : Wp d 139 7 ls (st) w Q = Wp d 139 8 ls (.int (nI 3) :: st) w Q := Wp.alu e139_7 rfl rfl
theorem e139_8 : decode (j_co 139) 8 = .ok (.if_icmp .ge 63, 3) := by decide +kernel
set_option maxRecDepth 20000 in
theorem w139_8 {d : Nat} {st : List Value} {Q : Option Value × jW → Prop} {ls : jL} {w : jW} {a b : Int32} : Wp d 139 8 ls (.int b :: .int a :: st) w Q = ((b ≤ a → Wp d 139 71 ls st w Q) ∧ (¬ b ≤ a → Wp d 139 11 ls st w Q)) := Wp.if2 (c := b ≤ a) (off := 63) e139_8 rfl rfl rfl rfl rfl
theorem e139_11 : decode (j_co 139) 11 = .ok (.iload_n 3, 1) := by decide +kernel
set_option maxRecDepth 20000 in
theorem w139_11 {d : Nat} {st : List Value} {Q : Option Value × jW → Prop} {w : jW} {a0 a1 a2 a4 : Option Value} {x : Int32} : Wp d 139 11 [a0, a1, a2, some (.int x), a4] (st) w Q = Wp d 139 12 [a0, a1, a2, some (.int x), a4] (.int x :: st) w Q := Wp.loc e139_11 rfl rfl rfl
theorem e139_12 : decode (j_co 139) 12 = .ok (.ifCond .eq 51, 3) := by decide +kernel
set_option maxRecDepth 20000 in
theorem w139_12 {d : Nat} {st : List Value} {Q : Option Value × jW → Prop} {ls : jL} {w : jW} {a : Int32} : Wp d 139 12 ls (.int a :: st) w Q = ((a = nI 0 → Wp d 139 63 ls st w Q) ∧ (¬ a = nI 0 → Wp d 139 15 ls st w Q)) := Wp.if2 (c := a = nI 0) (off := 51) e139_12 rfl rfl rfl rfl rfl
theorem e139_15 : decode (j_co 139) 15 = .ok (.aload_n 0, 1) := by decide +kernel
set_option maxRecDepth 20000 in
theorem w139_15 {d : Nat} {st : List Value} {Q : Option Value × jW → Prop} {w : jW} {a1 a2 a3 a4 : Option Value} {x : Nat} : Wp d 139 15 [some (.ref x), a1, a2, a3, a4] (st) w Q = Wp d 139 16 [some (.ref x), a1, a2, a3, a4] (.ref x :: st) w Q := Wp.loc e139_15 rfl rfl rfl
theorem e139_16 : decode (j_co 139) 16 = .ok (.getfield 48, 3) := by decide +kernel
set_option maxRecDepth 20000 in
theorem w139_16 {d : Nat} {st : List Value} {Q : Option Value × jW → Prop} {ls : jL} {xs : List Value} {I : fI} {L : fL} {o : Nat} (ht : f_tg o = 11) : Wp d 139 16 ls (.ref o :: st) (f_W xs I L) Q = Wp d 139 19 ls (.ref (f_rf o 15) :: st) (f_W xs I L) Q := Wp.getR (ci := 11) (k := 15) e139_16 rfl (by decide) (by decide) rfl ht
theorem e139_19 : decode (j_co 139) 19 = .ok (.iconst 2, 1) := by decide +kernel
set_option maxRecDepth 20000 in
theorem w139_19 {d : Nat} {st : List Value} {Q : Option Value × jW → Prop} {ls : jL} {w : jW} : Wp d 139 19 ls (st) w Q = Wp d 139 20 ls (.int (nI 2) :: st) w Q := Wp.alu e139_19 rfl rfl
theorem e139_20 : decode (j_co 139) 20 = .ok (.iload 4, 2) := by decide +kernel
set_option maxRecDepth 20000 in
theorem w139_20 {d : Nat} {st : List Value} {Q : Option Value × jW → Prop} {w : jW} {a0 a1 a2 a3 : Option Value} {x : Int32} : Wp d 139 20 [a0, a1, a2, a3, some (.int x)] (st) w Q = Wp d 139 22 [a0, a1, a2, a3, some (.int x)] (.int x :: st) w Q := Wp.loc e139_20 rfl rfl rfl
theorem e139_22 : decode (j_co 139) 22 = .ok (.imul, 1) := by decide +kernel
set_option maxRecDepth 20000 in
theorem w139_22 {d : Nat} {st : List Value} {Q : Option Value × jW → Prop} {ls : jL} {w : jW} {a b : Int32} : Wp d 139 22 ls (.int b :: .int a :: st) w Q = Wp d 139 23 ls (.int (a * b) :: st) w Q := Wp.alu e139_22 rfl rfl
theorem e139_23 : decode (j_co 139) 23 = .ok (.iaload, 1) := by decide +kernel
set_option maxRecDepth 20000 in
theorem w139_23 {d : Nat} {st : List Value} {Q : Option Value × jW → Prop} {ls : jL} {xs : List Value} {I : fI} {L : fL} {o : Nat} {i : Int32} (ht : f_tg o = 100) (hi : ¬ (i < 0 ∨ f_ln o ≤ i.toNatClampNeg)) : Wp d 139 23 ls (.int i :: .ref o :: st) (f_W xs I L) Q = Wp d 139 24 ls (.int (I o i.toNatClampNeg) :: st) (f_W xs I L) Q := Wp.iald e139_23 ht hi
theorem e139_24 : decode (j_co 139) 24 = .ok (.aload_n 1, 1) := by decide +kernel
set_option maxRecDepth 20000 in
theorem w139_24 {d : Nat} {st : List Value} {Q : Option Value × jW → Prop} {w : jW} {a0 a2 a3 a4 : Option Value} {x : Nat} : Wp d 139 24 [a0, some (.ref x), a2, a3, a4] (st) w Q = Wp d 139 25 [a0, some (.ref x), a2, a3, a4] (.ref x :: st) w Q := Wp.loc e139_24 rfl rfl rfl
theorem e139_25 : decode (j_co 139) 25 = .ok (.iload_n 2, 1) := by decide +kernel
set_option maxRecDepth 20000 in
theorem w139_25 {d : Nat} {st : List Value} {Q : Option Value × jW → Prop} {w : jW} {a0 a1 a3 a4 : Option Value} {x : Int32} : Wp d 139 25 [a0, a1, some (.int x), a3, a4] (st) w Q = Wp d 139 26 [a0, a1, some (.int x), a3, a4] (.int x :: st) w Q := Wp.loc e139_25 rfl rfl rfl
theorem e139_26 : decode (j_co 139) 26 = .ok (.iconst 2, 1) := by decide +kernel
set_option maxRecDepth 20000 in
theorem w139_26 {d : Nat} {st : List Value} {Q : Option Value × jW → Prop} {ls : jL} {w : jW} : Wp d 139 26 ls (st) w Q = Wp d 139 27 ls (.int (nI 2) :: st) w Q := Wp.alu e139_26 rfl rfl
theorem e139_27 : decode (j_co 139) 27 = .ok (.iload 4, 2) := by decide +kernel
set_option maxRecDepth 20000 in
theorem w139_27 {d : Nat} {st : List Value} {Q : Option Value × jW → Prop} {w : jW} {a0 a1 a2 a3 : Option Value} {x : Int32} : Wp d 139 27 [a0, a1, a2, a3, some (.int x)] (st) w Q = Wp d 139 29 [a0, a1, a2, a3, some (.int x)] (.int x :: st) w Q := Wp.loc e139_27 rfl rfl rfl
theorem e139_29 : decode (j_co 139) 29 = .ok (.imul, 1) := by decide +kernel
set_option maxRecDepth 20000 in
theorem w139_29 {d : Nat} {st : List Value} {Q : Option Value × jW → Prop} {ls : jL} {w : jW} {a b : Int32} : Wp d 139 29 ls (.int b :: .int a :: st) w Q = Wp d 139 30 ls (.int (a * b) :: st) w Q := Wp.alu e139_29 rfl rfl
theorem e139_30 : decode (j_co 139) 30 = .ok (.iadd, 1) := by decide +kernel
set_option maxRecDepth 20000 in
theorem w139_30 {d : Nat} {st : List Value} {Q : Option Value × jW → Prop} {ls : jL} {w : jW} {a b : Int32} : Wp d 139 30 ls (.int b :: .int a :: st) w Q = Wp d 139 31 ls (.int (a + b) :: st) w Q := Wp.alu e139_30 rfl rfl
theorem e139_31 : decode (j_co 139) 31 = .ok (.iaload, 1) := by decide +kernel
set_option maxRecDepth 20000 in
theorem w139_31 {d : Nat} {st : List Value} {Q : Option Value × jW → Prop} {ls : jL} {xs : List Value} {I : fI} {L : fL} {o : Nat} {i : Int32} (ht : f_tg o = 100) (hi : ¬ (i < 0 ∨ f_ln o ≤ i.toNatClampNeg)) : Wp d 139 31 ls (.int i :: .ref o :: st) (f_W xs I L) Q = Wp d 139 32 ls (.int (I o i.toNatClampNeg) :: st) (f_W xs I L) Q := Wp.iald e139_31 ht hi
theorem e139_32 : decode (j_co 139) 32 = .ok (.if_icmp .lt 31, 3) := by decide +kernel
set_option maxRecDepth 20000 in
theorem w139_32 {d : Nat} {st : List Value} {Q : Option Value × jW → Prop} {ls : jL} {w : jW} {a b : Int32} : Wp d 139 32 ls (.int b :: .int a :: st) w Q = ((a < b → Wp d 139 63 ls st w Q) ∧ (¬ a < b → Wp d 139 35 ls st w Q)) := Wp.if2 (c := a < b) (off := 31) e139_32 rfl rfl rfl rfl rfl
theorem e139_35 : decode (j_co 139) 35 = .ok (.aload_n 0, 1) := by decide +kernel
set_option maxRecDepth 20000 in
theorem w139_35 {d : Nat} {st : List Value} {Q : Option Value × jW → Prop} {w : jW} {a1 a2 a3 a4 : Option Value} {x : Nat} : Wp d 139 35 [some (.ref x), a1, a2, a3, a4] (st) w Q = Wp d 139 36 [some (.ref x), a1, a2, a3, a4] (.ref x :: st) w Q := Wp.loc e139_35 rfl rfl rfl
theorem e139_36 : decode (j_co 139) 36 = .ok (.getfield 48, 3) := by decide +kernel
set_option maxRecDepth 20000 in
theorem w139_36 {d : Nat} {st : List Value} {Q : Option Value × jW → Prop} {ls : jL} {xs : List Value} {I : fI} {L : fL} {o : Nat} (ht : f_tg o = 11) : Wp d 139 36 ls (.ref o :: st) (f_W xs I L) Q = Wp d 139 39 ls (.ref (f_rf o 15) :: st) (f_W xs I L) Q := Wp.getR (ci := 11) (k := 15) e139_36 rfl (by decide) (by decide) rfl ht
theorem e139_39 : decode (j_co 139) 39 = .ok (.iconst 2, 1) := by decide +kernel
set_option maxRecDepth 20000 in
theorem w139_39 {d : Nat} {st : List Value} {Q : Option Value × jW → Prop} {ls : jL} {w : jW} : Wp d 139 39 ls (st) w Q = Wp d 139 40 ls (.int (nI 2) :: st) w Q := Wp.alu e139_39 rfl rfl
theorem e139_40 : decode (j_co 139) 40 = .ok (.iload 4, 2) := by decide +kernel
set_option maxRecDepth 20000 in
theorem w139_40 {d : Nat} {st : List Value} {Q : Option Value × jW → Prop} {w : jW} {a0 a1 a2 a3 : Option Value} {x : Int32} : Wp d 139 40 [a0, a1, a2, a3, some (.int x)] (st) w Q = Wp d 139 42 [a0, a1, a2, a3, some (.int x)] (.int x :: st) w Q := Wp.loc e139_40 rfl rfl rfl
theorem e139_42 : decode (j_co 139) 42 = .ok (.imul, 1) := by decide +kernel
set_option maxRecDepth 20000 in
theorem w139_42 {d : Nat} {st : List Value} {Q : Option Value × jW → Prop} {ls : jL} {w : jW} {a b : Int32} : Wp d 139 42 ls (.int b :: .int a :: st) w Q = Wp d 139 43 ls (.int (a * b) :: st) w Q := Wp.alu e139_42 rfl rfl
theorem e139_43 : decode (j_co 139) 43 = .ok (.iconst 1, 1) := by decide +kernel
set_option maxRecDepth 20000 in
theorem w139_43 {d : Nat} {st : List Value} {Q : Option Value × jW → Prop} {ls : jL} {w : jW} : Wp d 139 43 ls (st) w Q = Wp d 139 44 ls (.int (nI 1) :: st) w Q := Wp.alu e139_43 rfl rfl
theorem e139_44 : decode (j_co 139) 44 = .ok (.iadd, 1) := by decide +kernel
set_option maxRecDepth 20000 in
theorem w139_44 {d : Nat} {st : List Value} {Q : Option Value × jW → Prop} {ls : jL} {w : jW} {a b : Int32} : Wp d 139 44 ls (.int b :: .int a :: st) w Q = Wp d 139 45 ls (.int (a + b) :: st) w Q := Wp.alu e139_44 rfl rfl
theorem e139_45 : decode (j_co 139) 45 = .ok (.iaload, 1) := by decide +kernel
set_option maxRecDepth 20000 in
theorem w139_45 {d : Nat} {st : List Value} {Q : Option Value × jW → Prop} {ls : jL} {xs : List Value} {I : fI} {L : fL} {o : Nat} {i : Int32} (ht : f_tg o = 100) (hi : ¬ (i < 0 ∨ f_ln o ≤ i.toNatClampNeg)) : Wp d 139 45 ls (.int i :: .ref o :: st) (f_W xs I L) Q = Wp d 139 46 ls (.int (I o i.toNatClampNeg) :: st) (f_W xs I L) Q := Wp.iald e139_45 ht hi
theorem e139_46 : decode (j_co 139) 46 = .ok (.aload_n 1, 1) := by decide +kernel
set_option maxRecDepth 20000 in
theorem w139_46 {d : Nat} {st : List Value} {Q : Option Value × jW → Prop} {w : jW} {a0 a2 a3 a4 : Option Value} {x : Nat} : Wp d 139 46 [a0, some (.ref x), a2, a3, a4] (st) w Q = Wp d 139 47 [a0, some (.ref x), a2, a3, a4] (.ref x :: st) w Q := Wp.loc e139_46 rfl rfl rfl
theorem e139_47 : decode (j_co 139) 47 = .ok (.iload_n 2, 1) := by decide +kernel
set_option maxRecDepth 20000 in
theorem w139_47 {d : Nat} {st : List Value} {Q : Option Value × jW → Prop} {w : jW} {a0 a1 a3 a4 : Option Value} {x : Int32} : Wp d 139 47 [a0, a1, some (.int x), a3, a4] (st) w Q = Wp d 139 48 [a0, a1, some (.int x), a3, a4] (.int x :: st) w Q := Wp.loc e139_47 rfl rfl rfl
theorem e139_48 : decode (j_co 139) 48 = .ok (.iconst 2, 1) := by decide +kernel
set_option maxRecDepth 20000 in
theorem w139_48 {d : Nat} {st : List Value} {Q : Option Value × jW → Prop} {ls : jL} {w : jW} : Wp d 139 48 ls (st) w Q = Wp d 139 49 ls (.int (nI 2) :: st) w Q := Wp.alu e139_48 rfl rfl
theorem e139_49 : decode (j_co 139) 49 = .ok (.iload 4, 2) := by decide +kernel
set_option maxRecDepth 20000 in
theorem w139_49 {d : Nat} {st : List Value} {Q : Option Value × jW → Prop} {w : jW} {a0 a1 a2 a3 : Option Value} {x : Int32} : Wp d 139 49 [a0, a1, a2, a3, some (.int x)] (st) w Q = Wp d 139 51 [a0, a1, a2, a3, some (.int x)] (.int x :: st) w Q := Wp.loc e139_49 rfl rfl rfl
theorem e139_51 : decode (j_co 139) 51 = .ok (.imul, 1) := by decide +kernel
set_option maxRecDepth 20000 in
theorem w139_51 {d : Nat} {st : List Value} {Q : Option Value × jW → Prop} {ls : jL} {w : jW} {a b : Int32} : Wp d 139 51 ls (.int b :: .int a :: st) w Q = Wp d 139 52 ls (.int (a * b) :: st) w Q := Wp.alu e139_51 rfl rfl
theorem e139_52 : decode (j_co 139) 52 = .ok (.iadd, 1) := by decide +kernel
set_option maxRecDepth 20000 in
theorem w139_52 {d : Nat} {st : List Value} {Q : Option Value × jW → Prop} {ls : jL} {w : jW} {a b : Int32} : Wp d 139 52 ls (.int b :: .int a :: st) w Q = Wp d 139 53 ls (.int (a + b) :: st) w Q := Wp.alu e139_52 rfl rfl
theorem e139_53 : decode (j_co 139) 53 = .ok (.iconst 1, 1) := by decide +kernel
set_option maxRecDepth 20000 in
theorem w139_53 {d : Nat} {st : List Value} {Q : Option Value × jW → Prop} {ls : jL} {w : jW} : Wp d 139 53 ls (st) w Q = Wp d 139 54 ls (.int (nI 1) :: st) w Q := Wp.alu e139_53 rfl rfl
theorem e139_54 : decode (j_co 139) 54 = .ok (.iadd, 1) := by decide +kernel
set_option maxRecDepth 20000 in
theorem w139_54 {d : Nat} {st : List Value} {Q : Option Value × jW → Prop} {ls : jL} {w : jW} {a b : Int32} : Wp d 139 54 ls (.int b :: .int a :: st) w Q = Wp d 139 55 ls (.int (a + b) :: st) w Q := Wp.alu e139_54 rfl rfl
theorem e139_55 : decode (j_co 139) 55 = .ok (.iaload, 1) := by decide +kernel
set_option maxRecDepth 20000 in
theorem w139_55 {d : Nat} {st : List Value} {Q : Option Value × jW → Prop} {ls : jL} {xs : List Value} {I : fI} {L : fL} {o : Nat} {i : Int32} (ht : f_tg o = 100) (hi : ¬ (i < 0 ∨ f_ln o ≤ i.toNatClampNeg)) : Wp d 139 55 ls (.int i :: .ref o :: st) (f_W xs I L) Q = Wp d 139 56 ls (.int (I o i.toNatClampNeg) :: st) (f_W xs I L) Q := Wp.iald e139_55 ht hi
theorem e139_56 : decode (j_co 139) 56 = .ok (.if_icmp .gt 7, 3) := by decide +kernel
set_option maxRecDepth 20000 in
theorem w139_56 {d : Nat} {st : List Value} {Q : Option Value × jW → Prop} {ls : jL} {w : jW} {a b : Int32} : Wp d 139 56 ls (.int b :: .int a :: st) w Q = ((b < a → Wp d 139 63 ls st w Q) ∧ (¬ b < a → Wp d 139 59 ls st w Q)) := Wp.if2 (c := b < a) (off := 7) e139_56 rfl rfl rfl rfl rfl
theorem e139_59 : decode (j_co 139) 59 = .ok (.iconst 1, 1) := by decide +kernel
set_option maxRecDepth 20000 in
theorem w139_59 {d : Nat} {st : List Value} {Q : Option Value × jW → Prop} {ls : jL} {w : jW} : Wp d 139 59 ls (st) w Q = Wp d 139 60 ls (.int (nI 1) :: st) w Q := Wp.alu e139_59 rfl rfl
theorem e139_60 : decode (j_co 139) 60 = .ok (.goto 4, 3) := by decide +kernel
set_option maxRecDepth 20000 in
theorem w139_60 {d : Nat} {st : List Value} {Q : Option Value × jW → Prop} {ls : jL} {w : jW} : Wp d 139 60 ls (st) w Q = Wp d 139 64 ls (st) w Q := Wp.br e139_60 (Or.inl rfl) rfl rfl rfl rfl
theorem e139_63 : decode (j_co 139) 63 = .ok (.iconst 0, 1) := by decide +kernel
set_option maxRecDepth 20000 in
theorem w139_63 {d : Nat} {st : List Value} {Q : Option Value × jW → Prop} {ls : jL} {w : jW} : Wp d 139 63 ls (st) w Q = Wp d 139 64 ls (.int (nI 0) :: st) w Q := Wp.alu e139_63 rfl rfl
theorem e139_64 : decode (j_co 139) 64 = .ok (.istore_n 3, 1) := by decide +kernel
set_option maxRecDepth 20000 in
theorem w139_64 {d : Nat} {st : List Value} {Q : Option Value × jW → Prop} {w : jW} {a0 a1 a2 a3 a4 : Option Value} {x : Int32} (h : j_cp a2) : Wp d 139 64 [a0, a1, a2, a3, a4] (.int x :: st) w Q = Wp d 139 65 [a0, a1, a2, some (.int x), a4] (st) w Q := Wp.loc e139_64 rfl rfl (v_stI (ls := [a0, a1, a2, a3, a4]) (k := 3) (show 3 < 5 by decide) h)
theorem e139_65 : decode (j_co 139) 65 = .ok (.iinc 4 1, 3) := by decide +kernel
set_option maxRecDepth 20000 in
theorem w139_65 {d : Nat} {st : List Value} {Q : Option Value × jW → Prop} {w : jW} {a0 a1 a2 a3 : Option Value} {x : Int32} (h : j_cp a3) : Wp d 139 65 [a0, a1, a2, a3, some (.int x)] (st) w Q = Wp d 139 68 [a0, a1, a2, a3, some (.int (x + nI 1))] (st) w Q := Wp.loc e139_65 rfl rfl (v_inc (ls := [a0, a1, a2, a3, some (.int x)]) (k := 4) (n := 1) rfl (show 4 < 5 by decide) h)
theorem e139_68 : decode (j_co 139) 68 = .ok (.goto (-63), 3) := by decide +kernel
set_option maxRecDepth 20000 in
theorem w139_68 {d : Nat} {st : List Value} {Q : Option Value × jW → Prop} {ls : jL} {w : jW} : Wp d 139 68 ls (st) w Q = Wp d 139 5 ls (st) w Q := Wp.br e139_68 (Or.inl rfl) rfl rfl rfl rfl
theorem e139_71 : decode (j_co 139) 71 = .ok (.iload_n 3, 1) := by decide +kernel
set_option maxRecDepth 20000 in
theorem w139_71 {d : Nat} {st : List Value} {Q : Option Value × jW → Prop} {w : jW} {a0 a1 a2 a4 : Option Value} {x : Int32} : Wp d 139 71 [a0, a1, a2, some (.int x), a4] (st) w Q = Wp d 139 72 [a0, a1, a2, some (.int x), a4] (.int x :: st) w Q := Wp.loc e139_71 rfl rfl rfl
theorem e139_72 : decode (j_co 139) 72 = .ok (.ireturn, 1) := by decide +kernel
set_option maxRecDepth 20000 in
theorem w139_72 {d : Nat} {Q : Option Value × jW → Prop} {ls : jL} {w : jW} {x : Int32} (hx : x = 0 ∨ x = 1) : Wp d 139 72 ls [.int x] w Q = Q (some (.int x), w) := Wp.ret e139_72 (by rcases hx with rfl | rfl <;> rfl)
