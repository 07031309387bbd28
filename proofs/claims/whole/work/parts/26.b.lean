/-! Search.forget -/
theorem e14_0 : decode (j_co 14) 0 = .ok (.aload_n 0, 1) := by decide +kernel
set_option maxRecDepth 20000 in
theorem w14_0 {d : Nat} {st : List Value} {Q : Option Value × jW → Prop} {w : jW} {x : Nat} : Wp d 14 0 [some (.ref x)] (st) w Q = Wp d 14 1 [some (.ref x)] (.ref x :: st) w Q := Wp.loc e14_0 rfl rfl rfl
theorem e14_1 : decode (j_co 14) 1 = .ok (.iconst 0, 1) := by decide +kernel
set_option maxRecDepth 20000 in
theorem w14_1 {d : Nat} {st : List Value} {Q : Option Value × jW → Prop} {ls : jL} {w : jW} : Wp d 14 1 ls (st) w Q = Wp d 14 2 ls (.int (nI 0) :: st) w Q := Wp.alu e14_1 rfl rfl
theorem e14_2 : decode (j_co 14) 2 = .ok (.putfield 40, 3) := by decide +kernel
set_option maxRecDepth 20000 in
theorem w14_2 {d : Nat} {st : List Value} {Q : Option Value × jW → Prop} {ls : jL} {xs : List Value} {I : fI} {L : fL} {o : Nat} {x : Int32} (ht : f_tg o = 7) (hx : x = 0 ∨ x = 1) : Wp d 14 2 ls (.int x :: .ref o :: st) (f_W xs I L) Q = Wp d 14 5 ls (st) (f_W xs (f_up I o 9 x) L) Q := Wp.putI (ci := 7) (k := 9) e14_2 rfl (by decide) (by decide) (by rcases hx with rfl | rfl <;> rfl) (by decide) ht
theorem e14_5 : decode (j_co 14) 5 = .ok (.return_, 1) := by decide +kernel
set_option maxRecDepth 20000 in
theorem w14_5 {d : Nat} {Q : Option Value × jW → Prop} {ls : jL} {w : jW} : Wp d 14 5 ls [] w Q = Q (none, w) := Wp.ret e14_5 rfl
/-! Machine.hasMode -/
theorem e16_0 : decode (j_co 16) 0 = .ok (.iload_n 1, 1) := by decide +kernel
set_option maxRecDepth 20000 in
theorem w16_0 {d : Nat} {st : List Value} {Q : Option Value × jW → Prop} {w : jW} {a0 : Option Value} {x : Int32} : Wp d 16 0 [a0, some (.int x)] (st) w Q = Wp d 16 1 [a0, some (.int x)] (.int x :: st) w Q := Wp.loc e16_0 rfl rfl rfl
theorem e16_1 : decode (j_co 16) 1 = .ok (.ifCond .lt 15, 3) := by decide +kernel
set_option maxRecDepth 20000 in
theorem w16_1 {d : Nat} {st : List Value} {Q : Option Value × jW → Prop} {ls : jL} {w : jW} {a : Int32} : Wp d 16 1 ls (.int a :: st) w Q = ((a < nI 0 → Wp d 16 16 ls st w Q) ∧ (¬ a < nI 0 → Wp d 16 4 ls st w Q)) := Wp.if2 (c := a < nI 0) (off := 15) e16_1 rfl rfl rfl rfl rfl
theorem e16_4 : decode (j_co 16) 4 = .ok (.iload_n 1, 1) := by decide +kernel
set_option maxRecDepth 20000 in
theorem w16_4 {d : Nat} {st : List Value} {Q : Option Value × jW → Prop} {w : jW} {a0 : Option Value} {x : Int32} : Wp d 16 4 [a0, some (.int x)] (st) w Q = Wp d 16 5 [a0, some (.int x)] (.int x :: st) w Q := Wp.loc e16_4 rfl rfl rfl
theorem e16_5 : decode (j_co 16) 5 = .ok (.aload_n 0, 1) := by decide +kernel
set_option maxRecDepth 20000 in
theorem w16_5 {d : Nat} {st : List Value} {Q : Option Value × jW → Prop} {w : jW} {a1 : Option Value} {x : Nat} : Wp d 16 5 [some (.ref x), a1] (st) w Q = Wp d 16 6 [some (.ref x), a1] (.ref x :: st) w Q := Wp.loc e16_5 rfl rfl rfl
theorem e16_6 : decode (j_co 16) 6 = .ok (.getfield 43, 3) := by decide +kernel
set_option maxRecDepth 20000 in
theorem w16_6 {d : Nat} {st : List Value} {Q : Option Value × jW → Prop} {ls : jL} {xs : List Value} {I : fI} {L : fL} {o : Nat} (ht : f_tg o = 5) : Wp d 16 6 ls (.ref o :: st) (f_W xs I L) Q = Wp d 16 9 ls (.int (I o 4) :: st) (f_W xs I L) Q := Wp.getI (ci := 5) (k := 4) e16_6 rfl (by decide) (by decide) (by decide) ht
theorem e16_9 : decode (j_co 16) 9 = .ok (.if_icmp .ge 7, 3) := by decide +kernel
set_option maxRecDepth 20000 in
theorem w16_9 {d : Nat} {st : List Value} {Q : Option Value × jW → Prop} {ls : jL} {w : jW} {a b : Int32} : Wp d 16 9 ls (.int b :: .int a :: st) w Q = ((b ≤ a → Wp d 16 16 ls st w Q) ∧ (¬ b ≤ a → Wp d 16 12 ls st w Q)) := Wp.if2 (c := b ≤ a) (off := 7) e16_9 rfl rfl rfl rfl rfl
theorem e16_12 : decode (j_co 16) 12 = .ok (.iconst 1, 1) := by decide +kernel
set_option maxRecDepth 20000 in
theorem w16_12 {d : Nat} {st : List Value} {Q : Option Value × jW → Prop} {ls : jL} {w : jW} : Wp d 16 12 ls (st) w Q = Wp d 16 13 ls (.int (nI 1) :: st) w Q := Wp.alu e16_12 rfl rfl
theorem e16_13 : decode (j_co 16) 13 = .ok (.goto 4, 3) := by decide +kernel
set_option maxRecDepth 20000 in
theorem w16_13 {d : Nat} {st : List Value} {Q : Option Value × jW → Prop} {ls : jL} {w : jW} : Wp d 16 13 ls (st) w Q = Wp d 16 17 ls (st) w Q := Wp.br e16_13 (Or.inl rfl) rfl rfl rfl rfl
theorem e16_16 : decode (j_co 16) 16 = .ok (.iconst 0, 1) := by decide +kernel
set_option maxRecDepth 20000 in
theorem w16_16 {d : Nat} {st : List Value} {Q : Option Value × jW → Prop} {ls : jL} {w : jW} : Wp d 16 16 ls (st) w Q = Wp d 16 17 ls (.int (nI 0) :: st) w Q := Wp.alu e16_16 rfl rfl
theorem e16_17 : decode (j_co 16) 17 = .ok (.ireturn, 1) := by decide +kernel
set_option maxRecDepth 20000 in
theorem w16_17 {d : Nat} {Q : Option Value × jW → Prop} {ls : jL} {w : jW} {x : Int32} (hx : x = 0 ∨ x = 1) : Wp d 16 17 ls [.int x] w Q = Q (some (.int x), w) := Wp.ret e16_17 (by rcases hx with rfl | rfl <;> rfl)
/-! Machine.hasJump -/
theorem e22_0 : decode (j_co 22) 0 = .ok (.iload_n 1, 1) := by decide +kernel
set_option maxRecDepth 20000 in
theorem w22_0 {d : Nat} {st : List Value} {Q : Option Value × jW → Prop} {w : jW} {a0 : Option Value} {x : Int32} : Wp d 22 0 [a0, some (.int x)] (st) w Q = Wp d 22 1 [a0, some (.int x)] (.int x :: st) w Q := Wp.loc e22_0 rfl rfl rfl
theorem e22_1 : decode (j_co 22) 1 = .ok (.ifCond .lt 15, 3) := by decide +kernel
set_option maxRecDepth 20000 in
theorem w22_1 {d : Nat} {st : List Value} {Q : Option Value × jW → Prop} {ls : jL} {w : jW} {a : Int32} : Wp d 22 1 ls (.int a :: st) w Q = ((a < nI 0 → Wp d 22 16 ls st w Q) ∧ (¬ a < nI 0 → Wp d 22 4 ls st w Q)) := Wp.if2 (c := a < nI 0) (off := 15) e22_1 rfl rfl rfl rfl rfl
theorem e22_4 : decode (j_co 22) 4 = .ok (.iload_n 1, 1) := by decide +kernel
set_option maxRecDepth 20000 in
theorem w22_4 {d : Nat} {st : List Value} {Q : Option Value × jW → Prop} {w : jW} {a0 : Option Value} {x : Int32} : Wp d 22 4 [a0, some (.int x)] (st) w Q = Wp d 22 5 [a0, some (.int x)] (.int x :: st) w Q := Wp.loc e22_4 rfl rfl rfl
theorem e22_5 : decode (j_co 22) 5 = .ok (.aload_n 0, 1) := by decide +kernel
set_option maxRecDepth 20000 in
theorem w22_5 {d : Nat} {st : List Value} {Q : Option Value × jW → Prop} {w : jW} {a1 : Option Value} {x : Nat} : Wp d 22 5 [some (.ref x), a1] (st) w Q = Wp d 22 6 [some (.ref x), a1] (.ref x :: st) w Q := Wp.loc e22_5 rfl rfl rfl
theorem e22_6 : decode (j_co 22) 6 = .ok (.getfield 46, 3) := by decide +kernel
set_option maxRecDepth 20000 in
theorem w22_6 {d : Nat} {st : List Value} {Q : Option Value × jW → Prop} {ls : jL} {xs : List Value} {I : fI} {L : fL} {o : Nat} (ht : f_tg o = 5) : Wp d 22 6 ls (.ref o :: st) (f_W xs I L) Q = Wp d 22 9 ls (.int (I o 5) :: st) (f_W xs I L) Q := Wp.getI (ci := 5) (k := 5) e22_6 rfl (by decide) (by decide) (by decide) ht
theorem e22_9 : decode (j_co 22) 9 = .ok (.if_icmp .ge 7, 3) := by decide +kernel
set_option maxRecDepth 20000 in
theorem w22_9 {d : Nat} {st : List Value} {Q : Option Value × jW → Prop} {ls : jL} {w : jW} {a b : Int32} : Wp d 22 9 ls (.int b :: .int a :: st) w Q = ((b ≤ a → Wp d 22 16 ls st w Q) ∧ (¬ b ≤ a → Wp d 22 12 ls st w Q)) := Wp.if2 (c := b ≤ a) (off := 7) e22_9 rfl rfl rfl rfl rfl
theorem e22_12 : decode (j_co 22) 12 = .ok (.iconst 1, 1) := by decide +kernel
set_option maxRecDepth 20000 in
theorem w22_12 {d : Nat} {st : List Value} {Q : Option Value × jW → Prop} {ls : jL} {w : jW} : Wp d 22 12 ls (st) w Q = Wp d 22 13 ls (.int (nI 1) :: st) w Q := Wp.alu e22_12 rfl rfl
theorem e22_13 : decode (j_co 22) 13 = .ok (.goto 4, 3) := by decide +kernel
set_option maxRecDepth 20000 in
theorem w22_13 {d : Nat} {st : List Value} {Q : Option Value × jW → Prop} {ls : jL} {w : jW} : Wp d 22 13 ls (st) w Q = Wp d 22 17 ls (st) w Q := Wp.br e22_13 (Or.inl rfl) rfl rfl rfl rfl
theorem e22_16 : decode (j_co 22) 16 = .ok (.iconst 0, 1) := by decide +kernel
set_option maxRecDepth 20000 in
theorem w22_16 {d : Nat} {st : List Value} {Q : Option Value × jW → Prop} {ls : jL} {w : jW} : Wp d 22 16 ls (st) w Q = Wp d 22 17 ls (.int (nI 0) :: st) w Q := Wp.alu e22_16 rfl rfl
theorem e22_17 : decode (j_co 22) 17 = .ok (.ireturn, 1) := by decide +kernel
set_option maxRecDepth 20000 in
theorem w22_17 {d : Nat} {Q : Option Value × jW → Prop} {ls : jL} {w : jW} {x : Int32} (hx : x = 0 ∨ x = 1) : Wp d 22 17 ls [.int x] w Q = Q (some (.int x), w) := Wp.ret e22_17 (by rcases hx with rfl | rfl <;> rfl)
/-! Search.refresh -/
theorem e29_0 : decode (j_co 29) 0 = .ok (.aload_n 0, 1) := by decide +kernel
set_option maxRecDepth 20000 in
theorem w29_0 {d : Nat} {st : List Value} {Q : Option Value × jW → Prop} {w : jW} {x : Nat} : Wp d 29 0 [some (.ref x)] (st) w Q = Wp d 29 1 [some (.ref x)] (.ref x :: st) w Q := Wp.loc e29_0 rfl rfl rfl
theorem e29_1 : decode (j_co 29) 1 = .ok (.getfield 40, 3) := by decide +kernel
set_option maxRecDepth 20000 in
theorem w29_1 {d : Nat} {st : List Value} {Q : Option Value × jW → Prop} {ls : jL} {xs : List Value} {I : fI} {L : fL} {o : Nat} (ht : f_tg o = 7) : Wp d 29 1 ls (.ref o :: st) (f_W xs I L) Q = Wp d 29 4 ls (.int (I o 9) :: st) (f_W xs I L) Q := Wp.getI (ci := 7) (k := 9) e29_1 rfl (by decide) (by decide) (by decide) ht
theorem e29_4 : decode (j_co 29) 4 = .ok (.ifCond .eq 4, 3) := by decide +kernel
set_option maxRecDepth 20000 in
theorem w29_4 {d : Nat} {st : List Value} {Q : Option Value × jW → Prop} {ls : jL} {w : jW} {a : Int32} : Wp d 29 4 ls (.int a :: st) w Q = ((a = nI 0 → Wp d 29 8 ls st w Q) ∧ (¬ a = nI 0 → Wp d 29 7 ls st w Q)) := Wp.if2 (c := a = nI 0) (off := 4) e29_4 rfl rfl rfl rfl rfl
theorem e29_7 : decode (j_co 29) 7 = .ok (.return_, 1) := by decide +kernel
set_option maxRecDepth 20000 in
theorem w29_7 {d : Nat} {Q : Option Value × jW → Prop} {ls : jL} {w : jW} : Wp d 29 7 ls [] w Q = Q (none, w) := Wp.ret e29_7 rfl
theorem e29_8 : decode (j_co 29) 8 = .ok (.aload_n 0, 1) := by decide +kernel
set_option maxRecDepth 20000 in
theorem w29_8 {d : Nat} {st : List Value} {Q : Option Value × jW → Prop} {w : jW} {x : Nat} : Wp d 29 8 [some (.ref x)] (st) w Q = Wp d 29 9 [some (.ref x)] (.ref x :: st) w Q := Wp.loc e29_8 rfl rfl rfl
theorem e29_9 : decode (j_co 29) 9 = .ok (.iconst 1, 1) := by decide +kernel
set_option maxRecDepth 20000 in
theorem w29_9 {d : Nat} {st : List Value} {Q : Option Value × jW → Prop} {ls : jL} {w : jW} : Wp d 29 9 ls (st) w Q = Wp d 29 10 ls (.int (nI 1) :: st) w Q := Wp.alu e29_9 rfl rfl
theorem e29_10 : decode (j_co 29) 10 = .ok (.putfield 40, 3) := by decide +kernel
set_option maxRecDepth 20000 in
theorem w29_10 {d : Nat} {st : List Value} {Q : Option Value × jW → Prop} {ls : jL} {xs : List Value} {I : fI} {L : fL} {o : Nat} {x : Int32} (ht : f_tg o = 7) (hx : x = 0 ∨ x = 1) : Wp d 29 10 ls (.int x :: .ref o :: st) (f_W xs I L) Q = Wp d 29 13 ls (st) (f_W xs (f_up I o 9 x) L) Q := Wp.putI (ci := 7) (k := 9) e29_10 rfl (by decide) (by decide) (by rcases hx with rfl | rfl <;> rfl) (by decide) ht
theorem e29_13 : decode (j_co 29) 13 = .ok (.aload_n 0, 1) := by decide +kernel
set_option maxRecDepth 20000 in
theorem w29_13 {d : Nat} {st : List Value} {Q : Option Value × jW → Prop} {w : jW} {x : Nat} : Wp d 29 13 [some (.ref x)] (st) w Q = Wp d 29 14 [some (.ref x)] (.ref x :: st) w Q := Wp.loc e29_13 rfl rfl rfl
theorem e29_14 : decode (j_co 29) 14 = .ok (.iconst 0, 1) := by decide +kernel
set_option maxRecDepth 20000 in
theorem w29_14 {d : Nat} {st : List Value} {Q : Option Value × jW → Prop} {ls : jL} {w : jW} : Wp d 29 14 ls (st) w Q = Wp d 29 15 ls (.int (nI 0) :: st) w Q := Wp.alu e29_14 rfl rfl
theorem e29_15 : decode (j_co 29) 15 = .ok (.putfield 44, 3) := by decide +kernel
set_option maxRecDepth 20000 in
theorem w29_15 {d : Nat} {st : List Value} {Q : Option Value × jW → Prop} {ls : jL} {xs : List Value} {I : fI} {L : fL} {o : Nat} {x : Int32} (ht : f_tg o = 7) : Wp d 29 15 ls (.int x :: .ref o :: st) (f_W xs I L) Q = Wp d 29 18 ls (st) (f_W xs (f_up I o 6 x) L) Q := Wp.putI (ci := 7) (k := 6) e29_15 rfl (by decide) (by decide) rfl (by decide) ht
theorem e29_18 : decode (j_co 29) 18 = .ok (.aload_n 0, 1) := by decide +kernel
set_option maxRecDepth 20000 in
theorem w29_18 {d : Nat} {st : List Value} {Q : Option Value × jW → Prop} {w : jW} {x : Nat} : Wp d 29 18 [some (.ref x)] (st) w Q = Wp d 29 19 [some (.ref x)] (.ref x :: st) w Q := Wp.loc e29_18 rfl rfl rfl
theorem e29_19 : decode (j_co 29) 19 = .ok (.iconst 0, 1) := by decide +kernel
set_option maxRecDepth 20000 in
theorem w29_19 {d : Nat} {st : List Value} {Q : Option Value × jW → Prop} {ls : jL} {w : jW} : Wp d 29 19 ls (st) w Q = Wp d 29 20 ls (.int (nI 0) :: st) w Q := Wp.alu e29_19 rfl rfl
theorem e29_20 : decode (j_co 29) 20 = .ok (.putfield 47, 3) := by decide +kernel
set_option maxRecDepth 20000 in
theorem w29_20 {d : Nat} {st : List Value} {Q : Option Value × jW → Prop} {ls : jL} {xs : List Value} {I : fI} {L : fL} {o : Nat} {x : Int32} (ht : f_tg o = 7) : Wp d 29 20 ls (.int x :: .ref o :: st) (f_W xs I L) Q = Wp d 29 23 ls (st) (f_W xs (f_up I o 7 x) L) Q := Wp.putI (ci := 7) (k := 7) e29_20 rfl (by decide) (by decide) rfl (by decide) ht
theorem e29_23 : decode (j_co 29) 23 = .ok (.aload_n 0, 1) := by decide +kernel
set_option maxRecDepth 20000 in
theorem w29_23 {d : Nat} {st : List Value} {Q : Option Value × jW → Prop} {w : jW} {x : Nat} : Wp d 29 23 [some (.ref x)] (st) w Q = Wp d 29 24 [some (.ref x)] (.ref x :: st) w Q := Wp.loc e29_23 rfl rfl rfl
theorem e29_24 : decode (j_co 29) 24 = .ok (.iconst 0, 1) := by decide +kernel
set_option maxRecDepth 20000 in
theorem w29_24 {d : Nat} {st : List Value} {Q : Option Value × jW → Prop} {ls : jL} {w : jW} : Wp d 29 24 ls (st) w Q = Wp d 29 25 ls (.int (nI 0) :: st) w Q := Wp.alu e29_24 rfl rfl
theorem e29_25 : decode (j_co 29) 25 = .ok (.putfield 50, 3) := by decide +kernel
set_option maxRecDepth 20000 in
theorem w29_25 {d : Nat} {st : List Value} {Q : Option Value × jW → Prop} {ls : jL} {xs : List Value} {I : fI} {L : fL} {o : Nat} {x : Int32} (ht : f_tg o = 7) (hx : x = 0 ∨ x = 1) : Wp d 29 25 ls (.int x :: .ref o :: st) (f_W xs I L) Q = Wp d 29 28 ls (st) (f_W xs (f_up I o 8 x) L) Q := Wp.putI (ci := 7) (k := 8) e29_25 rfl (by decide) (by decide) (by rcases hx with rfl | rfl <;> rfl) (by decide) ht
theorem e29_28 : decode (j_co 29) 28 = .ok (.aload_n 0, 1) := by decide +kernel
set_option maxRecDepth 20000 in
theorem w29_28 {d : Nat} {st : List Value} {Q : Option Value × jW → Prop} {w : jW} {x : Nat} : Wp d 29 28 [some (.ref x)] (st) w Q = Wp d 29 29 [some (.ref x)] (.ref x :: st) w Q := Wp.loc e29_28 rfl rfl rfl
theorem e29_29 : decode (j_co 29) 29 = .ok (.getfield 35, 3) := by decide +kernel
set_option maxRecDepth 20000 in
theorem w29_29 {d : Nat} {st : List Value} {Q : Option Value × jW → Prop} {ls : jL} {xs : List Value} {I : fI} {L : fL} {o : Nat} (ht : f_tg o = 7) : Wp d 29 29 ls (.ref o :: st) (f_W xs I L) Q = Wp d 29 32 ls (.ref (f_rf o 0) :: st) (f_W xs I L) Q := Wp.getR (ci := 7) (k := 0) e29_29 rfl (by decide) (by decide) rfl ht
theorem e29_32 : decode (j_co 29) 32 = .ok (.aload_n 0, 1) := by decide +kernel
set_option maxRecDepth 20000 in
theorem w29_32 {d : Nat} {st : List Value} {Q : Option Value × jW → Prop} {w : jW} {x : Nat} : Wp d 29 32 [some (.ref x)] (st) w Q = Wp d 29 33 [some (.ref x)] (.ref x :: st) w Q := Wp.loc e29_32 rfl rfl rfl
theorem e29_33 : decode (j_co 29) 33 = .ok (.getfield 24, 3) := by decide +kernel
set_option maxRecDepth 20000 in
theorem w29_33 {d : Nat} {st : List Value} {Q : Option Value × jW → Prop} {ls : jL} {xs : List Value} {I : fI} {L : fL} {o : Nat} (ht : f_tg o = 7) : Wp d 29 33 ls (.ref o :: st) (f_W xs I L) Q = Wp d 29 36 ls (.ref (f_rf o 3) :: st) (f_W xs I L) Q := Wp.getR (ci := 7) (k := 3) e29_33 rfl (by decide) (by decide) rfl ht
theorem e29_36 : decode (j_co 29) 36 = .ok (.invokevirtual 53, 3) := by decide +kernel
set_option maxRecDepth 20000 in
theorem w29_36 {d : Nat} {st : List Value} {Q : Option Value × jW → Prop} {ls : jL} {xs : List Value} {I : fI} {L : fL} {r : Nat} {x0 : Nat} (hs : j_sumc st ≤ 8) (ht : f_tg r = 5) : Wp (d + 1) 29 36 ls (.ref x0 :: .ref r :: st) (f_W xs I L) Q = Wp d 30 0 [some (.ref r), some (.ref x0)] [] (f_W xs I L) (fun r1 => Wp (d + 1) 29 39 ls (r1.1.toList ++ st) r1.2 Q) := Wp.cv (y' := 30) (as := [.ref x0]) e29_36 rfl (by decide) rfl (show 2 ≤ 2 by decide) (by decide) hs ht
theorem e29_39 : decode (j_co 29) 39 = .ok (.ifCond .eq 18, 3) := by decide +kernel
set_option maxRecDepth 20000 in
theorem w29_39 {d : Nat} {st : List Value} {Q : Option Value × jW → Prop} {ls : jL} {w : jW} {a : Int32} : Wp d 29 39 ls (.int a :: st) w Q = ((a = nI 0 → Wp d 29 57 ls st w Q) ∧ (¬ a = nI 0 → Wp d 29 42 ls st w Q)) := Wp.if2 (c := a = nI 0) (off := 18) e29_39 rfl rfl rfl rfl rfl
theorem e29_42 : decode (j_co 29) 42 = .ok (.aload_n 0, 1) := by decide +kernel
set_option maxRecDepth 20000 in
theorem w29_42 {d : Nat} {st : List Value} {Q : Option Value × jW → Prop} {w : jW} {x : Nat} : Wp d 29 42 [some (.ref x)] (st) w Q = Wp d 29 43 [some (.ref x)] (.ref x :: st) w Q := Wp.loc e29_42 rfl rfl rfl
theorem e29_43 : decode (j_co 29) 43 = .ok (.aload_n 0, 1) := by decide +kernel
set_option maxRecDepth 20000 in
theorem w29_43 {d : Nat} {st : List Value} {Q : Option Value × jW → Prop} {w : jW} {x : Nat} : Wp d 29 43 [some (.ref x)] (st) w Q = Wp d 29 44 [some (.ref x)] (.ref x :: st) w Q := Wp.loc e29_43 rfl rfl rfl
theorem e29_44 : decode (j_co 29) 44 = .ok (.getfield 35, 3) := by decide +kernel
set_option maxRecDepth 20000 in
theorem w29_44 {d : Nat} {st : List Value} {Q : Option Value × jW → Prop} {ls : jL} {xs : List Value} {I : fI} {L : fL} {o : Nat} (ht : f_tg o = 7) : Wp d 29 44 ls (.ref o :: st) (f_W xs I L) Q = Wp d 29 47 ls (.ref (f_rf o 0) :: st) (f_W xs I L) Q := Wp.getR (ci := 7) (k := 0) e29_44 rfl (by decide) (by decide) rfl ht
theorem e29_47 : decode (j_co 29) 47 = .ok (.getfield 59, 3) := by decide +kernel
set_option maxRecDepth 20000 in
theorem w29_47 {d : Nat} {st : List Value} {Q : Option Value × jW → Prop} {ls : jL} {xs : List Value} {I : fI} {L : fL} {o : Nat} (ht : f_tg o = 5) : Wp d 29 47 ls (.ref o :: st) (f_W xs I L) Q = Wp d 29 50 ls (.int (I o 6) :: st) (f_W xs I L) Q := Wp.getI (ci := 5) (k := 6) e29_47 rfl (by decide) (by decide) (by decide) ht
theorem e29_50 : decode (j_co 29) 50 = .ok (.bipush (-4), 2) := by decide +kernel
set_option maxRecDepth 20000 in
theorem w29_50 {d : Nat} {st : List Value} {Q : Option Value × jW → Prop} {ls : jL} {w : jW} : Wp d 29 50 ls (st) w Q = Wp d 29 52 ls (.int (-4) :: st) w Q := Wp.alu e29_50 rfl rfl
theorem e29_52 : decode (j_co 29) 52 = .ok (.bipush (-4), 2) := by decide +kernel
set_option maxRecDepth 20000 in
theorem w29_52 {d : Nat} {st : List Value} {Q : Option Value × jW → Prop} {ls : jL} {w : jW} : Wp d 29 52 ls (st) w Q = Wp d 29 54 ls (.int (-4) :: st) w Q := Wp.alu e29_52 rfl rfl
theorem e29_54 : decode (j_co 29) 54 = .ok (.invokevirtual 62, 3) := by decide +kernel
set_option maxRecDepth 20000 in
theorem w29_54 {d : Nat} {st : List Value} {Q : Option Value × jW → Prop} {ls : jL} {xs : List Value} {I : fI} {L : fL} {r : Nat} {x0 : Int32} {x1 : Int32} {x2 : Int32} (hs : j_sumc st ≤ 8) (ht : f_tg r = 7) : Wp (d + 1) 29 54 ls (.int x2 :: .int x1 :: .int x0 :: .ref r :: st) (f_W xs I L) Q = Wp d 38 0 [some (.ref r), some (.int x0), some (.int x1), some (.int x2), none] [] (f_W xs I L) (fun r1 => Wp (d + 1) 29 57 ls (r1.1.toList ++ st) r1.2 Q) := Wp.cv (y' := 38) (as := [.int x0, .int x1, .int x2]) e29_54 rfl (by decide) rfl (show 4 ≤ 5 by decide) (by decide) hs ht
theorem e29_57 : decode (j_co 29) 57 = .ok (.aload_n 0, 1) := by decide +kernel
set_option maxRecDepth 20000 in
theorem w29_57 {d : Nat} {st : List Value} {Q : Option Value × jW → Prop} {w : jW} {x : Nat} : Wp d 29 57 [some (.ref x)] (st) w Q = Wp d 29 58 [some (.ref x)] (.ref x :: st) w Q := Wp.loc e29_57 rfl rfl rfl
theorem e29_58 : decode (j_co 29) 58 = .ok (.invokevirtual 66, 3) := by decide +kernel
set_option maxRecDepth 20000 in
theorem w29_58 {d : Nat} {st : List Value} {Q : Option Value × jW → Prop} {ls : jL} {xs : List Value} {I : fI} {L : fL} {r : Nat} (hs : j_sumc st ≤ 8) (ht : f_tg r = 7) : Wp (d + 1) 29 58 ls (.ref r :: st) (f_W xs I L) Q = Wp d 39 0 [some (.ref r), none, none] [] (f_W xs I L) (fun r1 => Wp (d + 1) 29 61 ls (r1.1.toList ++ st) r1.2 Q) := Wp.cv (y' := 39) (as := []) e29_58 rfl (by decide) rfl (show 1 ≤ 3 by decide) (by decide) hs ht
theorem e29_61 : decode (j_co 29) 61 = .ok (.aload_n 0, 1) := by decide +kernel
set_option maxRecDepth 20000 in
theorem w29_61 {d : Nat} {st : List Value} {Q : Option Value × jW → Prop} {w : jW} {x : Nat} : Wp d 29 61 [some (.ref x)] (st) w Q = Wp d 29 62 [some (.ref x)] (.ref x :: st) w Q := Wp.loc e29_61 rfl rfl rfl
theorem e29_62 : decode (j_co 29) 62 = .ok (.invokevirtual 69, 3) := by decide +kernel
set_option maxRecDepth 20000 in
theorem w29_62 {d : Nat} {st : List Value} {Q : Option Value × jW → Prop} {ls : jL} {xs : List Value} {I : fI} {L : fL} {r : Nat} (hs : j_sumc st ≤ 8) (ht : f_tg r = 7) : Wp (d + 1) 29 62 ls (.ref r :: st) (f_W xs I L) Q = Wp d 49 0 [some (.ref r), none, none, none] [] (f_W xs I L) (fun r1 => Wp (d + 1) 29 65 ls (r1.1.toList ++ st) r1.2 Q) := Wp.cv (y' := 49) (as := []) e29_62 rfl (by decide) rfl (show 1 ≤ 4 by decide) (by decide) hs ht
theorem e29_65 : decode (j_co 29) 65 = .ok (.return_, 1) := by decide +kernel
set_option maxRecDepth 20000 in
theorem w29_65 {d : Nat} {Q : Option Value × jW → Prop} {ls : jL} {w : jW} : Wp d 29 65 ls [] w Q = Q (none, w) := Wp.ret e29_65 rfl
/-! Machine.begin -/
theorem e30_0 : decode (j_co 30) 0 = .ok (.aload_n 0, 1) := by decide +kernel
set_option maxRecDepth 20000 in
theorem w30_0 {d : Nat} {st : List Value} {Q : Option Value × jW → Prop} {w : jW} {a1 : Option Value} {x : Nat} : Wp d 30 0 [some (.ref x), a1] (st) w Q = Wp d 30 1 [some (.ref x), a1] (.ref x :: st) w Q := Wp.loc e30_0 rfl rfl rfl
theorem e30_1 : decode (j_co 30) 1 = .ok (.aload_n 0, 1) := by decide +kernel
set_option maxRecDepth 20000 in
theorem w30_1 {d : Nat} {st : List Value} {Q : Option Value × jW → Prop} {w : jW} {a1 : Option Value} {x : Nat} : Wp d 30 1 [some (.ref x), a1] (st) w Q = Wp d 30 2 [some (.ref x), a1] (.ref x :: st) w Q := Wp.loc e30_1 rfl rfl rfl
theorem e30_2 : decode (j_co 30) 2 = .ok (.getfield 53, 3) := by decide +kernel
set_option maxRecDepth 20000 in
theorem w30_2 {d : Nat} {st : List Value} {Q : Option Value × jW → Prop} {ls : jL} {xs : List Value} {I : fI} {L : fL} {o : Nat} (ht : f_tg o = 5) : Wp d 30 2 ls (.ref o :: st) (f_W xs I L) Q = Wp d 30 5 ls (.int (I o 6) :: st) (f_W xs I L) Q := Wp.getI (ci := 5) (k := 6) e30_2 rfl (by decide) (by decide) (by decide) ht
theorem e30_5 : decode (j_co 30) 5 = .ok (.invokevirtual 49, 3) := by decide +kernel
set_option maxRecDepth 20000 in
theorem w30_5 {d : Nat} {st : List Value} {Q : Option Value × jW → Prop} {ls : jL} {xs : List Value} {I : fI} {L : fL} {r : Nat} {x0 : Int32} (hs : j_sumc st ≤ 8) (ht : f_tg r = 5) : Wp (d + 1) 30 5 ls (.int x0 :: .ref r :: st) (f_W xs I L) Q = Wp d 16 0 [some (.ref r), some (.int x0)] [] (f_W xs I L) (fun r1 => Wp (d + 1) 30 8 ls (r1.1.toList ++ st) r1.2 Q) := Wp.cv (y' := 16) (as := [.int x0]) e30_5 rfl (by decide) rfl (show 2 ≤ 2 by decide) (by decide) hs ht
theorem e30_8 : decode (j_co 30) 8 = .ok (.ifCond .ne 5, 3) := by decide +kernel
set_option maxRecDepth 20000 in
theorem w30_8 {d : Nat} {st : List Value} {Q : Option Value × jW → Prop} {ls : jL} {w : jW} {a : Int32} : Wp d 30 8 ls (.int a :: st) w Q = ((a = nI 0 → Wp d 30 11 ls st w Q) ∧ (¬ a = nI 0 → Wp d 30 13 ls st w Q)) := Wp.if2n (c := a = nI 0) (off := 5) e30_8 rfl rfl rfl rfl rfl
theorem e30_11 : decode (j_co 30) 11 = .ok (.iconst 0, 1) := by decide +kernel
set_option maxRecDepth 20000 in
theorem w30_11 {d : Nat} {st : List Value} {Q : Option Value × jW → Prop} {ls : jL} {w : jW} : Wp d 30 11 ls (st) w Q = Wp d 30 12 ls (.int (nI 0) :: st) w Q := Wp.alu e30_11 rfl rfl
theorem e30_12 : decode (j_co 30) 12 = .ok (.ireturn, 1) := by decide +kernel
set_option maxRecDepth 20000 in
theorem w30_12 {d : Nat} {Q : Option Value × jW → Prop} {ls : jL} {w : jW} {x : Int32} (hx : x = 0 ∨ x = 1) : Wp d 30 12 ls [.int x] w Q = Q (some (.int x), w) := Wp.ret e30_12 (by rcases hx with rfl | rfl <;> rfl)
theorem e30_13 : decode (j_co 30) 13 = .ok (.aload_n 1, 1) := by decide +kernel
set_option maxRecDepth 20000 in
theorem w30_13 {d : Nat} {st : List Value} {Q : Option Value × jW → Prop} {w : jW} {a0 : Option Value} {x : Nat} : Wp d 30 13 [a0, some (.ref x)] (st) w Q = Wp d 30 14 [a0, some (.ref x)] (.ref x :: st) w Q := Wp.loc e30_13 rfl rfl rfl
theorem e30_14 : decode (j_co 30) 14 = .ok (.aload_n 0, 1) := by decide +kernel
set_option maxRecDepth 20000 in
theorem w30_14 {d : Nat} {st : List Value} {Q : Option Value × jW → Prop} {w : jW} {a1 : Option Value} {x : Nat} : Wp d 30 14 [some (.ref x), a1] (st) w Q = Wp d 30 15 [some (.ref x), a1] (.ref x :: st) w Q := Wp.loc e30_14 rfl rfl rfl
theorem e30_15 : decode (j_co 30) 15 = .ok (.getfield 26, 3) := by decide +kernel
set_option maxRecDepth 20000 in
theorem w30_15 {d : Nat} {st : List Value} {Q : Option Value × jW → Prop} {ls : jL} {xs : List Value} {I : fI} {L : fL} {o : Nat} (ht : f_tg o = 5) : Wp d 30 15 ls (.ref o :: st) (f_W xs I L) Q = Wp d 30 18 ls (.ref (f_rf o 2) :: st) (f_W xs I L) Q := Wp.getR (ci := 5) (k := 2) e30_15 rfl (by decide) (by decide) rfl ht
theorem e30_18 : decode (j_co 30) 18 = .ok (.invokevirtual 56, 3) := by decide +kernel
set_option maxRecDepth 20000 in
theorem w30_18 {d : Nat} {st : List Value} {Q : Option Value × jW → Prop} {ls : jL} {xs : List Value} {I : fI} {L : fL} {r : Nat} {x0 : Nat} (hs : j_sumc st ≤ 8) (ht : f_tg r = 0) : Wp (d + 1) 30 18 ls (.ref x0 :: .ref r :: st) (f_W xs I L) Q = Wp d 31 0 [some (.ref r), some (.ref x0), none] [] (f_W xs I L) (fun r1 => Wp (d + 1) 30 21 ls (r1.1.toList ++ st) r1.2 Q) := Wp.cv (y' := 31) (as := [.ref x0]) e30_18 rfl (by decide) rfl (show 2 ≤ 3 by decide) (by decide) hs ht
theorem e30_21 : decode (j_co 30) 21 = .ok (.aload_n 1, 1) := by decide +kernel
set_option maxRecDepth 20000 in
theorem w30_21 {d : Nat} {st : List Value} {Q : Option Value × jW → Prop} {w : jW} {a0 : Option Value} {x : Nat} : Wp d 30 21 [a0, some (.ref x)] (st) w Q = Wp d 30 22 [a0, some (.ref x)] (.ref x :: st) w Q := Wp.loc e30_21 rfl rfl rfl
theorem e30_22 : decode (j_co 30) 22 = .ok (.aload_n 0, 1) := by decide +kernel
set_option maxRecDepth 20000 in
theorem w30_22 {d : Nat} {st : List Value} {Q : Option Value × jW → Prop} {w : jW} {a1 : Option Value} {x : Nat} : Wp d 30 22 [some (.ref x), a1] (st) w Q = Wp d 30 23 [some (.ref x), a1] (.ref x :: st) w Q := Wp.loc e30_22 rfl rfl rfl
theorem e30_23 : decode (j_co 30) 23 = .ok (.getfield 11, 3) := by decide +kernel
set_option maxRecDepth 20000 in
theorem w30_23 {d : Nat} {st : List Value} {Q : Option Value × jW → Prop} {ls : jL} {xs : List Value} {I : fI} {L : fL} {o : Nat} (ht : f_tg o = 5) : Wp d 30 23 ls (.ref o :: st) (f_W xs I L) Q = Wp d 30 26 ls (.ref (f_rf o 0) :: st) (f_W xs I L) Q := Wp.getR (ci := 5) (k := 0) e30_23 rfl (by decide) (by decide) rfl ht
theorem e30_26 : decode (j_co 30) 26 = .ok (.aload_n 0, 1) := by decide +kernel
set_option maxRecDepth 20000 in
theorem w30_26 {d : Nat} {st : List Value} {Q : Option Value × jW → Prop} {w : jW} {a1 : Option Value} {x : Nat} : Wp d 30 26 [some (.ref x), a1] (st) w Q = Wp d 30 27 [some (.ref x), a1] (.ref x :: st) w Q := Wp.loc e30_26 rfl rfl rfl
theorem e30_27 : decode (j_co 30) 27 = .ok (.getfield 53, 3) := by decide +kernel
set_option maxRecDepth 20000 in
theorem w30_27 {d : Nat} {st : List Value} {Q : Option Value × jW → Prop} {ls : jL} {xs : List Value} {I : fI} {L : fL} {o : Nat} (ht : f_tg o = 5) : Wp d 30 27 ls (.ref o :: st) (f_W xs I L) Q = Wp d 30 30 ls (.int (I o 6) :: st) (f_W xs I L) Q := Wp.getI (ci := 5) (k := 6) e30_27 rfl (by decide) (by decide) (by decide) ht
theorem e30_30 : decode (j_co 30) 30 = .ok (.aaload, 1) := by decide +kernel
set_option maxRecDepth 20000 in
theorem w30_30 {d : Nat} {st : List Value} {Q : Option Value × jW → Prop} {ls : jL} {xs : List Value} {I : fI} {L : fL} {o : Nat} {i : Int32} (ht : 103 ≤ f_tg o ∧ f_tg o ≤ 106) (hi : ¬ (i < 0 ∨ f_ln o ≤ i.toNatClampNeg)) : Wp d 30 30 ls (.int i :: .ref o :: st) (f_W xs I L) Q = Wp d 30 31 ls (.ref (f_rf o i.toNatClampNeg) :: st) (f_W xs I L) Q := Wp.aald e30_30 rfl ht hi
theorem e30_31 : decode (j_co 30) 31 = .ok (.getfield 60, 3) := by decide +kernel
set_option maxRecDepth 20000 in
theorem w30_31 {d : Nat} {st : List Value} {Q : Option Value × jW → Prop} {ls : jL} {xs : List Value} {I : fI} {L : fL} {o : Nat} (ht : f_tg o = 6) : Wp d 30 31 ls (.ref o :: st) (f_W xs I L) Q = Wp d 30 34 ls (.ref (f_rf o 0) :: st) (f_W xs I L) Q := Wp.getR (ci := 6) (k := 0) e30_31 rfl (by decide) (by decide) rfl ht
theorem e30_34 : decode (j_co 30) 34 = .ok (.invokevirtual 63, 3) := by decide +kernel
set_option maxRecDepth 20000 in
theorem w30_34 {d : Nat} {st : List Value} {Q : Option Value × jW → Prop} {ls : jL} {xs : List Value} {I : fI} {L : fL} {r : Nat} {x0 : Nat} (hs : j_sumc st ≤ 8) (ht : f_tg r = 0) : Wp (d + 1) 30 34 ls (.ref x0 :: .ref r :: st) (f_W xs I L) Q = Wp d 32 0 [some (.ref r), some (.ref x0), none] [] (f_W xs I L) (fun r1 => Wp (d + 1) 30 37 ls (r1.1.toList ++ st) r1.2 Q) := Wp.cv (y' := 32) (as := [.ref x0]) e30_34 rfl (by decide) rfl (show 2 ≤ 3 by decide) (by decide) hs ht
theorem e30_37 : decode (j_co 30) 37 = .ok (.aload_n 1, 1) := by decide +kernel
set_option maxRecDepth 20000 in
theorem w30_37 {d : Nat} {st : List Value} {Q : Option Value × jW → Prop} {w : jW} {a0 : Option Value} {x : Nat} : Wp d 30 37 [a0, some (.ref x)] (st) w Q = Wp d 30 38 [a0, some (.ref x)] (.ref x :: st) w Q := Wp.loc e30_37 rfl rfl rfl
theorem e30_38 : decode (j_co 30) 38 = .ok (.invokevirtual 66, 3) := by decide +kernel
set_option maxRecDepth 20000 in
theorem w30_38 {d : Nat} {st : List Value} {Q : Option Value × jW → Prop} {ls : jL} {xs : List Value} {I : fI} {L : fL} {r : Nat} (hs : j_sumc st ≤ 8) (ht : f_tg r = 0) : Wp (d + 1) 30 38 ls (.ref r :: st) (f_W xs I L) Q = Wp d 37 0 [some (.ref r), none] [] (f_W xs I L) (fun r1 => Wp (d + 1) 30 41 ls (r1.1.toList ++ st) r1.2 Q) := Wp.cv (y' := 37) (as := []) e30_38 rfl (by decide) rfl (show 1 ≤ 2 by decide) (by decide) hs ht
theorem e30_41 : decode (j_co 30) 41 = .ok (.ifCond .ne 7, 3) := by decide +kernel
set_option maxRecDepth 20000 in
theorem w30_41 {d : Nat} {st : List Value} {Q : Option Value × jW → Prop} {ls : jL} {w : jW} {a : Int32} : Wp d 30 41 ls (.int a :: st) w Q = ((a = nI 0 → Wp d 30 44 ls st w Q) ∧ (¬ a = nI 0 → Wp d 30 48 ls st w Q)) := Wp.if2n (c := a = nI 0) (off := 7) e30_41 rfl rfl rfl rfl rfl
theorem e30_44 : decode (j_co 30) 44 = .ok (.iconst 1, 1) := by decide +kernel
set_option maxRecDepth 20000 in
theorem w30_44 {d : Nat} {st : List Value} {Q : Option Value × jW → Prop} {ls : jL} {w : jW} : Wp d 30 44 ls (st) w Q = Wp d 30 45 ls (.int (nI 1) :: st) w Q := Wp.alu e30_44 rfl rfl
theorem e30_45 : decode (j_co 30) 45 = .ok (.goto 4, 3) := by decide +kernel
set_option maxRecDepth 20000 in
theorem w30_45 {d : Nat} {st : List Value} {Q : Option Value × jW → Prop} {ls : jL} {w : jW} : Wp d 30 45 ls (st) w Q = Wp d 30 49 ls (st) w Q := Wp.br e30_45 (Or.inl rfl) rfl rfl rfl rfl
theorem e30_48 : decode (j_co 30) 48 = .ok (.iconst 0, 1) := by decide +kernel
set_option maxRecDepth 20000 in
theorem w30_48 {d : Nat} {st : List Value} {Q : Option Value × jW → Prop} {ls : jL} {w : jW} : Wp d 30 48 ls (st) w Q = Wp d 30 49 ls (.int (nI 0) :: st) w Q := Wp.alu e30_48 rfl rfl
theorem e30_49 : decode (j_co 30) 49 = .ok (.ireturn, 1) := by decide +kernel
set_option maxRecDepth 20000 in
theorem w30_49 {d : Nat} {Q : Option Value × jW → Prop} {ls : jL} {w : jW} {x : Int32} (hx : x = 0 ∨ x = 1) : Wp d 30 49 ls [.int x] w Q = Q (some (.int x), w) := Wp.ret e30_49 (by rcases hx with rfl | rfl <;> rfl)
/-! Search.add -/
theorem e38_0 : decode (j_co 38) 0 = .ok (.aload_n 0, 1) := by decide +kernel
set_option maxRecDepth 20000 in
theorem w38_0 {d : Nat} {st : List Value} {Q : Option Value × jW → Prop} {w : jW} {a1 a2 a3 a4 : Option Value} {x : Nat} : Wp d 38 0 [some (.ref x), a1, a2, a3, a4] (st) w Q = Wp d 38 1 [some (.ref x), a1, a2, a3, a4] (.ref x :: st) w Q := Wp.loc e38_0 rfl rfl rfl
theorem e38_1 : decode (j_co 38) 1 = .ok (.getfield 44, 3) := by decide +kernel
set_option maxRecDepth 20000 in
theorem w38_1 {d : Nat} {st : List Value} {Q : Option Value × jW → Prop} {ls : jL} {xs : List Value} {I : fI} {L : fL} {o : Nat} (ht : f_tg o = 7) : Wp d 38 1 ls (.ref o :: st) (f_W xs I L) Q = Wp d 38 4 ls (.int (I o 6) :: st) (f_W xs I L) Q := Wp.getI (ci := 7) (k := 6) e38_1 rfl (by decide) (by decide) (by decide) ht
theorem e38_4 : decode (j_co 38) 4 = .ok (.bipush 64, 2) := by decide +kernel
set_option maxRecDepth 20000 in
theorem w38_4 {d : Nat} {st : List Value} {Q : Option Value × jW → Prop} {ls : jL} {w : jW} : Wp d 38 4 ls (st) w Q = Wp d 38 6 ls (.int (nI 64) :: st) w Q := Wp.alu e38_4 rfl rfl
theorem e38_6 : decode (j_co 38) 6 = .ok (.if_icmp .lt 9, 3) := by decide +kernel
set_option maxRecDepth 20000 in
theorem w38_6 {d : Nat} {st : List Value} {Q : Option Value × jW → Prop} {ls : jL} {w : jW} {a b : Int32} : Wp d 38 6 ls (.int b :: .int a :: st) w Q = ((a < b → Wp d 38 15 ls st w Q) ∧ (¬ a < b → Wp d 38 9 ls st w Q)) := Wp.if2 (c := a < b) (off := 9) e38_6 rfl rfl rfl rfl rfl
theorem e38_9 : decode (j_co 38) 9 = .ok (.aload_n 0, 1) := by decide +kernel
set_option maxRecDepth 20000 in
theorem w38_9 {d : Nat} {st : List Value} {Q : Option Value × jW → Prop} {w : jW} {a1 a2 a3 a4 : Option Value} {x : Nat} : Wp d 38 9 [some (.ref x), a1, a2, a3, a4] (st) w Q = Wp d 38 10 [some (.ref x), a1, a2, a3, a4] (.ref x :: st) w Q := Wp.loc e38_9 rfl rfl rfl
theorem e38_10 : decode (j_co 38) 10 = .ok (.iconst 1, 1) := by decide +kernel
set_option maxRecDepth 20000 in
theorem w38_10 {d : Nat} {st : List Value} {Q : Option Value × jW → Prop} {ls : jL} {w : jW} : Wp d 38 10 ls (st) w Q = Wp d 38 11 ls (.int (nI 1) :: st) w Q := Wp.alu e38_10 rfl rfl
theorem e38_11 : decode (j_co 38) 11 = .ok (.putfield 50, 3) := by decide +kernel
set_option maxRecDepth 20000 in
theorem w38_11 {d : Nat} {st : List Value} {Q : Option Value × jW → Prop} {ls : jL} {xs : List Value} {I : fI} {L : fL} {o : Nat} {x : Int32} (ht : f_tg o = 7) (hx : x = 0 ∨ x = 1) : Wp d 38 11 ls (.int x :: .ref o :: st) (f_W xs I L) Q = Wp d 38 14 ls (st) (f_W xs (f_up I o 8 x) L) Q := Wp.putI (ci := 7) (k := 8) e38_11 rfl (by decide) (by decide) (by rcases hx with rfl | rfl <;> rfl) (by decide) ht
theorem e38_14 : decode (j_co 38) 14 = .ok (.return_, 1) := by decide +kernel
set_option maxRecDepth 20000 in
theorem w38_14 {d : Nat} {Q : Option Value × jW → Prop} {ls : jL} {w : jW} : Wp d 38 14 ls [] w Q = Q (none, w) := Wp.ret e38_14 rfl
theorem e38_15 : decode (j_co 38) 15 = .ok (.aload_n 0, 1) := by decide +kernel
set_option maxRecDepth 20000 in
theorem w38_15 {d : Nat} {st : List Value} {Q : Option Value × jW → Prop} {w : jW} {a1 a2 a3 a4 : Option Value} {x : Nat} : Wp d 38 15 [some (.ref x), a1, a2, a3, a4] (st) w Q = Wp d 38 16 [some (.ref x), a1, a2, a3, a4] (.ref x :: st) w Q := Wp.loc e38_15 rfl rfl rfl
theorem e38_16 : decode (j_co 38) 16 = .ok (.getfield 11, 3) := by decide +kernel
set_option maxRecDepth 20000 in
theorem w38_16 {d : Nat} {st : List Value} {Q : Option Value × jW → Prop} {ls : jL} {xs : List Value} {I : fI} {L : fL} {o : Nat} (ht : f_tg o = 7) : Wp d 38 16 ls (.ref o :: st) (f_W xs I L) Q = Wp d 38 19 ls (.ref (f_rf o 1) :: st) (f_W xs I L) Q := Wp.getR (ci := 7) (k := 1) e38_16 rfl (by decide) (by decide) rfl ht
theorem e38_19 : decode (j_co 38) 19 = .ok (.aload_n 0, 1) := by decide +kernel
set_option maxRecDepth 20000 in
theorem w38_19 {d : Nat} {st : List Value} {Q : Option Value × jW → Prop} {w : jW} {a1 a2 a3 a4 : Option Value} {x : Nat} : Wp d 38 19 [some (.ref x), a1, a2, a3, a4] (st) w Q = Wp d 38 20 [some (.ref x), a1, a2, a3, a4] (.ref x :: st) w Q := Wp.loc e38_19 rfl rfl rfl
theorem e38_20 : decode (j_co 38) 20 = .ok (.getfield 44, 3) := by decide +kernel
set_option maxRecDepth 20000 in
theorem w38_20 {d : Nat} {st : List Value} {Q : Option Value × jW → Prop} {ls : jL} {xs : List Value} {I : fI} {L : fL} {o : Nat} (ht : f_tg o = 7) : Wp d 38 20 ls (.ref o :: st) (f_W xs I L) Q = Wp d 38 23 ls (.int (I o 6) :: st) (f_W xs I L) Q := Wp.getI (ci := 7) (k := 6) e38_20 rfl (by decide) (by decide) (by decide) ht
theorem e38_23 : decode (j_co 38) 23 = .ok (.aaload, 1) := by decide +kernel
set_option maxRecDepth 20000 in
theorem w38_23 {d : Nat} {st : List Value} {Q : Option Value × jW → Prop} {ls : jL} {xs : List Value} {I : fI} {L : fL} {o : Nat} {i : Int32} (ht : 103 ≤ f_tg o ∧ f_tg o ≤ 106) (hi : ¬ (i < 0 ∨ f_ln o ≤ i.toNatClampNeg)) : Wp d 38 23 ls (.int i :: .ref o :: st) (f_W xs I L) Q = Wp d 38 24 ls (.ref (f_rf o i.toNatClampNeg) :: st) (f_W xs I L) Q := Wp.aald e38_23 rfl ht hi
theorem e38_24 : decode (j_co 38) 24 = .ok (.astore 4, 2) := by decide +kernel
set_option maxRecDepth 20000 in
theorem w38_24 {d : Nat} {st : List Value} {Q : Option Value × jW → Prop} {w : jW} {a0 a1 a2 a3 a4 : Option Value} {x : Nat} (h : j_cp a3) : Wp d 38 24 [a0, a1, a2, a3, a4] (.ref x :: st) w Q = Wp d 38 26 [a0, a1, a2, a3, some (.ref x)] (st) w Q := Wp.loc e38_24 rfl rfl (v_stA (ls := [a0, a1, a2, a3, a4]) (k := 4) (show 4 < 5 by decide) h)
theorem e38_26 : decode (j_co 38) 26 = .ok (.aload 4, 2) := by decide +kernel
set_option maxRecDepth 20000 in
theorem w38_26 {d : Nat} {st : List Value} {Q : Option Value × jW → Prop} {w : jW} {a0 a1 a2 a3 : Option Value} {x : Nat} : Wp d 38 26 [a0, a1, a2, a3, some (.ref x)] (st) w Q = Wp d 38 28 [a0, a1, a2, a3, some (.ref x)] (.ref x :: st) w Q := Wp.loc e38_26 rfl rfl rfl
theorem e38_28 : decode (j_co 38) 28 = .ok (.getfield 79, 3) := by decide +kernel
set_option maxRecDepth 20000 in
theorem w38_28 {d : Nat} {st : List Value} {Q : Option Value × jW → Prop} {ls : jL} {xs : List Value} {I : fI} {L : fL} {o : Nat} (ht : f_tg o = 3) : Wp d 38 28 ls (.ref o :: st) (f_W xs I L) Q = Wp d 38 31 ls (.ref (f_rf o 0) :: st) (f_W xs I L) Q := Wp.getR (ci := 3) (k := 0) e38_28 rfl (by decide) (by decide) rfl ht
theorem e38_31 : decode (j_co 38) 31 = .ok (.aload_n 0, 1) := by decide +kernel
set_option maxRecDepth 20000 in
theorem w38_31 {d : Nat} {st : List Value} {Q : Option Value × jW → Prop} {w : jW} {a1 a2 a3 a4 : Option Value} {x : Nat} : Wp d 38 31 [some (.ref x), a1, a2, a3, a4] (st) w Q = Wp d 38 32 [some (.ref x), a1, a2, a3, a4] (.ref x :: st) w Q := Wp.loc e38_31 rfl rfl rfl
theorem e38_32 : decode (j_co 38) 32 = .ok (.getfield 24, 3) := by decide +kernel
set_option maxRecDepth 20000 in
theorem w38_32 {d : Nat} {st : List Value} {Q : Option Value × jW → Prop} {ls : jL} {xs : List Value} {I : fI} {L : fL} {o : Nat} (ht : f_tg o = 7) : Wp d 38 32 ls (.ref o :: st) (f_W xs I L) Q = Wp d 38 35 ls (.ref (f_rf o 3) :: st) (f_W xs I L) Q := Wp.getR (ci := 7) (k := 3) e38_32 rfl (by decide) (by decide) rfl ht
theorem e38_35 : decode (j_co 38) 35 = .ok (.invokevirtual 133, 3) := by decide +kernel
set_option maxRecDepth 20000 in
theorem w38_35 {d : Nat} {st : List Value} {Q : Option Value × jW → Prop} {ls : jL} {xs : List Value} {I : fI} {L : fL} {r : Nat} {x0 : Nat} (hs : j_sumc st ≤ 8) (ht : f_tg r = 0) : Wp (d + 1) 38 35 ls (.ref x0 :: .ref r :: st) (f_W xs I L) Q = Wp d 31 0 [some (.ref r), some (.ref x0), none] [] (f_W xs I L) (fun r1 => Wp (d + 1) 38 38 ls (r1.1.toList ++ st) r1.2 Q) := Wp.cv (y' := 31) (as := [.ref x0]) e38_35 rfl (by decide) rfl (show 2 ≤ 3 by decide) (by decide) hs ht
theorem e38_38 : decode (j_co 38) 38 = .ok (.aload 4, 2) := by decide +kernel
set_option maxRecDepth 20000 in
theorem w38_38 {d : Nat} {st : List Value} {Q : Option Value × jW → Prop} {w : jW} {a0 a1 a2 a3 : Option Value} {x : Nat} : Wp d 38 38 [a0, a1, a2, a3, some (.ref x)] (st) w Q = Wp d 38 40 [a0, a1, a2, a3, some (.ref x)] (.ref x :: st) w Q := Wp.loc e38_38 rfl rfl rfl
theorem e38_40 : decode (j_co 38) 40 = .ok (.iload_n 1, 1) := by decide +kernel
set_option maxRecDepth 20000 in
theorem w38_40 {d : Nat} {st : List Value} {Q : Option Value × jW → Prop} {w : jW} {a0 a2 a3 a4 : Option Value} {x : Int32} : Wp d 38 40 [a0, some (.int x), a2, a3, a4] (st) w Q = Wp d 38 41 [a0, some (.int x), a2, a3, a4] (.int x :: st) w Q := Wp.loc e38_40 rfl rfl rfl
theorem e38_41 : decode (j_co 38) 41 = .ok (.putfield 76, 3) := by decide +kernel
set_option maxRecDepth 20000 in
theorem w38_41 {d : Nat} {st : List Value} {Q : Option Value × jW → Prop} {ls : jL} {xs : List Value} {I : fI} {L : fL} {o : Nat} {x : Int32} (ht : f_tg o = 3) : Wp d 38 41 ls (.int x :: .ref o :: st) (f_W xs I L) Q = Wp d 38 44 ls (st) (f_W xs (f_up I o 1 x) L) Q := Wp.putI (ci := 3) (k := 1) e38_41 rfl (by decide) (by decide) rfl (by decide) ht
theorem e38_44 : decode (j_co 38) 44 = .ok (.aload 4, 2) := by decide +kernel
set_option maxRecDepth 20000 in
theorem w38_44 {d : Nat} {st : List Value} {Q : Option Value × jW → Prop} {w : jW} {a0 a1 a2 a3 : Option Value} {x : Nat} : Wp d 38 44 [a0, a1, a2, a3, some (.ref x)] (st) w Q = Wp d 38 46 [a0, a1, a2, a3, some (.ref x)] (.ref x :: st) w Q := Wp.loc e38_44 rfl rfl rfl
theorem e38_46 : decode (j_co 38) 46 = .ok (.iload_n 2, 1) := by decide +kernel
set_option maxRecDepth 20000 in
theorem w38_46 {d : Nat} {st : List Value} {Q : Option Value × jW → Prop} {w : jW} {a0 a1 a3 a4 : Option Value} {x : Int32} : Wp d 38 46 [a0, a1, some (.int x), a3, a4] (st) w Q = Wp d 38 47 [a0, a1, some (.int x), a3, a4] (.int x :: st) w Q := Wp.loc e38_46 rfl rfl rfl
theorem e38_47 : decode (j_co 38) 47 = .ok (.putfield 170, 3) := by decide +kernel
set_option maxRecDepth 20000 in
theorem w38_47 {d : Nat} {st : List Value} {Q : Option Value × jW → Prop} {ls : jL} {xs : List Value} {I : fI} {L : fL} {o : Nat} {x : Int32} (ht : f_tg o = 3) : Wp d 38 47 ls (.int x :: .ref o :: st) (f_W xs I L) Q = Wp d 38 50 ls (st) (f_W xs (f_up I o 2 x) L) Q := Wp.putI (ci := 3) (k := 2) e38_47 rfl (by decide) (by decide) rfl (by decide) ht
theorem e38_50 : decode (j_co 38) 50 = .ok (.aload 4, 2) := by decide +kernel
set_option maxRecDepth 20000 in
theorem w38_50 {d : Nat} {st : List Value} {Q : Option Value × jW → Prop} {w : jW} {a0 a1 a2 a3 : Option Value} {x : Nat} : Wp d 38 50 [a0, a1, a2, a3, some (.ref x)] (st) w Q = Wp d 38 52 [a0, a1, a2, a3, some (.ref x)] (.ref x :: st) w Q := Wp.loc e38_50 rfl rfl rfl
theorem e38_52 : decode (j_co 38) 52 = .ok (.iload_n 3, 1) := by decide +kernel
set_option maxRecDepth 20000 in
theorem w38_52 {d : Nat} {st : List Value} {Q : Option Value × jW → Prop} {w : jW} {a0 a1 a2 a4 : Option Value} {x : Int32} : Wp d 38 52 [a0, a1, a2, some (.int x), a4] (st) w Q = Wp d 38 53 [a0, a1, a2, some (.int x), a4] (.int x :: st) w Q := Wp.loc e38_52 rfl rfl rfl
theorem e38_53 : decode (j_co 38) 53 = .ok (.putfield 173, 3) := by decide +kernel
set_option maxRecDepth 20000 in
theorem w38_53 {d : Nat} {st : List Value} {Q : Option Value × jW → Prop} {ls : jL} {xs : List Value} {I : fI} {L : fL} {o : Nat} {x : Int32} (ht : f_tg o = 3) : Wp d 38 53 ls (.int x :: .ref o :: st) (f_W xs I L) Q = Wp d 38 56 ls (st) (f_W xs (f_up I o 3 x) L) Q := Wp.putI (ci := 3) (k := 3) e38_53 rfl (by decide) (by decide) rfl (by decide) ht
theorem e38_56 : decode (j_co 38) 56 = .ok (.aload 4, 2) := by decide +kernel
set_option maxRecDepth 20000 in
theorem w38_56 {d : Nat} {st : List Value} {Q : Option Value × jW → Prop} {w : jW} {a0 a1 a2 a3 : Option Value} {x : Nat} : Wp d 38 56 [a0, a1, a2, a3, some (.ref x)] (st) w Q = Wp d 38 58 [a0, a1, a2, a3, some (.ref x)] (.ref x :: st) w Q := Wp.loc e38_56 rfl rfl rfl
theorem e38_58 : decode (j_co 38) 58 = .ok (.iconst 0, 1) := by decide +kernel
set_option maxRecDepth 20000 in
theorem w38_58 {d : Nat} {st : List Value} {Q : Option Value × jW → Prop} {ls : jL} {w : jW} : Wp d 38 58 ls (st) w Q = Wp d 38 59 ls (.int (nI 0) :: st) w Q := Wp.alu e38_58 rfl rfl
theorem e38_59 : decode (j_co 38) 59 = .ok (.putfield 126, 3) := by decide +kernel
set_option maxRecDepth 20000 in
theorem w38_59 {d : Nat} {st : List Value} {Q : Option Value × jW → Prop} {ls : jL} {xs : List Value} {I : fI} {L : fL} {o : Nat} {x : Int32} (ht : f_tg o = 3) (hx : x = 0 ∨ x = 1) : Wp d 38 59 ls (.int x :: .ref o :: st) (f_W xs I L) Q = Wp d 38 62 ls (st) (f_W xs (f_up I o 4 x) L) Q := Wp.putI (ci := 3) (k := 4) e38_59 rfl (by decide) (by decide) (by rcases hx with rfl | rfl <;> rfl) (by decide) ht
theorem e38_62 : decode (j_co 38) 62 = .ok (.aload 4, 2) := by decide +kernel
set_option maxRecDepth 20000 in
theorem w38_62 {d : Nat} {st : List Value} {Q : Option Value × jW → Prop} {w : jW} {a0 a1 a2 a3 : Option Value} {x : Nat} : Wp d 38 62 [a0, a1, a2, a3, some (.ref x)] (st) w Q = Wp d 38 64 [a0, a1, a2, a3, some (.ref x)] (.ref x :: st) w Q := Wp.loc e38_62 rfl rfl rfl
theorem e38_64 : decode (j_co 38) 64 = .ok (.iconst 0, 1) := by decide +kernel
set_option maxRecDepth 20000 in
theorem w38_64 {d : Nat} {st : List Value} {Q : Option Value × jW → Prop} {ls : jL} {w : jW} : Wp d 38 64 ls (st) w Q = Wp d 38 65 ls (.int (nI 0) :: st) w Q := Wp.alu e38_64 rfl rfl
theorem e38_65 : decode (j_co 38) 65 = .ok (.putfield 167, 3) := by decide +kernel
set_option maxRecDepth 20000 in
theorem w38_65 {d : Nat} {st : List Value} {Q : Option Value × jW → Prop} {ls : jL} {xs : List Value} {I : fI} {L : fL} {o : Nat} {x : Int32} (ht : f_tg o = 3) (hx : x = 0 ∨ x = 1) : Wp d 38 65 ls (.int x :: .ref o :: st) (f_W xs I L) Q = Wp d 38 68 ls (st) (f_W xs (f_up I o 5 x) L) Q := Wp.putI (ci := 3) (k := 5) e38_65 rfl (by decide) (by decide) (by rcases hx with rfl | rfl <;> rfl) (by decide) ht
theorem e38_68 : decode (j_co 38) 68 = .ok (.aload_n 0, 1) := by decide +kernel
set_option maxRecDepth 20000 in
theorem w38_68 {d : Nat} {st : List Value} {Q : Option Value × jW → Prop} {w : jW} {a1 a2 a3 a4 : Option Value} {x : Nat} : Wp d 38 68 [some (.ref x), a1, a2, a3, a4] (st) w Q = Wp d 38 69 [some (.ref x), a1, a2, a3, a4] (.ref x :: st) w Q := Wp.loc e38_68 rfl rfl rfl
theorem e38_69 : decode (j_co 38) 69 = .ok (.dup, 1) := by decide +kernel
set_option maxRecDepth 20000 in
theorem w38_69 {d : Nat} {st : List Value} {Q : Option Value × jW → Prop} {ls : jL} {w : jW} {a : Int32} : Wp d 38 69 ls (.int a :: st) w Q = Wp d 38 70 ls (.int a :: .int a :: st) w Q := Wp.alu e38_69 rfl rfl
set_option maxRecDepth 20000 in
theorem w38_69r {d : Nat} {st : List Value} {Q : Option Value × jW → Prop} {ls : jL} {w : jW} {a : Nat} : Wp d 38 69 ls (.ref a :: st) w Q = Wp d 38 70 ls (.ref a :: .ref a :: st) w Q := Wp.alu e38_69 rfl rfl
theorem e38_70 : decode (j_co 38) 70 = .ok (.getfield 44, 3) := by decide +kernel
set_option maxRecDepth 20000 in
theorem w38_70 {d : Nat} {st : List Value} {Q : Option Value × jW → Prop} {ls : jL} {xs : List Value} {I : fI} {L : fL} {o : Nat} (ht : f_tg o = 7) : Wp d 38 70 ls (.ref o :: st) (f_W xs I L) Q = Wp d 38 73 ls (.int (I o 6) :: st) (f_W xs I L) Q := Wp.getI (ci := 7) (k := 6) e38_70 rfl (by decide) (by decide) (by decide) ht
theorem e38_73 : decode (j_co 38) 73 = .ok (.iconst 1, 1) := by decide +kernel
set_option maxRecDepth 20000 in
theorem w38_73 {d : Nat} {st : List Value} {Q : Option Value × jW → Prop} {ls : jL} {w : jW} : Wp d 38 73 ls (st) w Q = Wp d 38 74 ls (.int (nI 1) :: st) w Q := Wp.alu e38_73 rfl rfl
theorem e38_74 : decode (j_co 38) 74 = .ok (.iadd, 1) := by decide +kernel
set_option maxRecDepth 20000 in
theorem w38_74 {d : Nat} {st : List Value} {Q : Option Value × jW → Prop} {ls : jL} {w : jW} {a b : Int32} : Wp d 38 74 ls (.int b :: .int a :: st) w Q = Wp d 38 75 ls (.int (a + b) :: st) w Q := Wp.alu e38_74 rfl rfl
theorem e38_75 : decode (j_co 38) 75 = .ok (.putfield 44, 3) := by decide +kernel
set_option maxRecDepth 20000 in
theorem w38_75 {d : Nat} {st : List Value} {Q : Option Value × jW → Prop} {ls : jL} {xs : List Value} {I : fI} {L : fL} {o : Nat} {x : Int32} (ht : f_tg o = 7) : Wp d 38 75 ls (.int x :: .ref o :: st) (f_W xs I L) Q = Wp d 38 78 ls (st) (f_W xs (f_up I o 6 x) L) Q := Wp.putI (ci := 7) (k := 6) e38_75 rfl (by decide) (by decide) rfl (by decide) ht
theorem e38_78 : decode (j_co 38) 78 = .ok (.return_, 1) := by decide +kernel
set_option maxRecDepth 20000 in
theorem w38_78 {d : Nat} {Q : Option Value × jW → Prop} {ls : jL} {w : jW} : Wp d 38 78 ls [] w Q = Q (none, w) := Wp.ret e38_78 rfl
/-! Search.workAll -/
theorem e39_0 : decode (j_co 39) 0 = .ok (.iconst 0, 1) := by decide +kernel
set_option maxRecDepth 20000 in
theorem w39_0 {d : Nat} {st : List Value} {Q : Option Value × jW → Prop} {ls : jL} {w : jW} : Wp d 39 0 ls (st) w Q = Wp d 39 1 ls (.int (nI 0) :: st) w Q := Wp.alu e39_0 rfl rfl
theorem e39_1 : decode (j_co 39) 1 = .ok (.istore_n 1, 1) := by decide +kernel
set_option maxRecDepth 20000 in
theorem w39_1 {d : Nat} {st : List Value} {Q : Option Value × jW → Prop} {w : jW} {a0 a1 a2 : Option Value} {x : Int32} (h : j_cp a0) : Wp d 39 1 [a0, a1, a2] (.int x :: st) w Q = Wp d 39 2 [a0, some (.int x), a2] (st) w Q := Wp.loc e39_1 rfl rfl (v_stI (ls := [a0, a1, a2]) (k := 1) (show 1 < 3 by decide) h)
theorem e39_2 : decode (j_co 39) 2 = .ok (.iload_n 1, 1) := by decide +kernel
set_option maxRecDepth 20000 in
theorem w39_2 {d : Nat} {st : List Value} {Q : Option Value × jW → Prop} {w : jW} {a0 a2 : Option Value} {x : Int32} : Wp d 39 2 [a0, some (.int x), a2] (st) w Q = Wp d 39 3 [a0, some (.int x), a2] (.int x :: st) w Q := Wp.loc e39_2 rfl rfl rfl
theorem e39_3 : decode (j_co 39) 3 = .ok (.sipush 500, 3) := by decide +kernel
set_option maxRecDepth 20000 in
theorem w39_3 {d : Nat} {st : List Value} {Q : Option Value × jW → Prop} {ls : jL} {w : jW} : Wp d 39 3 ls (st) w Q = Wp d 39 6 ls (.int (nI 500) :: st) w Q := Wp.alu e39_3 rfl rfl
theorem e39_6 : decode (j_co 39) 6 = .ok (.if_icmp .gt 49, 3) := by decide +kernel
set_option maxRecDepth 20000 in
theorem w39_6 {d : Nat} {st : List Value} {Q : Option Value × jW → Prop} {ls : jL} {w : jW} {a b : Int32} : Wp d 39 6 ls (.int b :: .int a :: st) w Q = ((b < a → Wp d 39 55 ls st w Q) ∧ (¬ b < a → Wp d 39 9 ls st w Q)) := Wp.if2 (c := b < a) (off := 49) e39_6 rfl rfl rfl rfl rfl
theorem e39_9 : decode (j_co 39) 9 = .ok (.aload_n 0, 1) := by decide +kernel
set_option maxRecDepth 20000 in
theorem w39_9 {d : Nat} {st : List Value} {Q : Option Value × jW → Prop} {w : jW} {a1 a2 : Option Value} {x : Nat} : Wp d 39 9 [some (.ref x), a1, a2] (st) w Q = Wp d 39 10 [some (.ref x), a1, a2] (.ref x :: st) w Q := Wp.loc e39_9 rfl rfl rfl
theorem e39_10 : decode (j_co 39) 10 = .ok (.invokevirtual 118, 3) := by decide +kernel
set_option maxRecDepth 20000 in
theorem w39_10 {d : Nat} {st : List Value} {Q : Option Value × jW → Prop} {ls : jL} {xs : List Value} {I : fI} {L : fL} {r : Nat} (hs : j_sumc st ≤ 8) (ht : f_tg r = 7) : Wp (d + 1) 39 10 ls (.ref r :: st) (f_W xs I L) Q = Wp d 40 0 [some (.ref r), none] [] (f_W xs I L) (fun r1 => Wp (d + 1) 39 13 ls (r1.1.toList ++ st) r1.2 Q) := Wp.cv (y' := 40) (as := []) e39_10 rfl (by decide) rfl (show 1 ≤ 2 by decide) (by decide) hs ht
theorem e39_13 : decode (j_co 39) 13 = .ok (.istore_n 2, 1) := by decide +kernel
set_option maxRecDepth 20000 in
theorem w39_13 {d : Nat} {st : List Value} {Q : Option Value × jW → Prop} {w : jW} {a0 a1 a2 : Option Value} {x : Int32} (h : j_cp a1) : Wp d 39 13 [a0, a1, a2] (.int x :: st) w Q = Wp d 39 14 [a0, a1, some (.int x)] (st) w Q := Wp.loc e39_13 rfl rfl (v_stI (ls := [a0, a1, a2]) (k := 2) (show 2 < 3 by decide) h)
theorem e39_14 : decode (j_co 39) 14 = .ok (.iload_n 2, 1) := by decide +kernel
set_option maxRecDepth 20000 in
theorem w39_14 {d : Nat} {st : List Value} {Q : Option Value × jW → Prop} {w : jW} {a0 a1 : Option Value} {x : Int32} : Wp d 39 14 [a0, a1, some (.int x)] (st) w Q = Wp d 39 15 [a0, a1, some (.int x)] (.int x :: st) w Q := Wp.loc e39_14 rfl rfl rfl
theorem e39_15 : decode (j_co 39) 15 = .ok (.bipush (-4), 2) := by decide +kernel
set_option maxRecDepth 20000 in
theorem w39_15 {d : Nat} {st : List Value} {Q : Option Value × jW → Prop} {ls : jL} {w : jW} : Wp d 39 15 ls (st) w Q = Wp d 39 17 ls (.int (-4) :: st) w Q := Wp.alu e39_15 rfl rfl
theorem e39_17 : decode (j_co 39) 17 = .ok (.if_icmp .eq 10, 3) := by decide +kernel
set_option maxRecDepth 20000 in
theorem w39_17 {d : Nat} {st : List Value} {Q : Option Value × jW → Prop} {ls : jL} {w : jW} {a b : Int32} : Wp d 39 17 ls (.int b :: .int a :: st) w Q = ((a = b → Wp d 39 27 ls st w Q) ∧ (¬ a = b → Wp d 39 20 ls st w Q)) := Wp.if2 (c := a = b) (off := 10) e39_17 rfl rfl rfl rfl rfl
theorem e39_20 : decode (j_co 39) 20 = .ok (.aload_n 0, 1) := by decide +kernel
set_option maxRecDepth 20000 in
theorem w39_20 {d : Nat} {st : List Value} {Q : Option Value × jW → Prop} {w : jW} {a1 a2 : Option Value} {x : Nat} : Wp d 39 20 [some (.ref x), a1, a2] (st) w Q = Wp d 39 21 [some (.ref x), a1, a2] (.ref x :: st) w Q := Wp.loc e39_20 rfl rfl rfl
theorem e39_21 : decode (j_co 39) 21 = .ok (.getfield 50, 3) := by decide +kernel
set_option maxRecDepth 20000 in
theorem w39_21 {d : Nat} {st : List Value} {Q : Option Value × jW → Prop} {ls : jL} {xs : List Value} {I : fI} {L : fL} {o : Nat} (ht : f_tg o = 7) : Wp d 39 21 ls (.ref o :: st) (f_W xs I L) Q = Wp d 39 24 ls (.int (I o 8) :: st) (f_W xs I L) Q := Wp.getI (ci := 7) (k := 8) e39_21 rfl (by decide) (by decide) (by decide) ht
theorem e39_24 : decode (j_co 39) 24 = .ok (.ifCond .eq 4, 3) := by decide +kernel
set_option maxRecDepth 20000 in
theorem w39_24 {d : Nat} {st : List Value} {Q : Option Value × jW → Prop} {ls : jL} {w : jW} {a : Int32} : Wp d 39 24 ls (.int a :: st) w Q = ((a = nI 0 → Wp d 39 28 ls st w Q) ∧ (¬ a = nI 0 → Wp d 39 27 ls st w Q)) := Wp.if2 (c := a = nI 0) (off := 4) e39_24 rfl rfl rfl rfl rfl
theorem e39_27 : decode (j_co 39) 27 = .ok (.return_, 1) := by decide +kernel
set_option maxRecDepth 20000 in
theorem w39_27 {d : Nat} {Q : Option Value × jW → Prop} {ls : jL} {w : jW} : Wp d 39 27 ls [] w Q = Q (none, w) := Wp.ret e39_27 rfl
theorem e39_28 : decode (j_co 39) 28 = .ok (.aload_n 0, 1) := by decide +kernel
set_option maxRecDepth 20000 in
theorem w39_28 {d : Nat} {st : List Value} {Q : Option Value × jW → Prop} {w : jW} {a1 a2 : Option Value} {x : Nat} : Wp d 39 28 [some (.ref x), a1, a2] (st) w Q = Wp d 39 29 [some (.ref x), a1, a2] (.ref x :: st) w Q := Wp.loc e39_28 rfl rfl rfl
theorem e39_29 : decode (j_co 39) 29 = .ok (.getfield 47, 3) := by decide +kernel
set_option maxRecDepth 20000 in
theorem w39_29 {d : Nat} {st : List Value} {Q : Option Value × jW → Prop} {ls : jL} {xs : List Value} {I : fI} {L : fL} {o : Nat} (ht : f_tg o = 7) : Wp d 39 29 ls (.ref o :: st) (f_W xs I L) Q = Wp d 39 32 ls (.int (I o 7) :: st) (f_W xs I L) Q := Wp.getI (ci := 7) (k := 7) e39_29 rfl (by decide) (by decide) (by decide) ht
theorem e39_32 : decode (j_co 39) 32 = .ok (.sipush 500, 3) := by decide +kernel
set_option maxRecDepth 20000 in
theorem w39_32 {d : Nat} {st : List Value} {Q : Option Value × jW → Prop} {ls : jL} {w : jW} : Wp d 39 32 ls (st) w Q = Wp d 39 35 ls (.int (nI 500) :: st) w Q := Wp.alu e39_32 rfl rfl
theorem e39_35 : decode (j_co 39) 35 = .ok (.if_icmp .lt 9, 3) := by decide +kernel
set_option maxRecDepth 20000 in
theorem w39_35 {d : Nat} {st : List Value} {Q : Option Value × jW → Prop} {ls : jL} {w : jW} {a b : Int32} : Wp d 39 35 ls (.int b :: .int a :: st) w Q = ((a < b → Wp d 39 44 ls st w Q) ∧ (¬ a < b → Wp d 39 38 ls st w Q)) := Wp.if2 (c := a < b) (off := 9) e39_35 rfl rfl rfl rfl rfl
theorem e39_38 : decode (j_co 39) 38 = .ok (.aload_n 0, 1) := by decide +kernel
set_option maxRecDepth 20000 in
theorem w39_38 {d : Nat} {st : List Value} {Q : Option Value × jW → Prop} {w : jW} {a1 a2 : Option Value} {x : Nat} : Wp d 39 38 [some (.ref x), a1, a2] (st) w Q = Wp d 39 39 [some (.ref x), a1, a2] (.ref x :: st) w Q := Wp.loc e39_38 rfl rfl rfl
theorem e39_39 : decode (j_co 39) 39 = .ok (.iconst 1, 1) := by decide +kernel
set_option maxRecDepth 20000 in
theorem w39_39 {d : Nat} {st : List Value} {Q : Option Value × jW → Prop} {ls : jL} {w : jW} : Wp d 39 39 ls (st) w Q = Wp d 39 40 ls (.int (nI 1) :: st) w Q := Wp.alu e39_39 rfl rfl
theorem e39_40 : decode (j_co 39) 40 = .ok (.putfield 50, 3) := by decide +kernel
set_option maxRecDepth 20000 in
theorem w39_40 {d : Nat} {st : List Value} {Q : Option Value × jW → Prop} {ls : jL} {xs : List Value} {I : fI} {L : fL} {o : Nat} {x : Int32} (ht : f_tg o = 7) (hx : x = 0 ∨ x = 1) : Wp d 39 40 ls (.int x :: .ref o :: st) (f_W xs I L) Q = Wp d 39 43 ls (st) (f_W xs (f_up I o 8 x) L) Q := Wp.putI (ci := 7) (k := 8) e39_40 rfl (by decide) (by decide) (by rcases hx with rfl | rfl <;> rfl) (by decide) ht
theorem e39_43 : decode (j_co 39) 43 = .ok (.return_, 1) := by decide +kernel
set_option maxRecDepth 20000 in
theorem w39_43 {d : Nat} {Q : Option Value × jW → Prop} {ls : jL} {w : jW} : Wp d 39 43 ls [] w Q = Q (none, w) := Wp.ret e39_43 rfl
theorem e39_44 : decode (j_co 39) 44 = .ok (.aload_n 0, 1) := by decide +kernel
set_option maxRecDepth 20000 in
theorem w39_44 {d : Nat} {st : List Value} {Q : Option Value × jW → Prop} {w : jW} {a1 a2 : Option Value} {x : Nat} : Wp d 39 44 [some (.ref x), a1, a2] (st) w Q = Wp d 39 45 [some (.ref x), a1, a2] (.ref x :: st) w Q := Wp.loc e39_44 rfl rfl rfl
theorem e39_45 : decode (j_co 39) 45 = .ok (.iload_n 2, 1) := by decide +kernel
set_option maxRecDepth 20000 in
theorem w39_45 {d : Nat} {st : List Value} {Q : Option Value × jW → Prop} {w : jW} {a0 a1 : Option Value} {x : Int32} : Wp d 39 45 [a0, a1, some (.int x)] (st) w Q = Wp d 39 46 [a0, a1, some (.int x)] (.int x :: st) w Q := Wp.loc e39_45 rfl rfl rfl
theorem e39_46 : decode (j_co 39) 46 = .ok (.invokevirtual 122, 3) := by decide +kernel
set_option maxRecDepth 20000 in
theorem w39_46 {d : Nat} {st : List Value} {Q : Option Value × jW → Prop} {ls : jL} {xs : List Value} {I : fI} {L : fL} {r : Nat} {x0 : Int32} (hs : j_sumc st ≤ 8) (ht : f_tg r = 7) : Wp (d + 1) 39 46 ls (.int x0 :: .ref r :: st) (f_W xs I L) Q = Wp d 41 0 [some (.ref r), some (.int x0), none, none, none, none] [] (f_W xs I L) (fun r1 => Wp (d + 1) 39 49 ls (r1.1.toList ++ st) r1.2 Q) := Wp.cv (y' := 41) (as := [.int x0]) e39_46 rfl (by decide) rfl (show 2 ≤ 6 by decide) (by decide) hs ht
theorem e39_49 : decode (j_co 39) 49 = .ok (.iinc 1 1, 3) := by decide +kernel
set_option maxRecDepth 20000 in
theorem w39_49 {d : Nat} {st : List Value} {Q : Option Value × jW → Prop} {w : jW} {a0 a2 : Option Value} {x : Int32} (h : j_cp a0) : Wp d 39 49 [a0, some (.int x), a2] (st) w Q = Wp d 39 52 [a0, some (.int (x + nI 1)), a2] (st) w Q := Wp.loc e39_49 rfl rfl (v_inc (ls := [a0, some (.int x), a2]) (k := 1) (n := 1) rfl (show 1 < 3 by decide) h)
theorem e39_52 : decode (j_co 39) 52 = .ok (.goto (-50), 3) := by decide +kernel
set_option maxRecDepth 20000 in
theorem w39_52 {d : Nat} {st : List Value} {Q : Option Value × jW → Prop} {ls : jL} {w : jW} : Wp d 39 52 ls (st) w Q = Wp d 39 2 ls (st) w Q := Wp.br e39_52 (Or.inl rfl) rfl rfl rfl rfl
theorem e39_55 : decode (j_co 39) 55 = .ok (.return_, 1) := by decide +kernel
set_option maxRecDepth 20000 in
theorem w39_55 {d : Nat} {Q : Option Value × jW → Prop} {ls : jL} {w : jW} : Wp d 39 55 ls [] w Q = Q (none, w) := Wp.ret e39_55 rfl
/-! Search.firstToWork -/
theorem e40_0 : decode (j_co 40) 0 = .ok (.iconst 0, 1) := by decide +kernel
set_option maxRecDepth 20000 in
theorem w40_0 {d : Nat} {st : List Value} {Q : Option Value × jW → Prop} {ls : jL} {w : jW} : Wp d 40 0 ls (st) w Q = Wp d 40 1 ls (.int (nI 0) :: st) w Q := Wp.alu e40_0 rfl rfl
theorem e40_1 : decode (j_co 40) 1 = .ok (.istore_n 1, 1) := by decide +kernel
set_option maxRecDepth 20000 in
theorem w40_1 {d : Nat} {st : List Value} {Q : Option Value × jW → Prop} {w : jW} {a0 a1 : Option Value} {x : Int32} (h : j_cp a0) : Wp d 40 1 [a0, a1] (.int x :: st) w Q = Wp d 40 2 [a0, some (.int x)] (st) w Q := Wp.loc e40_1 rfl rfl (v_stI (ls := [a0, a1]) (k := 1) (show 1 < 2 by decide) h)
theorem e40_2 : decode (j_co 40) 2 = .ok (.iload_n 1, 1) := by decide +kernel
set_option maxRecDepth 20000 in
theorem w40_2 {d : Nat} {st : List Value} {Q : Option Value × jW → Prop} {w : jW} {a0 : Option Value} {x : Int32} : Wp d 40 2 [a0, some (.int x)] (st) w Q = Wp d 40 3 [a0, some (.int x)] (.int x :: st) w Q := Wp.loc e40_2 rfl rfl rfl
theorem e40_3 : decode (j_co 40) 3 = .ok (.aload_n 0, 1) := by decide +kernel
set_option maxRecDepth 20000 in
theorem w40_3 {d : Nat} {st : List Value} {Q : Option Value × jW → Prop} {w : jW} {a1 : Option Value} {x : Nat} : Wp d 40 3 [some (.ref x), a1] (st) w Q = Wp d 40 4 [some (.ref x), a1] (.ref x :: st) w Q := Wp.loc e40_3 rfl rfl rfl
theorem e40_4 : decode (j_co 40) 4 = .ok (.getfield 44, 3) := by decide +kernel
set_option maxRecDepth 20000 in
theorem w40_4 {d : Nat} {st : List Value} {Q : Option Value × jW → Prop} {ls : jL} {xs : List Value} {I : fI} {L : fL} {o : Nat} (ht : f_tg o = 7) : Wp d 40 4 ls (.ref o :: st) (f_W xs I L) Q = Wp d 40 7 ls (.int (I o 6) :: st) (f_W xs I L) Q := Wp.getI (ci := 7) (k := 6) e40_4 rfl (by decide) (by decide) (by decide) ht
theorem e40_7 : decode (j_co 40) 7 = .ok (.if_icmp .ge 23, 3) := by decide +kernel
set_option maxRecDepth 20000 in
theorem w40_7 {d : Nat} {st : List Value} {Q : Option Value × jW → Prop} {ls : jL} {w : jW} {a b : Int32} : Wp d 40 7 ls (.int b :: .int a :: st) w Q = ((b ≤ a → Wp d 40 30 ls st w Q) ∧ (¬ b ≤ a → Wp d 40 10 ls st w Q)) := Wp.if2 (c := b ≤ a) (off := 23) e40_7 rfl rfl rfl rfl rfl
theorem e40_10 : decode (j_co 40) 10 = .ok (.aload_n 0, 1) := by decide +kernel
set_option maxRecDepth 20000 in
theorem w40_10 {d : Nat} {st : List Value} {Q : Option Value × jW → Prop} {w : jW} {a1 : Option Value} {x : Nat} : Wp d 40 10 [some (.ref x), a1] (st) w Q = Wp d 40 11 [some (.ref x), a1] (.ref x :: st) w Q := Wp.loc e40_10 rfl rfl rfl
theorem e40_11 : decode (j_co 40) 11 = .ok (.getfield 11, 3) := by decide +kernel
set_option maxRecDepth 20000 in
theorem w40_11 {d : Nat} {st : List Value} {Q : Option Value × jW → Prop} {ls : jL} {xs : List Value} {I : fI} {L : fL} {o : Nat} (ht : f_tg o = 7) : Wp d 40 11 ls (.ref o :: st) (f_W xs I L) Q = Wp d 40 14 ls (.ref (f_rf o 1) :: st) (f_W xs I L) Q := Wp.getR (ci := 7) (k := 1) e40_11 rfl (by decide) (by decide) rfl ht
theorem e40_14 : decode (j_co 40) 14 = .ok (.iload_n 1, 1) := by decide +kernel
set_option maxRecDepth 20000 in
theorem w40_14 {d : Nat} {st : List Value} {Q : Option Value × jW → Prop} {w : jW} {a0 : Option Value} {x : Int32} : Wp d 40 14 [a0, some (.int x)] (st) w Q = Wp d 40 15 [a0, some (.int x)] (.int x :: st) w Q := Wp.loc e40_14 rfl rfl rfl
theorem e40_15 : decode (j_co 40) 15 = .ok (.aaload, 1) := by decide +kernel
set_option maxRecDepth 20000 in
theorem w40_15 {d : Nat} {st : List Value} {Q : Option Value × jW → Prop} {ls : jL} {xs : List Value} {I : fI} {L : fL} {o : Nat} {i : Int32} (ht : 103 ≤ f_tg o ∧ f_tg o ≤ 106) (hi : ¬ (i < 0 ∨ f_ln o ≤ i.toNatClampNeg)) : Wp d 40 15 ls (.int i :: .ref o :: st) (f_W xs I L) Q = Wp d 40 16 ls (.ref (f_rf o i.toNatClampNeg) :: st) (f_W xs I L) Q := Wp.aald e40_15 rfl ht hi
theorem e40_16 : decode (j_co 40) 16 = .ok (.getfield 126, 3) := by decide +kernel
set_option maxRecDepth 20000 in
theorem w40_16 {d : Nat} {st : List Value} {Q : Option Value × jW → Prop} {ls : jL} {xs : List Value} {I : fI} {L : fL} {o : Nat} (ht : f_tg o = 3) : Wp d 40 16 ls (.ref o :: st) (f_W xs I L) Q = Wp d 40 19 ls (.int (I o 4) :: st) (f_W xs I L) Q := Wp.getI (ci := 3) (k := 4) e40_16 rfl (by decide) (by decide) (by decide) ht
theorem e40_19 : decode (j_co 40) 19 = .ok (.ifCond .ne 5, 3) := by decide +kernel
set_option maxRecDepth 20000 in
theorem w40_19 {d : Nat} {st : List Value} {Q : Option Value × jW → Prop} {ls : jL} {w : jW} {a : Int32} : Wp d 40 19 ls (.int a :: st) w Q = ((a = nI 0 → Wp d 40 22 ls st w Q) ∧ (¬ a = nI 0 → Wp d 40 24 ls st w Q)) := Wp.if2n (c := a = nI 0) (off := 5) e40_19 rfl rfl rfl rfl rfl
theorem e40_22 : decode (j_co 40) 22 = .ok (.iload_n 1, 1) := by decide +kernel
set_option maxRecDepth 20000 in
theorem w40_22 {d : Nat} {st : List Value} {Q : Option Value × jW → Prop} {w : jW} {a0 : Option Value} {x : Int32} : Wp d 40 22 [a0, some (.int x)] (st) w Q = Wp d 40 23 [a0, some (.int x)] (.int x :: st) w Q := Wp.loc e40_22 rfl rfl rfl
theorem e40_23 : decode (j_co 40) 23 = .ok (.ireturn, 1) := by decide +kernel
set_option maxRecDepth 20000 in
theorem w40_23 {d : Nat} {Q : Option Value × jW → Prop} {ls : jL} {w : jW} {x : Int32} : Wp d 40 23 ls [.int x] w Q = Q (some (.int x), w) := Wp.ret e40_23 rfl
theorem e40_24 : decode (j_co 40) 24 = .ok (.iinc 1 1, 3) := by decide +kernel
set_option maxRecDepth 20000 in
theorem w40_24 {d : Nat} {st : List Value} {Q : Option Value × jW → Prop} {w : jW} {a0 : Option Value} {x : Int32} (h : j_cp a0) : Wp d 40 24 [a0, some (.int x)] (st) w Q = Wp d 40 27 [a0, some (.int (x + nI 1))] (st) w Q := Wp.loc e40_24 rfl rfl (v_inc (ls := [a0, some (.int x)]) (k := 1) (n := 1) rfl (show 1 < 2 by decide) h)
theorem e40_27 : decode (j_co 40) 27 = .ok (.goto (-25), 3) := by decide +kernel
set_option maxRecDepth 20000 in
theorem w40_27 {d : Nat} {st : List Value} {Q : Option Value × jW → Prop} {ls : jL} {w : jW} : Wp d 40 27 ls (st) w Q = Wp d 40 2 ls (st) w Q := Wp.br e40_27 (Or.inl rfl) rfl rfl rfl rfl
theorem e40_30 : decode (j_co 40) 30 = .ok (.bipush (-4), 2) := by decide +kernel
set_option maxRecDepth 20000 in
theorem w40_30 {d : Nat} {st : List Value} {Q : Option Value × jW → Prop} {ls : jL} {w : jW} : Wp d 40 30 ls (st) w Q = Wp d 40 32 ls (.int (-4) :: st) w Q := Wp.alu e40_30 rfl rfl
theorem e40_32 : decode (j_co 40) 32 = .ok (.ireturn, 1) := by decide +kernel
set_option maxRecDepth 20000 in
theorem w40_32 {d : Nat} {Q : Option Value × jW → Prop} {ls : jL} {w : jW} {x : Int32} : Wp d 40 32 ls [.int x] w Q = Q (some (.int x), w) := Wp.ret e40_32 rfl
/-! Search.work -/
theorem e41_0 : decode (j_co 41) 0 = .ok (.aload_n 0, 1) := by decide +kernel
set_option maxRecDepth 20000 in
theorem w41_0 {d : Nat} {st : List Value} {Q : Option Value × jW → Prop} {w : jW} {a1 a2 a3 a4 a5 : Option Value} {x : Nat} : Wp d 41 0 [some (.ref x), a1, a2, a3, a4, a5] (st) w Q = Wp d 41 1 [some (.ref x), a1, a2, a3, a4, a5] (.ref x :: st) w Q := Wp.loc e41_0 rfl rfl rfl
theorem e41_1 : decode (j_co 41) 1 = .ok (.iload_n 1, 1) := by decide +kernel
set_option maxRecDepth 20000 in
theorem w41_1 {d : Nat} {st : List Value} {Q : Option Value × jW → Prop} {w : jW} {a0 a2 a3 a4 a5 : Option Value} {x : Int32} : Wp d 41 1 [a0, some (.int x), a2, a3, a4, a5] (st) w Q = Wp d 41 2 [a0, some (.int x), a2, a3, a4, a5] (.int x :: st) w Q := Wp.loc e41_1 rfl rfl rfl
theorem e41_2 : decode (j_co 41) 2 = .ok (.invokevirtual 129, 3) := by decide +kernel
set_option maxRecDepth 20000 in
theorem w41_2 {d : Nat} {st : List Value} {Q : Option Value × jW → Prop} {ls : jL} {xs : List Value} {I : fI} {L : fL} {r : Nat} {x0 : Int32} (hs : j_sumc st ≤ 8) (ht : f_tg r = 7) : Wp (d + 1) 41 2 ls (.int x0 :: .ref r :: st) (f_W xs I L) Q = Wp d 170 0 [some (.ref r), some (.int x0)] [] (f_W xs I L) (fun r1 => Wp (d + 1) 41 5 ls (r1.1.toList ++ st) r1.2 Q) := Wp.cv (y' := 170) (as := [.int x0]) e41_2 rfl (by decide) rfl (show 2 ≤ 2 by decide) (by decide) hs ht
theorem e41_5 : decode (j_co 41) 5 = .ok (.astore_n 2, 1) := by decide +kernel
set_option maxRecDepth 20000 in
theorem w41_5 {d : Nat} {st : List Value} {Q : Option Value × jW → Prop} {w : jW} {a0 a1 a2 a3 a4 a5 : Option Value} {x : Nat} (h : j_cp a1) : Wp d 41 5 [a0, a1, a2, a3, a4, a5] (.ref x :: st) w Q = Wp d 41 6 [a0, a1, some (.ref x), a3, a4, a5] (st) w Q := Wp.loc e41_5 rfl rfl (v_stA (ls := [a0, a1, a2, a3, a4, a5]) (k := 2) (show 2 < 6 by decide) h)
theorem e41_6 : decode (j_co 41) 6 = .ok (.aload_n 2, 1) := by decide +kernel
set_option maxRecDepth 20000 in
theorem w41_6 {d : Nat} {st : List Value} {Q : Option Value × jW → Prop} {w : jW} {a0 a1 a3 a4 a5 : Option Value} {x : Nat} : Wp d 41 6 [a0, a1, some (.ref x), a3, a4, a5] (st) w Q = Wp d 41 7 [a0, a1, some (.ref x), a3, a4, a5] (.ref x :: st) w Q := Wp.loc e41_6 rfl rfl rfl
theorem e41_7 : decode (j_co 41) 7 = .ok (.getfield 76, 3) := by decide +kernel
set_option maxRecDepth 20000 in
theorem w41_7 {d : Nat} {st : List Value} {Q : Option Value × jW → Prop} {ls : jL} {xs : List Value} {I : fI} {L : fL} {o : Nat} (ht : f_tg o = 3) : Wp d 41 7 ls (.ref o :: st) (f_W xs I L) Q = Wp d 41 10 ls (.int (I o 1) :: st) (f_W xs I L) Q := Wp.getI (ci := 3) (k := 1) e41_7 rfl (by decide) (by decide) (by decide) ht
theorem e41_10 : decode (j_co 41) 10 = .ok (.istore_n 3, 1) := by decide +kernel
set_option maxRecDepth 20000 in
theorem w41_10 {d : Nat} {st : List Value} {Q : Option Value × jW → Prop} {w : jW} {a0 a1 a2 a3 a4 a5 : Option Value} {x : Int32} (h : j_cp a2) : Wp d 41 10 [a0, a1, a2, a3, a4, a5] (.int x :: st) w Q = Wp d 41 11 [a0, a1, a2, some (.int x), a4, a5] (st) w Q := Wp.loc e41_10 rfl rfl (v_stI (ls := [a0, a1, a2, a3, a4, a5]) (k := 3) (show 3 < 6 by decide) h)
theorem e41_11 : decode (j_co 41) 11 = .ok (.aload_n 0, 1) := by decide +kernel
set_option maxRecDepth 20000 in
theorem w41_11 {d : Nat} {st : List Value} {Q : Option Value × jW → Prop} {w : jW} {a1 a2 a3 a4 a5 : Option Value} {x : Nat} : Wp d 41 11 [some (.ref x), a1, a2, a3, a4, a5] (st) w Q = Wp d 41 12 [some (.ref x), a1, a2, a3, a4, a5] (.ref x :: st) w Q := Wp.loc e41_11 rfl rfl rfl
theorem e41_12 : decode (j_co 41) 12 = .ok (.dup, 1) := by decide +kernel
set_option maxRecDepth 20000 in
theorem w41_12 {d : Nat} {st : List Value} {Q : Option Value × jW → Prop} {ls : jL} {w : jW} {a : Int32} : Wp d 41 12 ls (.int a :: st) w Q = Wp d 41 13 ls (.int a :: .int a :: st) w Q := Wp.alu e41_12 rfl rfl
set_option maxRecDepth 20000 in
theorem w41_12r {d : Nat} {st : List Value} {Q : Option Value × jW → Prop} {ls : jL} {w : jW} {a : Nat} : Wp d 41 12 ls (.ref a :: st) w Q = Wp d 41 13 ls (.ref a :: .ref a :: st) w Q := Wp.alu e41_12 rfl rfl
theorem e41_13 : decode (j_co 41) 13 = .ok (.getfield 47, 3) := by decide +kernel
set_option maxRecDepth 20000 in
theorem w41_13 {d : Nat} {st : List Value} {Q : Option Value × jW → Prop} {ls : jL} {xs : List Value} {I : fI} {L : fL} {o : Nat} (ht : f_tg o = 7) : Wp d 41 13 ls (.ref o :: st) (f_W xs I L) Q = Wp d 41 16 ls (.int (I o 7) :: st) (f_W xs I L) Q := Wp.getI (ci := 7) (k := 7) e41_13 rfl (by decide) (by decide) (by decide) ht
theorem e41_16 : decode (j_co 41) 16 = .ok (.iconst 1, 1) := by decide +kernel
set_option maxRecDepth 20000 in
theorem w41_16 {d : Nat} {st : List Value} {Q : Option Value × jW → Prop} {ls : jL} {w : jW} : Wp d 41 16 ls (st) w Q = Wp d 41 17 ls (.int (nI 1) :: st) w Q := Wp.alu e41_16 rfl rfl
theorem e41_17 : decode (j_co 41) 17 = .ok (.iadd, 1) := by decide +kernel
set_option maxRecDepth 20000 in
theorem w41_17 {d : Nat} {st : List Value} {Q : Option Value × jW → Prop} {ls : jL} {w : jW} {a b : Int32} : Wp d 41 17 ls (.int b :: .int a :: st) w Q = Wp d 41 18 ls (.int (a + b) :: st) w Q := Wp.alu e41_17 rfl rfl
theorem e41_18 : decode (j_co 41) 18 = .ok (.putfield 47, 3) := by decide +kernel
set_option maxRecDepth 20000 in
theorem w41_18 {d : Nat} {st : List Value} {Q : Option Value × jW → Prop} {ls : jL} {xs : List Value} {I : fI} {L : fL} {o : Nat} {x : Int32} (ht : f_tg o = 7) : Wp d 41 18 ls (.int x :: .ref o :: st) (f_W xs I L) Q = Wp d 41 21 ls (st) (f_W xs (f_up I o 7 x) L) Q := Wp.putI (ci := 7) (k := 7) e41_18 rfl (by decide) (by decide) rfl (by decide) ht
theorem e41_21 : decode (j_co 41) 21 = .ok (.aload_n 2, 1) := by decide +kernel
set_option maxRecDepth 20000 in
theorem w41_21 {d : Nat} {st : List Value} {Q : Option Value × jW → Prop} {w : jW} {a0 a1 a3 a4 a5 : Option Value} {x : Nat} : Wp d 41 21 [a0, a1, some (.ref x), a3, a4, a5] (st) w Q = Wp d 41 22 [a0, a1, some (.ref x), a3, a4, a5] (.ref x :: st) w Q := Wp.loc e41_21 rfl rfl rfl
theorem e41_22 : decode (j_co 41) 22 = .ok (.iconst 1, 1) := by decide +kernel
set_option maxRecDepth 20000 in
theorem w41_22 {d : Nat} {st : List Value} {Q : Option Value × jW → Prop} {ls : jL} {w : jW} : Wp d 41 22 ls (st) w Q = Wp d 41 23 ls (.int (nI 1) :: st) w Q := Wp.alu e41_22 rfl rfl
theorem e41_23 : decode (j_co 41) 23 = .ok (.putfield 126, 3) := by decide +kernel
set_option maxRecDepth 20000 in
theorem w41_23 {d : Nat} {st : List Value} {Q : Option Value × jW → Prop} {ls : jL} {xs : List Value} {I : fI} {L : fL} {o : Nat} {x : Int32} (ht : f_tg o = 3) (hx : x = 0 ∨ x = 1) : Wp d 41 23 ls (.int x :: .ref o :: st) (f_W xs I L) Q = Wp d 41 26 ls (st) (f_W xs (f_up I o 4 x) L) Q := Wp.putI (ci := 3) (k := 4) e41_23 rfl (by decide) (by decide) (by rcases hx with rfl | rfl <;> rfl) (by decide) ht
theorem e41_26 : decode (j_co 41) 26 = .ok (.aload_n 0, 1) := by decide +kernel
set_option maxRecDepth 20000 in
theorem w41_26 {d : Nat} {st : List Value} {Q : Option Value × jW → Prop} {w : jW} {a1 a2 a3 a4 a5 : Option Value} {x : Nat} : Wp d 41 26 [some (.ref x), a1, a2, a3, a4, a5] (st) w Q = Wp d 41 27 [some (.ref x), a1, a2, a3, a4, a5] (.ref x :: st) w Q := Wp.loc e41_26 rfl rfl rfl
theorem e41_27 : decode (j_co 41) 27 = .ok (.getfield 20, 3) := by decide +kernel
set_option maxRecDepth 20000 in
theorem w41_27 {d : Nat} {st : List Value} {Q : Option Value × jW → Prop} {ls : jL} {xs : List Value} {I : fI} {L : fL} {o : Nat} (ht : f_tg o = 7) : Wp d 41 27 ls (.ref o :: st) (f_W xs I L) Q = Wp d 41 30 ls (.ref (f_rf o 2) :: st) (f_W xs I L) Q := Wp.getR (ci := 7) (k := 2) e41_27 rfl (by decide) (by decide) rfl ht
theorem e41_30 : decode (j_co 41) 30 = .ok (.aload_n 2, 1) := by decide +kernel
set_option maxRecDepth 20000 in
theorem w41_30 {d : Nat} {st : List Value} {Q : Option Value × jW → Prop} {w : jW} {a0 a1 a3 a4 a5 : Option Value} {x : Nat} : Wp d 41 30 [a0, a1, some (.ref x), a3, a4, a5] (st) w Q = Wp d 41 31 [a0, a1, some (.ref x), a3, a4, a5] (.ref x :: st) w Q := Wp.loc e41_30 rfl rfl rfl
theorem e41_31 : decode (j_co 41) 31 = .ok (.getfield 79, 3) := by decide +kernel
set_option maxRecDepth 20000 in
theorem w41_31 {d : Nat} {st : List Value} {Q : Option Value × jW → Prop} {ls : jL} {xs : List Value} {I : fI} {L : fL} {o : Nat} (ht : f_tg o = 3) : Wp d 41 31 ls (.ref o :: st) (f_W xs I L) Q = Wp d 41 34 ls (.ref (f_rf o 0) :: st) (f_W xs I L) Q := Wp.getR (ci := 3) (k := 0) e41_31 rfl (by decide) (by decide) rfl ht
theorem e41_34 : decode (j_co 41) 34 = .ok (.invokevirtual 133, 3) := by decide +kernel
set_option maxRecDepth 20000 in
theorem w41_34 {d : Nat} {st : List Value} {Q : Option Value × jW → Prop} {ls : jL} {xs : List Value} {I : fI} {L : fL} {r : Nat} {x0 : Nat} (hs : j_sumc st ≤ 8) (ht : f_tg r = 0) : Wp (d + 1) 41 34 ls (.ref x0 :: .ref r :: st) (f_W xs I L) Q = Wp d 31 0 [some (.ref r), some (.ref x0), none] [] (f_W xs I L) (fun r1 => Wp (d + 1) 41 37 ls (r1.1.toList ++ st) r1.2 Q) := Wp.cv (y' := 31) (as := [.ref x0]) e41_34 rfl (by decide) rfl (show 2 ≤ 3 by decide) (by decide) hs ht
theorem e41_37 : decode (j_co 41) 37 = .ok (.aload_n 0, 1) := by decide +kernel
set_option maxRecDepth 20000 in
theorem w41_37 {d : Nat} {st : List Value} {Q : Option Value × jW → Prop} {w : jW} {a1 a2 a3 a4 a5 : Option Value} {x : Nat} : Wp d 41 37 [some (.ref x), a1, a2, a3, a4, a5] (st) w Q = Wp d 41 38 [some (.ref x), a1, a2, a3, a4, a5] (.ref x :: st) w Q := Wp.loc e41_37 rfl rfl rfl
theorem e41_38 : decode (j_co 41) 38 = .ok (.getfield 35, 3) := by decide +kernel
set_option maxRecDepth 20000 in
theorem w41_38 {d : Nat} {st : List Value} {Q : Option Value × jW → Prop} {ls : jL} {xs : List Value} {I : fI} {L : fL} {o : Nat} (ht : f_tg o = 7) : Wp d 41 38 ls (.ref o :: st) (f_W xs I L) Q = Wp d 41 41 ls (.ref (f_rf o 0) :: st) (f_W xs I L) Q := Wp.getR (ci := 7) (k := 0) e41_38 rfl (by decide) (by decide) rfl ht
theorem e41_41 : decode (j_co 41) 41 = .ok (.iload_n 3, 1) := by decide +kernel
set_option maxRecDepth 20000 in
theorem w41_41 {d : Nat} {st : List Value} {Q : Option Value × jW → Prop} {w : jW} {a0 a1 a2 a4 a5 : Option Value} {x : Int32} : Wp d 41 41 [a0, a1, a2, some (.int x), a4, a5] (st) w Q = Wp d 41 42 [a0, a1, a2, some (.int x), a4, a5] (.int x :: st) w Q := Wp.loc e41_41 rfl rfl rfl
theorem e41_42 : decode (j_co 41) 42 = .ok (.aload_n 0, 1) := by decide +kernel
set_option maxRecDepth 20000 in
theorem w41_42 {d : Nat} {st : List Value} {Q : Option Value × jW → Prop} {w : jW} {a1 a2 a3 a4 a5 : Option Value} {x : Nat} : Wp d 41 42 [some (.ref x), a1, a2, a3, a4, a5] (st) w Q = Wp d 41 43 [some (.ref x), a1, a2, a3, a4, a5] (.ref x :: st) w Q := Wp.loc e41_42 rfl rfl rfl
theorem e41_43 : decode (j_co 41) 43 = .ok (.getfield 20, 3) := by decide +kernel
set_option maxRecDepth 20000 in
theorem w41_43 {d : Nat} {st : List Value} {Q : Option Value × jW → Prop} {ls : jL} {xs : List Value} {I : fI} {L : fL} {o : Nat} (ht : f_tg o = 7) : Wp d 41 43 ls (.ref o :: st) (f_W xs I L) Q = Wp d 41 46 ls (.ref (f_rf o 2) :: st) (f_W xs I L) Q := Wp.getR (ci := 7) (k := 2) e41_43 rfl (by decide) (by decide) rfl ht
theorem e41_46 : decode (j_co 41) 46 = .ok (.aload_n 0, 1) := by decide +kernel
set_option maxRecDepth 20000 in
theorem w41_46 {d : Nat} {st : List Value} {Q : Option Value × jW → Prop} {w : jW} {a1 a2 a3 a4 a5 : Option Value} {x : Nat} : Wp d 41 46 [some (.ref x), a1, a2, a3, a4, a5] (st) w Q = Wp d 41 47 [some (.ref x), a1, a2, a3, a4, a5] (.ref x :: st) w Q := Wp.loc e41_46 rfl rfl rfl
theorem e41_47 : decode (j_co 41) 47 = .ok (.getfield 24, 3) := by decide +kernel
set_option maxRecDepth 20000 in
theorem w41_47 {d : Nat} {st : List Value} {Q : Option Value × jW → Prop} {ls : jL} {xs : List Value} {I : fI} {L : fL} {o : Nat} (ht : f_tg o = 7) : Wp d 41 47 ls (.ref o :: st) (f_W xs I L) Q = Wp d 41 50 ls (.ref (f_rf o 3) :: st) (f_W xs I L) Q := Wp.getR (ci := 7) (k := 3) e41_47 rfl (by decide) (by decide) rfl ht
theorem e41_50 : decode (j_co 41) 50 = .ok (.invokevirtual 136, 3) := by decide +kernel
set_option maxRecDepth 20000 in
theorem w41_50 {d : Nat} {st : List Value} {Q : Option Value × jW → Prop} {ls : jL} {xs : List Value} {I : fI} {L : fL} {r : Nat} {x0 : Int32} {x1 : Nat} {x2 : Nat} (hs : j_sumc st ≤ 8) (ht : f_tg r = 5) : Wp (d + 1) 41 50 ls (.ref x2 :: .ref x1 :: .int x0 :: .ref r :: st) (f_W xs I L) Q = Wp d 42 0 [some (.ref r), some (.int x0), some (.ref x1), some (.ref x2), none] [] (f_W xs I L) (fun r1 => Wp (d + 1) 41 53 ls (r1.1.toList ++ st) r1.2 Q) := Wp.cv (y' := 42) (as := [.int x0, .ref x1, .ref x2]) e41_50 rfl (by decide) rfl (show 4 ≤ 5 by decide) (by decide) hs ht
theorem e41_53 : decode (j_co 41) 53 = .ok (.ifCond .eq 10, 3) := by decide +kernel
set_option maxRecDepth 20000 in
theorem w41_53 {d : Nat} {st : List Value} {Q : Option Value × jW → Prop} {ls : jL} {w : jW} {a : Int32} : Wp d 41 53 ls (.int a :: st) w Q = ((a = nI 0 → Wp d 41 63 ls st w Q) ∧ (¬ a = nI 0 → Wp d 41 56 ls st w Q)) := Wp.if2 (c := a = nI 0) (off := 10) e41_53 rfl rfl rfl rfl rfl
theorem e41_56 : decode (j_co 41) 56 = .ok (.aload_n 0, 1) := by decide +kernel
set_option maxRecDepth 20000 in
theorem w41_56 {d : Nat} {st : List Value} {Q : Option Value × jW → Prop} {w : jW} {a1 a2 a3 a4 a5 : Option Value} {x : Nat} : Wp d 41 56 [some (.ref x), a1, a2, a3, a4, a5] (st) w Q = Wp d 41 57 [some (.ref x), a1, a2, a3, a4, a5] (.ref x :: st) w Q := Wp.loc e41_56 rfl rfl rfl
theorem e41_57 : decode (j_co 41) 57 = .ok (.iload_n 3, 1) := by decide +kernel
set_option maxRecDepth 20000 in
theorem w41_57 {d : Nat} {st : List Value} {Q : Option Value × jW → Prop} {w : jW} {a0 a1 a2 a4 a5 : Option Value} {x : Int32} : Wp d 41 57 [a0, a1, a2, some (.int x), a4, a5] (st) w Q = Wp d 41 58 [a0, a1, a2, some (.int x), a4, a5] (.int x :: st) w Q := Wp.loc e41_57 rfl rfl rfl
theorem e41_58 : decode (j_co 41) 58 = .ok (.iload_n 1, 1) := by decide +kernel
set_option maxRecDepth 20000 in
theorem w41_58 {d : Nat} {st : List Value} {Q : Option Value × jW → Prop} {w : jW} {a0 a2 a3 a4 a5 : Option Value} {x : Int32} : Wp d 41 58 [a0, some (.int x), a2, a3, a4, a5] (st) w Q = Wp d 41 59 [a0, some (.int x), a2, a3, a4, a5] (.int x :: st) w Q := Wp.loc e41_58 rfl rfl rfl
theorem e41_59 : decode (j_co 41) 59 = .ok (.iconst 0, 1) := by decide +kernel
set_option maxRecDepth 20000 in
theorem w41_59 {d : Nat} {st : List Value} {Q : Option Value × jW → Prop} {ls : jL} {w : jW} : Wp d 41 59 ls (st) w Q = Wp d 41 60 ls (.int (nI 0) :: st) w Q := Wp.alu e41_59 rfl rfl
theorem e41_60 : decode (j_co 41) 60 = .ok (.invokevirtual 140, 3) := by decide +kernel
set_option maxRecDepth 20000 in
theorem w41_60 {d : Nat} {st : List Value} {Q : Option Value × jW → Prop} {ls : jL} {xs : List Value} {I : fI} {L : fL} {r : Nat} {x0 : Int32} {x1 : Int32} {x2 : Int32} (hs : j_sumc st ≤ 8) (ht : f_tg r = 7) : Wp (d + 1) 41 60 ls (.int x2 :: .int x1 :: .int x0 :: .ref r :: st) (f_W xs I L) Q = Wp d 44 0 [some (.ref r), some (.int x0), some (.int x1), some (.int x2), none, none, none] [] (f_W xs I L) (fun r1 => Wp (d + 1) 41 63 ls (r1.1.toList ++ st) r1.2 Q) := Wp.cv (y' := 44) (as := [.int x0, .int x1, .int x2]) e41_60 rfl (by decide) rfl (show 4 ≤ 7 by decide) (by decide) hs ht
theorem e41_63 : decode (j_co 41) 63 = .ok (.iconst 0, 1) := by decide +kernel
set_option maxRecDepth 20000 in
theorem w41_63 {d : Nat} {st : List Value} {Q : Option Value × jW → Prop} {ls : jL} {w : jW} : Wp d 41 63 ls (st) w Q = Wp d 41 64 ls (.int (nI 0) :: st) w Q := Wp.alu e41_63 rfl rfl
theorem e41_64 : decode (j_co 41) 64 = .ok (.istore 4, 2) := by decide +kernel
set_option maxRecDepth 20000 in
theorem w41_64 {d : Nat} {st : List Value} {Q : Option Value × jW → Prop} {w : jW} {a0 a1 a2 a3 a4 a5 : Option Value} {x : Int32} (h : j_cp a3) : Wp d 41 64 [a0, a1, a2, a3, a4, a5] (.int x :: st) w Q = Wp d 41 66 [a0, a1, a2, a3, some (.int x), a5] (st) w Q := Wp.loc e41_64 rfl rfl (v_stI (ls := [a0, a1, a2, a3, a4, a5]) (k := 4) (show 4 < 6 by decide) h)
theorem e41_66 : decode (j_co 41) 66 = .ok (.iload 4, 2) := by decide +kernel
set_option maxRecDepth 20000 in
theorem w41_66 {d : Nat} {st : List Value} {Q : Option Value × jW → Prop} {w : jW} {a0 a1 a2 a3 a5 : Option Value} {x : Int32} : Wp d 41 66 [a0, a1, a2, a3, some (.int x), a5] (st) w Q = Wp d 41 68 [a0, a1, a2, a3, some (.int x), a5] (.int x :: st) w Q := Wp.loc e41_66 rfl rfl rfl
theorem e41_68 : decode (j_co 41) 68 = .ok (.aload_n 0, 1) := by decide +kernel
set_option maxRecDepth 20000 in
theorem w41_68 {d : Nat} {st : List Value} {Q : Option Value × jW → Prop} {w : jW} {a1 a2 a3 a4 a5 : Option Value} {x : Nat} : Wp d 41 68 [some (.ref x), a1, a2, a3, a4, a5] (st) w Q = Wp d 41 69 [some (.ref x), a1, a2, a3, a4, a5] (.ref x :: st) w Q := Wp.loc e41_68 rfl rfl rfl
theorem e41_69 : decode (j_co 41) 69 = .ok (.getfield 35, 3) := by decide +kernel
set_option maxRecDepth 20000 in
theorem w41_69 {d : Nat} {st : List Value} {Q : Option Value × jW → Prop} {ls : jL} {xs : List Value} {I : fI} {L : fL} {o : Nat} (ht : f_tg o = 7) : Wp d 41 69 ls (.ref o :: st) (f_W xs I L) Q = Wp d 41 72 ls (.ref (f_rf o 0) :: st) (f_W xs I L) Q := Wp.getR (ci := 7) (k := 0) e41_69 rfl (by decide) (by decide) rfl ht
theorem e41_72 : decode (j_co 41) 72 = .ok (.getfield 143, 3) := by decide +kernel
set_option maxRecDepth 20000 in
theorem w41_72 {d : Nat} {st : List Value} {Q : Option Value × jW → Prop} {ls : jL} {xs : List Value} {I : fI} {L : fL} {o : Nat} (ht : f_tg o = 5) : Wp d 41 72 ls (.ref o :: st) (f_W xs I L) Q = Wp d 41 75 ls (.int (I o 5) :: st) (f_W xs I L) Q := Wp.getI (ci := 5) (k := 5) e41_72 rfl (by decide) (by decide) (by decide) ht
theorem e41_75 : decode (j_co 41) 75 = .ok (.if_icmp .ge 71, 3) := by decide +kernel
set_option maxRecDepth 20000 in
theorem w41_75 {d : Nat} {st : List Value} {Q : Option Value × jW → Prop} {ls : jL} {w : jW} {a b : Int32} : Wp d 41 75 ls (.int b :: .int a :: st) w Q = ((b ≤ a → Wp d 41 146 ls st w Q) ∧ (¬ b ≤ a → Wp d 41 78 ls st w Q)) := Wp.if2 (c := b ≤ a) (off := 71) e41_75 rfl rfl rfl rfl rfl
theorem e41_78 : decode (j_co 41) 78 = .ok (.aload_n 0, 1) := by decide +kernel
set_option maxRecDepth 20000 in
theorem w41_78 {d : Nat} {st : List Value} {Q : Option Value × jW → Prop} {w : jW} {a1 a2 a3 a4 a5 : Option Value} {x : Nat} : Wp d 41 78 [some (.ref x), a1, a2, a3, a4, a5] (st) w Q = Wp d 41 79 [some (.ref x), a1, a2, a3, a4, a5] (.ref x :: st) w Q := Wp.loc e41_78 rfl rfl rfl
theorem e41_79 : decode (j_co 41) 79 = .ok (.getfield 50, 3) := by decide +kernel
set_option maxRecDepth 20000 in
theorem w41_79 {d : Nat} {st : List Value} {Q : Option Value × jW → Prop} {ls : jL} {xs : List Value} {I : fI} {L : fL} {o : Nat} (ht : f_tg o = 7) : Wp d 41 79 ls (.ref o :: st) (f_W xs I L) Q = Wp d 41 82 ls (.int (I o 8) :: st) (f_W xs I L) Q := Wp.getI (ci := 7) (k := 8) e41_79 rfl (by decide) (by decide) (by decide) ht
theorem e41_82 : decode (j_co 41) 82 = .ok (.ifCond .ne 64, 3) := by decide +kernel
set_option maxRecDepth 20000 in
theorem w41_82 {d : Nat} {st : List Value} {Q : Option Value × jW → Prop} {ls : jL} {w : jW} {a : Int32} : Wp d 41 82 ls (.int a :: st) w Q = ((a = nI 0 → Wp d 41 85 ls st w Q) ∧ (¬ a = nI 0 → Wp d 41 146 ls st w Q)) := Wp.if2n (c := a = nI 0) (off := 64) e41_82 rfl rfl rfl rfl rfl
theorem e41_85 : decode (j_co 41) 85 = .ok (.aload_n 0, 1) := by decide +kernel
set_option maxRecDepth 20000 in
theorem w41_85 {d : Nat} {st : List Value} {Q : Option Value × jW → Prop} {w : jW} {a1 a2 a3 a4 a5 : Option Value} {x : Nat} : Wp d 41 85 [some (.ref x), a1, a2, a3, a4, a5] (st) w Q = Wp d 41 86 [some (.ref x), a1, a2, a3, a4, a5] (.ref x :: st) w Q := Wp.loc e41_85 rfl rfl rfl
theorem e41_86 : decode (j_co 41) 86 = .ok (.getfield 35, 3) := by decide +kernel
set_option maxRecDepth 20000 in
theorem w41_86 {d : Nat} {st : List Value} {Q : Option Value × jW → Prop} {ls : jL} {xs : List Value} {I : fI} {L : fL} {o : Nat} (ht : f_tg o = 7) : Wp d 41 86 ls (.ref o :: st) (f_W xs I L) Q = Wp d 41 89 ls (.ref (f_rf o 0) :: st) (f_W xs I L) Q := Wp.getR (ci := 7) (k := 0) e41_86 rfl (by decide) (by decide) rfl ht
theorem e41_89 : decode (j_co 41) 89 = .ok (.getfield 146, 3) := by decide +kernel
set_option maxRecDepth 20000 in
theorem w41_89 {d : Nat} {st : List Value} {Q : Option Value × jW → Prop} {ls : jL} {xs : List Value} {I : fI} {L : fL} {o : Nat} (ht : f_tg o = 5) : Wp d 41 89 ls (.ref o :: st) (f_W xs I L) Q = Wp d 41 92 ls (.ref (f_rf o 1) :: st) (f_W xs I L) Q := Wp.getR (ci := 5) (k := 1) e41_89 rfl (by decide) (by decide) rfl ht
theorem e41_92 : decode (j_co 41) 92 = .ok (.iload 4, 2) := by decide +kernel
set_option maxRecDepth 20000 in
theorem w41_92 {d : Nat} {st : List Value} {Q : Option Value × jW → Prop} {w : jW} {a0 a1 a2 a3 a5 : Option Value} {x : Int32} : Wp d 41 92 [a0, a1, a2, a3, some (.int x), a5] (st) w Q = Wp d 41 94 [a0, a1, a2, a3, some (.int x), a5] (.int x :: st) w Q := Wp.loc e41_92 rfl rfl rfl
theorem e41_94 : decode (j_co 41) 94 = .ok (.aaload, 1) := by decide +kernel
set_option maxRecDepth 20000 in
theorem w41_94 {d : Nat} {st : List Value} {Q : Option Value × jW → Prop} {ls : jL} {xs : List Value} {I : fI} {L : fL} {o : Nat} {i : Int32} (ht : 103 ≤ f_tg o ∧ f_tg o ≤ 106) (hi : ¬ (i < 0 ∨ f_ln o ≤ i.toNatClampNeg)) : Wp d 41 94 ls (.int i :: .ref o :: st) (f_W xs I L) Q = Wp d 41 95 ls (.ref (f_rf o i.toNatClampNeg) :: st) (f_W xs I L) Q := Wp.aald e41_94 rfl ht hi
theorem e41_95 : decode (j_co 41) 95 = .ok (.astore 5, 2) := by decide +kernel
set_option maxRecDepth 20000 in
theorem w41_95 {d : Nat} {st : List Value} {Q : Option Value × jW → Prop} {w : jW} {a0 a1 a2 a3 a4 a5 : Option Value} {x : Nat} (h : j_cp a4) : Wp d 41 95 [a0, a1, a2, a3, a4, a5] (.ref x :: st) w Q = Wp d 41 97 [a0, a1, a2, a3, a4, some (.ref x)] (st) w Q := Wp.loc e41_95 rfl rfl (v_stA (ls := [a0, a1, a2, a3, a4, a5]) (k := 5) (show 5 < 6 by decide) h)
theorem e41_97 : decode (j_co 41) 97 = .ok (.aload 5, 2) := by decide +kernel
set_option maxRecDepth 20000 in
theorem w41_97 {d : Nat} {st : List Value} {Q : Option Value × jW → Prop} {w : jW} {a0 a1 a2 a3 a4 : Option Value} {x : Nat} : Wp d 41 97 [a0, a1, a2, a3, a4, some (.ref x)] (st) w Q = Wp d 41 99 [a0, a1, a2, a3, a4, some (.ref x)] (.ref x :: st) w Q := Wp.loc e41_97 rfl rfl rfl
theorem e41_99 : decode (j_co 41) 99 = .ok (.getfield 150, 3) := by decide +kernel
set_option maxRecDepth 20000 in
theorem w41_99 {d : Nat} {st : List Value} {Q : Option Value × jW → Prop} {ls : jL} {xs : List Value} {I : fI} {L : fL} {o : Nat} (ht : f_tg o = 4) : Wp d 41 99 ls (.ref o :: st) (f_W xs I L) Q = Wp d 41 102 ls (.int (I o 3) :: st) (f_W xs I L) Q := Wp.getI (ci := 4) (k := 3) e41_99 rfl (by decide) (by decide) (by decide) ht
theorem e41_102 : decode (j_co 41) 102 = .ok (.iload_n 3, 1) := by decide +kernel
set_option maxRecDepth 20000 in
theorem w41_102 {d : Nat} {st : List Value} {Q : Option Value × jW → Prop} {w : jW} {a0 a1 a2 a4 a5 : Option Value} {x : Int32} : Wp d 41 102 [a0, a1, a2, some (.int x), a4, a5] (st) w Q = Wp d 41 103 [a0, a1, a2, some (.int x), a4, a5] (.int x :: st) w Q := Wp.loc e41_102 rfl rfl rfl
theorem e41_103 : decode (j_co 41) 103 = .ok (.if_icmp .ne 37, 3) := by decide +kernel
set_option maxRecDepth 20000 in
theorem w41_103 {d : Nat} {st : List Value} {Q : Option Value × jW → Prop} {ls : jL} {w : jW} {a b : Int32} : Wp d 41 103 ls (.int b :: .int a :: st) w Q = ((a = b → Wp d 41 106 ls st w Q) ∧ (¬ a = b → Wp d 41 140 ls st w Q)) := Wp.if2n (c := a = b) (off := 37) e41_103 rfl rfl rfl rfl rfl
theorem e41_106 : decode (j_co 41) 106 = .ok (.aload_n 0, 1) := by decide +kernel
set_option maxRecDepth 20000 in
theorem w41_106 {d : Nat} {st : List Value} {Q : Option Value × jW → Prop} {w : jW} {a1 a2 a3 a4 a5 : Option Value} {x : Nat} : Wp d 41 106 [some (.ref x), a1, a2, a3, a4, a5] (st) w Q = Wp d 41 107 [some (.ref x), a1, a2, a3, a4, a5] (.ref x :: st) w Q := Wp.loc e41_106 rfl rfl rfl
theorem e41_107 : decode (j_co 41) 107 = .ok (.getfield 35, 3) := by decide +kernel
set_option maxRecDepth 20000 in
theorem w41_107 {d : Nat} {st : List Value} {Q : Option Value × jW → Prop} {ls : jL} {xs : List Value} {I : fI} {L : fL} {o : Nat} (ht : f_tg o = 7) : Wp d 41 107 ls (.ref o :: st) (f_W xs I L) Q = Wp d 41 110 ls (.ref (f_rf o 0) :: st) (f_W xs I L) Q := Wp.getR (ci := 7) (k := 0) e41_107 rfl (by decide) (by decide) rfl ht
theorem e41_110 : decode (j_co 41) 110 = .ok (.aload 5, 2) := by decide +kernel
set_option maxRecDepth 20000 in
theorem w41_110 {d : Nat} {st : List Value} {Q : Option Value × jW → Prop} {w : jW} {a0 a1 a2 a3 a4 : Option Value} {x : Nat} : Wp d 41 110 [a0, a1, a2, a3, a4, some (.ref x)] (st) w Q = Wp d 41 112 [a0, a1, a2, a3, a4, some (.ref x)] (.ref x :: st) w Q := Wp.loc e41_110 rfl rfl rfl
theorem e41_112 : decode (j_co 41) 112 = .ok (.aload_n 0, 1) := by decide +kernel
set_option maxRecDepth 20000 in
theorem w41_112 {d : Nat} {st : List Value} {Q : Option Value × jW → Prop} {w : jW} {a1 a2 a3 a4 a5 : Option Value} {x : Nat} : Wp d 41 112 [some (.ref x), a1, a2, a3, a4, a5] (st) w Q = Wp d 41 113 [some (.ref x), a1, a2, a3, a4, a5] (.ref x :: st) w Q := Wp.loc e41_112 rfl rfl rfl
theorem e41_113 : decode (j_co 41) 113 = .ok (.getfield 20, 3) := by decide +kernel
set_option maxRecDepth 20000 in
theorem w41_113 {d : Nat} {st : List Value} {Q : Option Value × jW → Prop} {ls : jL} {xs : List Value} {I : fI} {L : fL} {o : Nat} (ht : f_tg o = 7) : Wp d 41 113 ls (.ref o :: st) (f_W xs I L) Q = Wp d 41 116 ls (.ref (f_rf o 2) :: st) (f_W xs I L) Q := Wp.getR (ci := 7) (k := 2) e41_113 rfl (by decide) (by decide) rfl ht
theorem e41_116 : decode (j_co 41) 116 = .ok (.aload_n 0, 1) := by decide +kernel
set_option maxRecDepth 20000 in
theorem w41_116 {d : Nat} {st : List Value} {Q : Option Value × jW → Prop} {w : jW} {a1 a2 a3 a4 a5 : Option Value} {x : Nat} : Wp d 41 116 [some (.ref x), a1, a2, a3, a4, a5] (st) w Q = Wp d 41 117 [some (.ref x), a1, a2, a3, a4, a5] (.ref x :: st) w Q := Wp.loc e41_116 rfl rfl rfl
theorem e41_117 : decode (j_co 41) 117 = .ok (.getfield 24, 3) := by decide +kernel
set_option maxRecDepth 20000 in
theorem w41_117 {d : Nat} {st : List Value} {Q : Option Value × jW → Prop} {ls : jL} {xs : List Value} {I : fI} {L : fL} {o : Nat} (ht : f_tg o = 7) : Wp d 41 117 ls (.ref o :: st) (f_W xs I L) Q = Wp d 41 120 ls (.ref (f_rf o 3) :: st) (f_W xs I L) Q := Wp.getR (ci := 7) (k := 3) e41_117 rfl (by decide) (by decide) rfl ht
theorem e41_120 : decode (j_co 41) 120 = .ok (.invokevirtual 154, 3) := by decide +kernel
set_option maxRecDepth 20000 in
theorem w41_120 {d : Nat} {st : List Value} {Q : Option Value × jW → Prop} {ls : jL} {xs : List Value} {I : fI} {L : fL} {r : Nat} {x0 : Nat} {x1 : Nat} {x2 : Nat} (hs : j_sumc st ≤ 8) (ht : f_tg r = 5) : Wp (d + 1) 41 120 ls (.ref x2 :: .ref x1 :: .ref x0 :: .ref r :: st) (f_W xs I L) Q = Wp d 47 0 [some (.ref r), some (.ref x0), some (.ref x1), some (.ref x2), none] [] (f_W xs I L) (fun r1 => Wp (d + 1) 41 123 ls (r1.1.toList ++ st) r1.2 Q) := Wp.cv (y' := 47) (as := [.ref x0, .ref x1, .ref x2]) e41_120 rfl (by decide) rfl (show 4 ≤ 5 by decide) (by decide) hs ht
theorem e41_123 : decode (j_co 41) 123 = .ok (.ifCond .eq 17, 3) := by decide +kernel
set_option maxRecDepth 20000 in
theorem w41_123 {d : Nat} {st : List Value} {Q : Option Value × jW → Prop} {ls : jL} {w : jW} {a : Int32} : Wp d 41 123 ls (.int a :: st) w Q = ((a = nI 0 → Wp d 41 140 ls st w Q) ∧ (¬ a = nI 0 → Wp d 41 126 ls st w Q)) := Wp.if2 (c := a = nI 0) (off := 17) e41_123 rfl rfl rfl rfl rfl
theorem e41_126 : decode (j_co 41) 126 = .ok (.aload_n 0, 1) := by decide +kernel
set_option maxRecDepth 20000 in
theorem w41_126 {d : Nat} {st : List Value} {Q : Option Value × jW → Prop} {w : jW} {a1 a2 a3 a4 a5 : Option Value} {x : Nat} : Wp d 41 126 [some (.ref x), a1, a2, a3, a4, a5] (st) w Q = Wp d 41 127 [some (.ref x), a1, a2, a3, a4, a5] (.ref x :: st) w Q := Wp.loc e41_126 rfl rfl rfl
theorem e41_127 : decode (j_co 41) 127 = .ok (.aload 5, 2) := by decide +kernel
set_option maxRecDepth 20000 in
theorem w41_127 {d : Nat} {st : List Value} {Q : Option Value × jW → Prop} {w : jW} {a0 a1 a2 a3 a4 : Option Value} {x : Nat} : Wp d 41 127 [a0, a1, a2, a3, a4, some (.ref x)] (st) w Q = Wp d 41 129 [a0, a1, a2, a3, a4, some (.ref x)] (.ref x :: st) w Q := Wp.loc e41_127 rfl rfl rfl
theorem e41_129 : decode (j_co 41) 129 = .ok (.getfield 158, 3) := by decide +kernel
set_option maxRecDepth 20000 in
theorem w41_129 {d : Nat} {st : List Value} {Q : Option Value × jW → Prop} {ls : jL} {xs : List Value} {I : fI} {L : fL} {o : Nat} (ht : f_tg o = 4) : Wp d 41 129 ls (.ref o :: st) (f_W xs I L) Q = Wp d 41 132 ls (.int (I o 4) :: st) (f_W xs I L) Q := Wp.getI (ci := 4) (k := 4) e41_129 rfl (by decide) (by decide) (by decide) ht
theorem e41_132 : decode (j_co 41) 132 = .ok (.iload_n 1, 1) := by decide +kernel
set_option maxRecDepth 20000 in
theorem w41_132 {d : Nat} {st : List Value} {Q : Option Value × jW → Prop} {w : jW} {a0 a2 a3 a4 a5 : Option Value} {x : Int32} : Wp d 41 132 [a0, some (.int x), a2, a3, a4, a5] (st) w Q = Wp d 41 133 [a0, some (.int x), a2, a3, a4, a5] (.int x :: st) w Q := Wp.loc e41_132 rfl rfl rfl
theorem e41_133 : decode (j_co 41) 133 = .ok (.iconst 1, 1) := by decide +kernel
set_option maxRecDepth 20000 in
theorem w41_133 {d : Nat} {st : List Value} {Q : Option Value × jW → Prop} {ls : jL} {w : jW} : Wp d 41 133 ls (st) w Q = Wp d 41 134 ls (.int (nI 1) :: st) w Q := Wp.alu e41_133 rfl rfl
theorem e41_134 : decode (j_co 41) 134 = .ok (.iload 4, 2) := by decide +kernel
set_option maxRecDepth 20000 in
theorem w41_134 {d : Nat} {st : List Value} {Q : Option Value × jW → Prop} {w : jW} {a0 a1 a2 a3 a5 : Option Value} {x : Int32} : Wp d 41 134 [a0, a1, a2, a3, some (.int x), a5] (st) w Q = Wp d 41 136 [a0, a1, a2, a3, some (.int x), a5] (.int x :: st) w Q := Wp.loc e41_134 rfl rfl rfl
theorem e41_136 : decode (j_co 41) 136 = .ok (.iadd, 1) := by decide +kernel
set_option maxRecDepth 20000 in
theorem w41_136 {d : Nat} {st : List Value} {Q : Option Value × jW → Prop} {ls : jL} {w : jW} {a b : Int32} : Wp d 41 136 ls (.int b :: .int a :: st) w Q = Wp d 41 137 ls (.int (a + b) :: st) w Q := Wp.alu e41_136 rfl rfl
theorem e41_137 : decode (j_co 41) 137 = .ok (.invokevirtual 140, 3) := by decide +kernel
set_option maxRecDepth 20000 in
theorem w41_137 {d : Nat} {st : List Value} {Q : Option Value × jW → Prop} {ls : jL} {xs : List Value} {I : fI} {L : fL} {r : Nat} {x0 : Int32} {x1 : Int32} {x2 : Int32} (hs : j_sumc st ≤ 8) (ht : f_tg r = 7) : Wp (d + 1) 41 137 ls (.int x2 :: .int x1 :: .int x0 :: .ref r :: st) (f_W xs I L) Q = Wp d 44 0 [some (.ref r), some (.int x0), some (.int x1), some (.int x2), none, none, none] [] (f_W xs I L) (fun r1 => Wp (d + 1) 41 140 ls (r1.1.toList ++ st) r1.2 Q) := Wp.cv (y' := 44) (as := [.int x0, .int x1, .int x2]) e41_137 rfl (by decide) rfl (show 4 ≤ 7 by decide) (by decide) hs ht
theorem e41_140 : decode (j_co 41) 140 = .ok (.iinc 4 1, 3) := by decide +kernel
set_option maxRecDepth 20000 in
theorem w41_140 {d : Nat} {st : List Value} {Q : Option Value × jW → Prop} {w : jW} {a0 a1 a2 a3 a5 : Option Value} {x : Int32} (h : j_cp a3) : Wp d 41 140 [a0, a1, a2, a3, some (.int x), a5] (st) w Q = Wp d 41 143 [a0, a1, a2, a3, some (.int (x + nI 1)), a5] (st) w Q := Wp.loc e41_140 rfl rfl (v_inc (ls := [a0, a1, a2, a3, some (.int x), a5]) (k := 4) (n := 1) rfl (show 4 < 6 by decide) h)
theorem e41_143 : decode (j_co 41) 143 = .ok (.goto (-77), 3) := by decide +kernel
set_option maxRecDepth 20000 in
theorem w41_143 {d : Nat} {st : List Value} {Q : Option Value × jW → Prop} {ls : jL} {w : jW} : Wp d 41 143 ls (st) w Q = Wp d 41 66 ls (st) w Q := Wp.br e41_143 (Or.inl rfl) rfl rfl rfl rfl
theorem e41_146 : decode (j_co 41) 146 = .ok (.return_, 1) := by decide +kernel
set_option maxRecDepth 20000 in
theorem w41_146 {d : Nat} {Q : Option Value × jW → Prop} {ls : jL} {w : jW} : Wp d 41 146 ls [] w Q = Q (none, w) := Wp.ret e41_146 rfl
/-! Machine.flow -/
theorem e42_0 : decode (j_co 42) 0 = .ok (.aload_n 0, 1) := by decide +kernel
set_option maxRecDepth 20000 in
theorem w42_0 {d : Nat} {st : List Value} {Q : Option Value × jW → Prop} {w : jW} {a1 a2 a3 a4 : Option Value} {x : Nat} : Wp d 42 0 [some (.ref x), a1, a2, a3, a4] (st) w Q = Wp d 42 1 [some (.ref x), a1, a2, a3, a4] (.ref x :: st) w Q := Wp.loc e42_0 rfl rfl rfl
theorem e42_1 : decode (j_co 42) 1 = .ok (.iload_n 1, 1) := by decide +kernel
set_option maxRecDepth 20000 in
theorem w42_1 {d : Nat} {st : List Value} {Q : Option Value × jW → Prop} {w : jW} {a0 a2 a3 a4 : Option Value} {x : Int32} : Wp d 42 1 [a0, some (.int x), a2, a3, a4] (st) w Q = Wp d 42 2 [a0, some (.int x), a2, a3, a4] (.int x :: st) w Q := Wp.loc e42_1 rfl rfl rfl
theorem e42_2 : decode (j_co 42) 2 = .ok (.invokevirtual 70, 3) := by decide +kernel
set_option maxRecDepth 20000 in
theorem w42_2 {d : Nat} {st : List Value} {Q : Option Value × jW → Prop} {ls : jL} {xs : List Value} {I : fI} {L : fL} {r : Nat} {x0 : Int32} (hs : j_sumc st ≤ 8) (ht : f_tg r = 5) : Wp (d + 1) 42 2 ls (.int x0 :: .ref r :: st) (f_W xs I L) Q = Wp d 171 0 [some (.ref r), some (.int x0)] [] (f_W xs I L) (fun r1 => Wp (d + 1) 42 5 ls (r1.1.toList ++ st) r1.2 Q) := Wp.cv (y' := 171) (as := [.int x0]) e42_2 rfl (by decide) rfl (show 2 ≤ 2 by decide) (by decide) hs ht
theorem e42_5 : decode (j_co 42) 5 = .ok (.astore 4, 2) := by decide +kernel
set_option maxRecDepth 20000 in
theorem w42_5 {d : Nat} {st : List Value} {Q : Option Value × jW → Prop} {w : jW} {a0 a1 a2 a3 a4 : Option Value} {x : Nat} (h : j_cp a3) : Wp d 42 5 [a0, a1, a2, a3, a4] (.ref x :: st) w Q = Wp d 42 7 [a0, a1, a2, a3, some (.ref x)] (st) w Q := Wp.loc e42_5 rfl rfl (v_stA (ls := [a0, a1, a2, a3, a4]) (k := 4) (show 4 < 5 by decide) h)
theorem e42_7 : decode (j_co 42) 7 = .ok (.aload_n 3, 1) := by decide +kernel
set_option maxRecDepth 20000 in
theorem w42_7 {d : Nat} {st : List Value} {Q : Option Value × jW → Prop} {w : jW} {a0 a1 a2 a4 : Option Value} {x : Nat} : Wp d 42 7 [a0, a1, a2, some (.ref x), a4] (st) w Q = Wp d 42 8 [a0, a1, a2, some (.ref x), a4] (.ref x :: st) w Q := Wp.loc e42_7 rfl rfl rfl
theorem e42_8 : decode (j_co 42) 8 = .ok (.aload_n 2, 1) := by decide +kernel
set_option maxRecDepth 20000 in
theorem w42_8 {d : Nat} {st : List Value} {Q : Option Value × jW → Prop} {w : jW} {a0 a1 a3 a4 : Option Value} {x : Nat} : Wp d 42 8 [a0, a1, some (.ref x), a3, a4] (st) w Q = Wp d 42 9 [a0, a1, some (.ref x), a3, a4] (.ref x :: st) w Q := Wp.loc e42_8 rfl rfl rfl
theorem e42_9 : decode (j_co 42) 9 = .ok (.invokevirtual 56, 3) := by decide +kernel
set_option maxRecDepth 20000 in
theorem w42_9 {d : Nat} {st : List Value} {Q : Option Value × jW → Prop} {ls : jL} {xs : List Value} {I : fI} {L : fL} {r : Nat} {x0 : Nat} (hs : j_sumc st ≤ 8) (ht : f_tg r = 0) : Wp (d + 1) 42 9 ls (.ref x0 :: .ref r :: st) (f_W xs I L) Q = Wp d 31 0 [some (.ref r), some (.ref x0), none] [] (f_W xs I L) (fun r1 => Wp (d + 1) 42 12 ls (r1.1.toList ++ st) r1.2 Q) := Wp.cv (y' := 31) (as := [.ref x0]) e42_9 rfl (by decide) rfl (show 2 ≤ 3 by decide) (by decide) hs ht
theorem e42_12 : decode (j_co 42) 12 = .ok (.aload_n 3, 1) := by decide +kernel
set_option maxRecDepth 20000 in
theorem w42_12 {d : Nat} {st : List Value} {Q : Option Value × jW → Prop} {w : jW} {a0 a1 a2 a4 : Option Value} {x : Nat} : Wp d 42 12 [a0, a1, a2, some (.ref x), a4] (st) w Q = Wp d 42 13 [a0, a1, a2, some (.ref x), a4] (.ref x :: st) w Q := Wp.loc e42_12 rfl rfl rfl
theorem e42_13 : decode (j_co 42) 13 = .ok (.aload 4, 2) := by decide +kernel
set_option maxRecDepth 20000 in
theorem w42_13 {d : Nat} {st : List Value} {Q : Option Value × jW → Prop} {w : jW} {a0 a1 a2 a3 : Option Value} {x : Nat} : Wp d 42 13 [a0, a1, a2, a3, some (.ref x)] (st) w Q = Wp d 42 15 [a0, a1, a2, a3, some (.ref x)] (.ref x :: st) w Q := Wp.loc e42_13 rfl rfl rfl
theorem e42_15 : decode (j_co 42) 15 = .ok (.getfield 74, 3) := by decide +kernel
set_option maxRecDepth 20000 in
theorem w42_15 {d : Nat} {st : List Value} {Q : Option Value × jW → Prop} {ls : jL} {xs : List Value} {I : fI} {L : fL} {o : Nat} (ht : f_tg o = 6) : Wp d 42 15 ls (.ref o :: st) (f_W xs I L) Q = Wp d 42 18 ls (.ref (f_rf o 1) :: st) (f_W xs I L) Q := Wp.getR (ci := 6) (k := 1) e42_15 rfl (by decide) (by decide) rfl ht
theorem e42_18 : decode (j_co 42) 18 = .ok (.invokevirtual 77, 3) := by decide +kernel
set_option maxRecDepth 20000 in
theorem w42_18 {d : Nat} {st : List Value} {Q : Option Value × jW → Prop} {ls : jL} {xs : List Value} {I : fI} {L : fL} {r : Nat} {x0 : Nat} (hs : j_sumc st ≤ 8) (ht : f_tg r = 0) : Wp (d + 1) 42 18 ls (.ref x0 :: .ref r :: st) (f_W xs I L) Q = Wp d 43 0 [some (.ref r), some (.ref x0), none] [] (f_W xs I L) (fun r1 => Wp (d + 1) 42 21 ls (r1.1.toList ++ st) r1.2 Q) := Wp.cv (y' := 43) (as := [.ref x0]) e42_18 rfl (by decide) rfl (show 2 ≤ 3 by decide) (by decide) hs ht
theorem e42_21 : decode (j_co 42) 21 = .ok (.aload_n 3, 1) := by decide +kernel
set_option maxRecDepth 20000 in
theorem w42_21 {d : Nat} {st : List Value} {Q : Option Value × jW → Prop} {w : jW} {a0 a1 a2 a4 : Option Value} {x : Nat} : Wp d 42 21 [a0, a1, a2, some (.ref x), a4] (st) w Q = Wp d 42 22 [a0, a1, a2, some (.ref x), a4] (.ref x :: st) w Q := Wp.loc e42_21 rfl rfl rfl
theorem e42_22 : decode (j_co 42) 22 = .ok (.aload 4, 2) := by decide +kernel
set_option maxRecDepth 20000 in
theorem w42_22 {d : Nat} {st : List Value} {Q : Option Value × jW → Prop} {w : jW} {a0 a1 a2 a3 : Option Value} {x : Nat} : Wp d 42 22 [a0, a1, a2, a3, some (.ref x)] (st) w Q = Wp d 42 24 [a0, a1, a2, a3, some (.ref x)] (.ref x :: st) w Q := Wp.loc e42_22 rfl rfl rfl
theorem e42_24 : decode (j_co 42) 24 = .ok (.getfield 60, 3) := by decide +kernel
set_option maxRecDepth 20000 in
theorem w42_24 {d : Nat} {st : List Value} {Q : Option Value × jW → Prop} {ls : jL} {xs : List Value} {I : fI} {L : fL} {o : Nat} (ht : f_tg o = 6) : Wp d 42 24 ls (.ref o :: st) (f_W xs I L) Q = Wp d 42 27 ls (.ref (f_rf o 0) :: st) (f_W xs I L) Q := Wp.getR (ci := 6) (k := 0) e42_24 rfl (by decide) (by decide) rfl ht
theorem e42_27 : decode (j_co 42) 27 = .ok (.invokevirtual 63, 3) := by decide +kernel
set_option maxRecDepth 20000 in
theorem w42_27 {d : Nat} {st : List Value} {Q : Option Value × jW → Prop} {ls : jL} {xs : List Value} {I : fI} {L : fL} {r : Nat} {x0 : Nat} (hs : j_sumc st ≤ 8) (ht : f_tg r = 0) : Wp (d + 1) 42 27 ls (.ref x0 :: .ref r :: st) (f_W xs I L) Q = Wp d 32 0 [some (.ref r), some (.ref x0), none] [] (f_W xs I L) (fun r1 => Wp (d + 1) 42 30 ls (r1.1.toList ++ st) r1.2 Q) := Wp.cv (y' := 32) (as := [.ref x0]) e42_27 rfl (by decide) rfl (show 2 ≤ 3 by decide) (by decide) hs ht
theorem e42_30 : decode (j_co 42) 30 = .ok (.aload_n 3, 1) := by decide +kernel
set_option maxRecDepth 20000 in
theorem w42_30 {d : Nat} {st : List Value} {Q : Option Value × jW → Prop} {w : jW} {a0 a1 a2 a4 : Option Value} {x : Nat} : Wp d 42 30 [a0, a1, a2, some (.ref x), a4] (st) w Q = Wp d 42 31 [a0, a1, a2, some (.ref x), a4] (.ref x :: st) w Q := Wp.loc e42_30 rfl rfl rfl
theorem e42_31 : decode (j_co 42) 31 = .ok (.invokevirtual 66, 3) := by decide +kernel
set_option maxRecDepth 20000 in
theorem w42_31 {d : Nat} {st : List Value} {Q : Option Value × jW → Prop} {ls : jL} {xs : List Value} {I : fI} {L : fL} {r : Nat} (hs : j_sumc st ≤ 8) (ht : f_tg r = 0) : Wp (d + 1) 42 31 ls (.ref r :: st) (f_W xs I L) Q = Wp d 37 0 [some (.ref r), none] [] (f_W xs I L) (fun r1 => Wp (d + 1) 42 34 ls (r1.1.toList ++ st) r1.2 Q) := Wp.cv (y' := 37) (as := []) e42_31 rfl (by decide) rfl (show 1 ≤ 2 by decide) (by decide) hs ht
theorem e42_34 : decode (j_co 42) 34 = .ok (.ifCond .ne 7, 3) := by decide +kernel
set_option maxRecDepth 20000 in
theorem w42_34 {d : Nat} {st : List Value} {Q : Option Value × jW → Prop} {ls : jL} {w : jW} {a : Int32} : Wp d 42 34 ls (.int a :: st) w Q = ((a = nI 0 → Wp d 42 37 ls st w Q) ∧ (¬ a = nI 0 → Wp d 42 41 ls st w Q)) := Wp.if2n (c := a = nI 0) (off := 7) e42_34 rfl rfl rfl rfl rfl
theorem e42_37 : decode (j_co 42) 37 = .ok (.iconst 1, 1) := by decide +kernel
set_option maxRecDepth 20000 in
theorem w42_37 {d : Nat} {st : List Value} {Q : Option Value × jW → Prop} {ls : jL} {w : jW} : Wp d 42 37 ls (st) w Q = Wp d 42 38 ls (.int (nI 1) :: st) w Q := Wp.alu e42_37 rfl rfl
theorem e42_38 : decode (j_co 42) 38 = .ok (.goto 4, 3) := by decide +kernel
set_option maxRecDepth 20000 in
theorem w42_38 {d : Nat} {st : List Value} {Q : Option Value × jW → Prop} {ls : jL} {w : jW} : Wp d 42 38 ls (st) w Q = Wp d 42 42 ls (st) w Q := Wp.br e42_38 (Or.inl rfl) rfl rfl rfl rfl
theorem e42_41 : decode (j_co 42) 41 = .ok (.iconst 0, 1) := by decide +kernel
set_option maxRecDepth 20000 in
theorem w42_41 {d : Nat} {st : List Value} {Q : Option Value × jW → Prop} {ls : jL} {w : jW} : Wp d 42 41 ls (st) w Q = Wp d 42 42 ls (.int (nI 0) :: st) w Q := Wp.alu e42_41 rfl rfl
theorem e42_42 : decode (j_co 42) 42 = .ok (.ireturn, 1) := by decide +kernel
set_option maxRecDepth 20000 in
theorem w42_42 {d : Nat} {Q : Option Value × jW → Prop} {ls : jL} {w : jW} {x : Int32} (hx : x = 0 ∨ x = 1) : Wp d 42 42 ls [.int x] w Q = Q (some (.int x), w) := Wp.ret e42_42 (by rcases hx with rfl | rfl <;> rfl)
/-! Search.take -/
theorem e44_0 : decode (j_co 44) 0 = .ok (.bipush (-4), 2) := by decide +kernel
set_option maxRecDepth 20000 in
theorem w44_0 {d : Nat} {st : List Value} {Q : Option Value × jW → Prop} {ls : jL} {w : jW} : Wp d 44 0 ls (st) w Q = Wp d 44 2 ls (.int (-4) :: st) w Q := Wp.alu e44_0 rfl rfl
theorem e44_2 : decode (j_co 44) 2 = .ok (.istore 4, 2) := by decide +kernel
set_option maxRecDepth 20000 in
theorem w44_2 {d : Nat} {st : List Value} {Q : Option Value × jW → Prop} {w : jW} {a0 a1 a2 a3 a4 a5 a6 : Option Value} {x : Int32} (h : j_cp a3) : Wp d 44 2 [a0, a1, a2, a3, a4, a5, a6] (.int x :: st) w Q = Wp d 44 4 [a0, a1, a2, a3, some (.int x), a5, a6] (st) w Q := Wp.loc e44_2 rfl rfl (v_stI (ls := [a0, a1, a2, a3, a4, a5, a6]) (k := 4) (show 4 < 7 by decide) h)
theorem e44_4 : decode (j_co 44) 4 = .ok (.iconst 0, 1) := by decide +kernel
set_option maxRecDepth 20000 in
theorem w44_4 {d : Nat} {st : List Value} {Q : Option Value × jW → Prop} {ls : jL} {w : jW} : Wp d 44 4 ls (st) w Q = Wp d 44 5 ls (.int (nI 0) :: st) w Q := Wp.alu e44_4 rfl rfl
theorem e44_5 : decode (j_co 44) 5 = .ok (.istore 5, 2) := by decide +kernel
set_option maxRecDepth 20000 in
theorem w44_5 {d : Nat} {st : List Value} {Q : Option Value × jW → Prop} {w : jW} {a0 a1 a2 a3 a4 a5 a6 : Option Value} {x : Int32} (h : j_cp a4) : Wp d 44 5 [a0, a1, a2, a3, a4, a5, a6] (.int x :: st) w Q = Wp d 44 7 [a0, a1, a2, a3, a4, some (.int x), a6] (st) w Q := Wp.loc e44_5 rfl rfl (v_stI (ls := [a0, a1, a2, a3, a4, a5, a6]) (k := 5) (show 5 < 7 by decide) h)
theorem e44_7 : decode (j_co 44) 7 = .ok (.iconst 0, 1) := by decide +kernel
set_option maxRecDepth 20000 in
theorem w44_7 {d : Nat} {st : List Value} {Q : Option Value × jW → Prop} {ls : jL} {w : jW} : Wp d 44 7 ls (st) w Q = Wp d 44 8 ls (.int (nI 0) :: st) w Q := Wp.alu e44_7 rfl rfl
theorem e44_8 : decode (j_co 44) 8 = .ok (.istore 6, 2) := by decide +kernel
set_option maxRecDepth 20000 in
theorem w44_8 {d : Nat} {st : List Value} {Q : Option Value × jW → Prop} {w : jW} {a0 a1 a2 a3 a4 a5 a6 : Option Value} {x : Int32} (h : j_cp a5) : Wp d 44 8 [a0, a1, a2, a3, a4, a5, a6] (.int x :: st) w Q = Wp d 44 10 [a0, a1, a2, a3, a4, a5, some (.int x)] (st) w Q := Wp.loc e44_8 rfl rfl (v_stI (ls := [a0, a1, a2, a3, a4, a5, a6]) (k := 6) (show 6 < 7 by decide) h)
theorem e44_10 : decode (j_co 44) 10 = .ok (.iload 6, 2) := by decide +kernel
set_option maxRecDepth 20000 in
theorem w44_10 {d : Nat} {st : List Value} {Q : Option Value × jW → Prop} {w : jW} {a0 a1 a2 a3 a4 a5 : Option Value} {x : Int32} : Wp d 44 10 [a0, a1, a2, a3, a4, a5, some (.int x)] (st) w Q = Wp d 44 12 [a0, a1, a2, a3, a4, a5, some (.int x)] (.int x :: st) w Q := Wp.loc e44_10 rfl rfl rfl
theorem e44_12 : decode (j_co 44) 12 = .ok (.aload_n 0, 1) := by decide +kernel
set_option maxRecDepth 20000 in
theorem w44_12 {d : Nat} {st : List Value} {Q : Option Value × jW → Prop} {w : jW} {a1 a2 a3 a4 a5 a6 : Option Value} {x : Nat} : Wp d 44 12 [some (.ref x), a1, a2, a3, a4, a5, a6] (st) w Q = Wp d 44 13 [some (.ref x), a1, a2, a3, a4, a5, a6] (.ref x :: st) w Q := Wp.loc e44_12 rfl rfl rfl
theorem e44_13 : decode (j_co 44) 13 = .ok (.getfield 44, 3) := by decide +kernel
set_option maxRecDepth 20000 in
theorem w44_13 {d : Nat} {st : List Value} {Q : Option Value × jW → Prop} {ls : jL} {xs : List Value} {I : fI} {L : fL} {o : Nat} (ht : f_tg o = 7) : Wp d 44 13 ls (.ref o :: st) (f_W xs I L) Q = Wp d 44 16 ls (.int (I o 6) :: st) (f_W xs I L) Q := Wp.getI (ci := 7) (k := 6) e44_13 rfl (by decide) (by decide) (by decide) ht
theorem e44_16 : decode (j_co 44) 16 = .ok (.if_icmp .ge 51, 3) := by decide +kernel
set_option maxRecDepth 20000 in
theorem w44_16 {d : Nat} {st : List Value} {Q : Option Value × jW → Prop} {ls : jL} {w : jW} {a b : Int32} : Wp d 44 16 ls (.int b :: .int a :: st) w Q = ((b ≤ a → Wp d 44 67 ls st w Q) ∧ (¬ b ≤ a → Wp d 44 19 ls st w Q)) := Wp.if2 (c := b ≤ a) (off := 51) e44_16 rfl rfl rfl rfl rfl
theorem e44_19 : decode (j_co 44) 19 = .ok (.aload_n 0, 1) := by decide +kernel
set_option maxRecDepth 20000 in
theorem w44_19 {d : Nat} {st : List Value} {Q : Option Value × jW → Prop} {w : jW} {a1 a2 a3 a4 a5 a6 : Option Value} {x : Nat} : Wp d 44 19 [some (.ref x), a1, a2, a3, a4, a5, a6] (st) w Q = Wp d 44 20 [some (.ref x), a1, a2, a3, a4, a5, a6] (.ref x :: st) w Q := Wp.loc e44_19 rfl rfl rfl
theorem e44_20 : decode (j_co 44) 20 = .ok (.getfield 11, 3) := by decide +kernel
set_option maxRecDepth 20000 in
theorem w44_20 {d : Nat} {st : List Value} {Q : Option Value × jW → Prop} {ls : jL} {xs : List Value} {I : fI} {L : fL} {o : Nat} (ht : f_tg o = 7) : Wp d 44 20 ls (.ref o :: st) (f_W xs I L) Q = Wp d 44 23 ls (.ref (f_rf o 1) :: st) (f_W xs I L) Q := Wp.getR (ci := 7) (k := 1) e44_20 rfl (by decide) (by decide) rfl ht
theorem e44_23 : decode (j_co 44) 23 = .ok (.iload 6, 2) := by decide +kernel
set_option maxRecDepth 20000 in
theorem w44_23 {d : Nat} {st : List Value} {Q : Option Value × jW → Prop} {w : jW} {a0 a1 a2 a3 a4 a5 : Option Value} {x : Int32} : Wp d 44 23 [a0, a1, a2, a3, a4, a5, some (.int x)] (st) w Q = Wp d 44 25 [a0, a1, a2, a3, a4, a5, some (.int x)] (.int x :: st) w Q := Wp.loc e44_23 rfl rfl rfl
theorem e44_25 : decode (j_co 44) 25 = .ok (.aaload, 1) := by decide +kernel
set_option maxRecDepth 20000 in
theorem w44_25 {d : Nat} {st : List Value} {Q : Option Value × jW → Prop} {ls : jL} {xs : List Value} {I : fI} {L : fL} {o : Nat} {i : Int32} (ht : 103 ≤ f_tg o ∧ f_tg o ≤ 106) (hi : ¬ (i < 0 ∨ f_ln o ≤ i.toNatClampNeg)) : Wp d 44 25 ls (.int i :: .ref o :: st) (f_W xs I L) Q = Wp d 44 26 ls (.ref (f_rf o i.toNatClampNeg) :: st) (f_W xs I L) Q := Wp.aald e44_25 rfl ht hi
theorem e44_26 : decode (j_co 44) 26 = .ok (.getfield 76, 3) := by decide +kernel
set_option maxRecDepth 20000 in
theorem w44_26 {d : Nat} {st : List Value} {Q : Option Value × jW → Prop} {ls : jL} {xs : List Value} {I : fI} {L : fL} {o : Nat} (ht : f_tg o = 3) : Wp d 44 26 ls (.ref o :: st) (f_W xs I L) Q = Wp d 44 29 ls (.int (I o 1) :: st) (f_W xs I L) Q := Wp.getI (ci := 3) (k := 1) e44_26 rfl (by decide) (by decide) (by decide) ht
theorem e44_29 : decode (j_co 44) 29 = .ok (.iload_n 1, 1) := by decide +kernel
set_option maxRecDepth 20000 in
theorem w44_29 {d : Nat} {st : List Value} {Q : Option Value × jW → Prop} {w : jW} {a0 a2 a3 a4 a5 a6 : Option Value} {x : Int32} : Wp d 44 29 [a0, some (.int x), a2, a3, a4, a5, a6] (st) w Q = Wp d 44 30 [a0, some (.int x), a2, a3, a4, a5, a6] (.int x :: st) w Q := Wp.loc e44_29 rfl rfl rfl
theorem e44_30 : decode (j_co 44) 30 = .ok (.if_icmp .ne 31, 3) := by decide +kernel
set_option maxRecDepth 20000 in
theorem w44_30 {d : Nat} {st : List Value} {Q : Option Value × jW → Prop} {ls : jL} {w : jW} {a b : Int32} : Wp d 44 30 ls (.int b :: .int a :: st) w Q = ((a = b → Wp d 44 33 ls st w Q) ∧ (¬ a = b → Wp d 44 61 ls st w Q)) := Wp.if2n (c := a = b) (off := 31) e44_30 rfl rfl rfl rfl rfl
theorem e44_33 : decode (j_co 44) 33 = .ok (.aload_n 0, 1) := by decide +kernel
set_option maxRecDepth 20000 in
theorem w44_33 {d : Nat} {st : List Value} {Q : Option Value × jW → Prop} {w : jW} {a1 a2 a3 a4 a5 a6 : Option Value} {x : Nat} : Wp d 44 33 [some (.ref x), a1, a2, a3, a4, a5, a6] (st) w Q = Wp d 44 34 [some (.ref x), a1, a2, a3, a4, a5, a6] (.ref x :: st) w Q := Wp.loc e44_33 rfl rfl rfl
theorem e44_34 : decode (j_co 44) 34 = .ok (.getfield 11, 3) := by decide +kernel
set_option maxRecDepth 20000 in
theorem w44_34 {d : Nat} {st : List Value} {Q : Option Value × jW → Prop} {ls : jL} {xs : List Value} {I : fI} {L : fL} {o : Nat} (ht : f_tg o = 7) : Wp d 44 34 ls (.ref o :: st) (f_W xs I L) Q = Wp d 44 37 ls (.ref (f_rf o 1) :: st) (f_W xs I L) Q := Wp.getR (ci := 7) (k := 1) e44_34 rfl (by decide) (by decide) rfl ht
theorem e44_37 : decode (j_co 44) 37 = .ok (.iload 6, 2) := by decide +kernel
set_option maxRecDepth 20000 in
theorem w44_37 {d : Nat} {st : List Value} {Q : Option Value × jW → Prop} {w : jW} {a0 a1 a2 a3 a4 a5 : Option Value} {x : Int32} : Wp d 44 37 [a0, a1, a2, a3, a4, a5, some (.int x)] (st) w Q = Wp d 44 39 [a0, a1, a2, a3, a4, a5, some (.int x)] (.int x :: st) w Q := Wp.loc e44_37 rfl rfl rfl
theorem e44_39 : decode (j_co 44) 39 = .ok (.aaload, 1) := by decide +kernel
set_option maxRecDepth 20000 in
theorem w44_39 {d : Nat} {st : List Value} {Q : Option Value × jW → Prop} {ls : jL} {xs : List Value} {I : fI} {L : fL} {o : Nat} {i : Int32} (ht : 103 ≤ f_tg o ∧ f_tg o ≤ 106) (hi : ¬ (i < 0 ∨ f_ln o ≤ i.toNatClampNeg)) : Wp d 44 39 ls (.int i :: .ref o :: st) (f_W xs I L) Q = Wp d 44 40 ls (.ref (f_rf o i.toNatClampNeg) :: st) (f_W xs I L) Q := Wp.aald e44_39 rfl ht hi
theorem e44_40 : decode (j_co 44) 40 = .ok (.getfield 79, 3) := by decide +kernel
set_option maxRecDepth 20000 in
theorem w44_40 {d : Nat} {st : List Value} {Q : Option Value × jW → Prop} {ls : jL} {xs : List Value} {I : fI} {L : fL} {o : Nat} (ht : f_tg o = 3) : Wp d 44 40 ls (.ref o :: st) (f_W xs I L) Q = Wp d 44 43 ls (.ref (f_rf o 0) :: st) (f_W xs I L) Q := Wp.getR (ci := 3) (k := 0) e44_40 rfl (by decide) (by decide) rfl ht
theorem e44_43 : decode (j_co 44) 43 = .ok (.aload_n 0, 1) := by decide +kernel
set_option maxRecDepth 20000 in
theorem w44_43 {d : Nat} {st : List Value} {Q : Option Value × jW → Prop} {w : jW} {a1 a2 a3 a4 a5 a6 : Option Value} {x : Nat} : Wp d 44 43 [some (.ref x), a1, a2, a3, a4, a5, a6] (st) w Q = Wp d 44 44 [some (.ref x), a1, a2, a3, a4, a5, a6] (.ref x :: st) w Q := Wp.loc e44_43 rfl rfl rfl
theorem e44_44 : decode (j_co 44) 44 = .ok (.getfield 24, 3) := by decide +kernel
set_option maxRecDepth 20000 in
theorem w44_44 {d : Nat} {st : List Value} {Q : Option Value × jW → Prop} {ls : jL} {xs : List Value} {I : fI} {L : fL} {o : Nat} (ht : f_tg o = 7) : Wp d 44 44 ls (.ref o :: st) (f_W xs I L) Q = Wp d 44 47 ls (.ref (f_rf o 3) :: st) (f_W xs I L) Q := Wp.getR (ci := 7) (k := 3) e44_44 rfl (by decide) (by decide) rfl ht
theorem e44_47 : decode (j_co 44) 47 = .ok (.invokevirtual 161, 3) := by decide +kernel
set_option maxRecDepth 20000 in
theorem w44_47 {d : Nat} {st : List Value} {Q : Option Value × jW → Prop} {ls : jL} {xs : List Value} {I : fI} {L : fL} {r : Nat} {x0 : Nat} (hs : j_sumc st ≤ 8) (ht : f_tg r = 0) : Wp (d + 1) 44 47 ls (.ref x0 :: .ref r :: st) (f_W xs I L) Q = Wp d 45 0 [some (.ref r), some (.ref x0), none] [] (f_W xs I L) (fun r1 => Wp (d + 1) 44 50 ls (r1.1.toList ++ st) r1.2 Q) := Wp.cv (y' := 45) (as := [.ref x0]) e44_47 rfl (by decide) rfl (show 2 ≤ 3 by decide) (by decide) hs ht
theorem e44_50 : decode (j_co 44) 50 = .ok (.ifCond .eq 4, 3) := by decide +kernel
set_option maxRecDepth 20000 in
theorem w44_50 {d : Nat} {st : List Value} {Q : Option Value × jW → Prop} {ls : jL} {w : jW} {a : Int32} : Wp d 44 50 ls (.int a :: st) w Q = ((a = nI 0 → Wp d 44 54 ls st w Q) ∧ (¬ a = nI 0 → Wp d 44 53 ls st w Q)) := Wp.if2 (c := a = nI 0) (off := 4) e44_50 rfl rfl rfl rfl rfl
theorem e44_53 : decode (j_co 44) 53 = .ok (.return_, 1) := by decide +kernel
set_option maxRecDepth 20000 in
theorem w44_53 {d : Nat} {Q : Option Value × jW → Prop} {ls : jL} {w : jW} : Wp d 44 53 ls [] w Q = Q (none, w) := Wp.ret e44_53 rfl
theorem e44_54 : decode (j_co 44) 54 = .ok (.iload 6, 2) := by decide +kernel
set_option maxRecDepth 20000 in
theorem w44_54 {d : Nat} {st : List Value} {Q : Option Value × jW → Prop} {w : jW} {a0 a1 a2 a3 a4 a5 : Option Value} {x : Int32} : Wp d 44 54 [a0, a1, a2, a3, a4, a5, some (.int x)] (st) w Q = Wp d 44 56 [a0, a1, a2, a3, a4, a5, some (.int x)] (.int x :: st) w Q := Wp.loc e44_54 rfl rfl rfl
theorem e44_56 : decode (j_co 44) 56 = .ok (.istore 4, 2) := by decide +kernel
set_option maxRecDepth 20000 in
theorem w44_56 {d : Nat} {st : List Value} {Q : Option Value × jW → Prop} {w : jW} {a0 a1 a2 a3 a4 a5 a6 : Option Value} {x : Int32} (h : j_cp a3) : Wp d 44 56 [a0, a1, a2, a3, a4, a5, a6] (.int x :: st) w Q = Wp d 44 58 [a0, a1, a2, a3, some (.int x), a5, a6] (st) w Q := Wp.loc e44_56 rfl rfl (v_stI (ls := [a0, a1, a2, a3, a4, a5, a6]) (k := 4) (show 4 < 7 by decide) h)
theorem e44_58 : decode (j_co 44) 58 = .ok (.iinc 5 1, 3) := by decide +kernel
set_option maxRecDepth 20000 in
theorem w44_58 {d : Nat} {st : List Value} {Q : Option Value × jW → Prop} {w : jW} {a0 a1 a2 a3 a4 a6 : Option Value} {x : Int32} (h : j_cp a4) : Wp d 44 58 [a0, a1, a2, a3, a4, some (.int x), a6] (st) w Q = Wp d 44 61 [a0, a1, a2, a3, a4, some (.int (x + nI 1)), a6] (st) w Q := Wp.loc e44_58 rfl rfl (v_inc (ls := [a0, a1, a2, a3, a4, some (.int x), a6]) (k := 5) (n := 1) rfl (show 5 < 7 by decide) h)
theorem e44_61 : decode (j_co 44) 61 = .ok (.iinc 6 1, 3) := by decide +kernel
set_option maxRecDepth 20000 in
theorem w44_61 {d : Nat} {st : List Value} {Q : Option Value × jW → Prop} {w : jW} {a0 a1 a2 a3 a4 a5 : Option Value} {x : Int32} (h : j_cp a5) : Wp d 44 61 [a0, a1, a2, a3, a4, a5, some (.int x)] (st) w Q = Wp d 44 64 [a0, a1, a2, a3, a4, a5, some (.int (x + nI 1))] (st) w Q := Wp.loc e44_61 rfl rfl (v_inc (ls := [a0, a1, a2, a3, a4, a5, some (.int x)]) (k := 6) (n := 1) rfl (show 6 < 7 by decide) h)
theorem e44_64 : decode (j_co 44) 64 = .ok (.goto (-54), 3) := by decide +kernel
set_option maxRecDepth 20000 in
theorem w44_64 {d : Nat} {st : List Value} {Q : Option Value × jW → Prop} {ls : jL} {w : jW} : Wp d 44 64 ls (st) w Q = Wp d 44 10 ls (st) w Q := Wp.br e44_64 (Or.inl rfl) rfl rfl rfl rfl
theorem e44_67 : decode (j_co 44) 67 = .ok (.iload 5, 2) := by decide +kernel
set_option maxRecDepth 20000 in
theorem w44_67 {d : Nat} {st : List Value} {Q : Option Value × jW → Prop} {w : jW} {a0 a1 a2 a3 a4 a6 : Option Value} {x : Int32} : Wp d 44 67 [a0, a1, a2, a3, a4, some (.int x), a6] (st) w Q = Wp d 44 69 [a0, a1, a2, a3, a4, some (.int x), a6] (.int x :: st) w Q := Wp.loc e44_67 rfl rfl rfl
theorem e44_69 : decode (j_co 44) 69 = .ok (.aload_n 0, 1) := by decide +kernel
set_option maxRecDepth 20000 in
theorem w44_69 {d : Nat} {st : List Value} {Q : Option Value × jW → Prop} {w : jW} {a1 a2 a3 a4 a5 a6 : Option Value} {x : Nat} : Wp d 44 69 [some (.ref x), a1, a2, a3, a4, a5, a6] (st) w Q = Wp d 44 70 [some (.ref x), a1, a2, a3, a4, a5, a6] (.ref x :: st) w Q := Wp.loc e44_69 rfl rfl rfl
theorem e44_70 : decode (j_co 44) 70 = .ok (.getfield 31, 3) := by decide +kernel
set_option maxRecDepth 20000 in
theorem w44_70 {d : Nat} {st : List Value} {Q : Option Value × jW → Prop} {ls : jL} {xs : List Value} {I : fI} {L : fL} {o : Nat} (ht : f_tg o = 7) : Wp d 44 70 ls (.ref o :: st) (f_W xs I L) Q = Wp d 44 73 ls (.int (I o 5) :: st) (f_W xs I L) Q := Wp.getI (ci := 7) (k := 5) e44_70 rfl (by decide) (by decide) (by decide) ht
theorem e44_73 : decode (j_co 44) 73 = .ok (.if_icmp .lt 52, 3) := by decide +kernel
set_option maxRecDepth 20000 in
theorem w44_73 {d : Nat} {st : List Value} {Q : Option Value × jW → Prop} {ls : jL} {w : jW} {a b : Int32} : Wp d 44 73 ls (.int b :: .int a :: st) w Q = ((a < b → Wp d 44 125 ls st w Q) ∧ (¬ a < b → Wp d 44 76 ls st w Q)) := Wp.if2 (c := a < b) (off := 52) e44_73 rfl rfl rfl rfl rfl
theorem e44_76 : decode (j_co 44) 76 = .ok (.iload 4, 2) := by decide +kernel
set_option maxRecDepth 20000 in
theorem w44_76 {d : Nat} {st : List Value} {Q : Option Value × jW → Prop} {w : jW} {a0 a1 a2 a3 a5 a6 : Option Value} {x : Int32} : Wp d 44 76 [a0, a1, a2, a3, some (.int x), a5, a6] (st) w Q = Wp d 44 78 [a0, a1, a2, a3, some (.int x), a5, a6] (.int x :: st) w Q := Wp.loc e44_76 rfl rfl rfl
theorem e44_78 : decode (j_co 44) 78 = .ok (.bipush (-4), 2) := by decide +kernel
set_option maxRecDepth 20000 in
theorem w44_78 {d : Nat} {st : List Value} {Q : Option Value × jW → Prop} {ls : jL} {w : jW} : Wp d 44 78 ls (st) w Q = Wp d 44 80 ls (.int (-4) :: st) w Q := Wp.alu e44_78 rfl rfl
theorem e44_80 : decode (j_co 44) 80 = .ok (.if_icmp .eq 45, 3) := by decide +kernel
set_option maxRecDepth 20000 in
theorem w44_80 {d : Nat} {st : List Value} {Q : Option Value × jW → Prop} {ls : jL} {w : jW} {a b : Int32} : Wp d 44 80 ls (.int b :: .int a :: st) w Q = ((a = b → Wp d 44 125 ls st w Q) ∧ (¬ a = b → Wp d 44 83 ls st w Q)) := Wp.if2 (c := a = b) (off := 45) e44_80 rfl rfl rfl rfl rfl
theorem e44_83 : decode (j_co 44) 83 = .ok (.aload_n 0, 1) := by decide +kernel
set_option maxRecDepth 20000 in
theorem w44_83 {d : Nat} {st : List Value} {Q : Option Value × jW → Prop} {w : jW} {a1 a2 a3 a4 a5 a6 : Option Value} {x : Nat} : Wp d 44 83 [some (.ref x), a1, a2, a3, a4, a5, a6] (st) w Q = Wp d 44 84 [some (.ref x), a1, a2, a3, a4, a5, a6] (.ref x :: st) w Q := Wp.loc e44_83 rfl rfl rfl
theorem e44_84 : decode (j_co 44) 84 = .ok (.getfield 11, 3) := by decide +kernel
set_option maxRecDepth 20000 in
theorem w44_84 {d : Nat} {st : List Value} {Q : Option Value × jW → Prop} {ls : jL} {xs : List Value} {I : fI} {L : fL} {o : Nat} (ht : f_tg o = 7) : Wp d 44 84 ls (.ref o :: st) (f_W xs I L) Q = Wp d 44 87 ls (.ref (f_rf o 1) :: st) (f_W xs I L) Q := Wp.getR (ci := 7) (k := 1) e44_84 rfl (by decide) (by decide) rfl ht
theorem e44_87 : decode (j_co 44) 87 = .ok (.iload 4, 2) := by decide +kernel
set_option maxRecDepth 20000 in
theorem w44_87 {d : Nat} {st : List Value} {Q : Option Value × jW → Prop} {w : jW} {a0 a1 a2 a3 a5 a6 : Option Value} {x : Int32} : Wp d 44 87 [a0, a1, a2, a3, some (.int x), a5, a6] (st) w Q = Wp d 44 89 [a0, a1, a2, a3, some (.int x), a5, a6] (.int x :: st) w Q := Wp.loc e44_87 rfl rfl rfl
theorem e44_89 : decode (j_co 44) 89 = .ok (.aaload, 1) := by decide +kernel
set_option maxRecDepth 20000 in
theorem w44_89 {d : Nat} {st : List Value} {Q : Option Value × jW → Prop} {ls : jL} {xs : List Value} {I : fI} {L : fL} {o : Nat} {i : Int32} (ht : 103 ≤ f_tg o ∧ f_tg o ≤ 106) (hi : ¬ (i < 0 ∨ f_ln o ≤ i.toNatClampNeg)) : Wp d 44 89 ls (.int i :: .ref o :: st) (f_W xs I L) Q = Wp d 44 90 ls (.ref (f_rf o i.toNatClampNeg) :: st) (f_W xs I L) Q := Wp.aald e44_89 rfl ht hi
theorem e44_90 : decode (j_co 44) 90 = .ok (.getfield 79, 3) := by decide +kernel
set_option maxRecDepth 20000 in
theorem w44_90 {d : Nat} {st : List Value} {Q : Option Value × jW → Prop} {ls : jL} {xs : List Value} {I : fI} {L : fL} {o : Nat} (ht : f_tg o = 3) : Wp d 44 90 ls (.ref o :: st) (f_W xs I L) Q = Wp d 44 93 ls (.ref (f_rf o 0) :: st) (f_W xs I L) Q := Wp.getR (ci := 3) (k := 0) e44_90 rfl (by decide) (by decide) rfl ht
theorem e44_93 : decode (j_co 44) 93 = .ok (.aload_n 0, 1) := by decide +kernel
set_option maxRecDepth 20000 in
theorem w44_93 {d : Nat} {st : List Value} {Q : Option Value × jW → Prop} {w : jW} {a1 a2 a3 a4 a5 a6 : Option Value} {x : Nat} : Wp d 44 93 [some (.ref x), a1, a2, a3, a4, a5, a6] (st) w Q = Wp d 44 94 [some (.ref x), a1, a2, a3, a4, a5, a6] (.ref x :: st) w Q := Wp.loc e44_93 rfl rfl rfl
theorem e44_94 : decode (j_co 44) 94 = .ok (.getfield 24, 3) := by decide +kernel
set_option maxRecDepth 20000 in
theorem w44_94 {d : Nat} {st : List Value} {Q : Option Value × jW → Prop} {ls : jL} {xs : List Value} {I : fI} {L : fL} {o : Nat} (ht : f_tg o = 7) : Wp d 44 94 ls (.ref o :: st) (f_W xs I L) Q = Wp d 44 97 ls (.ref (f_rf o 3) :: st) (f_W xs I L) Q := Wp.getR (ci := 7) (k := 3) e44_94 rfl (by decide) (by decide) rfl ht
theorem e44_97 : decode (j_co 44) 97 = .ok (.invokevirtual 164, 3) := by decide +kernel
set_option maxRecDepth 20000 in
theorem w44_97 {d : Nat} {st : List Value} {Q : Option Value × jW → Prop} {ls : jL} {xs : List Value} {I : fI} {L : fL} {r : Nat} {x0 : Nat} (hs : j_sumc st ≤ 8) (ht : f_tg r = 0) : Wp (d + 1) 44 97 ls (.ref x0 :: .ref r :: st) (f_W xs I L) Q = Wp d 46 0 [some (.ref r), some (.ref x0), none] [] (f_W xs I L) (fun r1 => Wp (d + 1) 44 100 ls (r1.1.toList ++ st) r1.2 Q) := Wp.cv (y' := 46) (as := [.ref x0]) e44_97 rfl (by decide) rfl (show 2 ≤ 3 by decide) (by decide) hs ht
theorem e44_100 : decode (j_co 44) 100 = .ok (.aload_n 0, 1) := by decide +kernel
set_option maxRecDepth 20000 in
theorem w44_100 {d : Nat} {st : List Value} {Q : Option Value × jW → Prop} {w : jW} {a1 a2 a3 a4 a5 a6 : Option Value} {x : Nat} : Wp d 44 100 [some (.ref x), a1, a2, a3, a4, a5, a6] (st) w Q = Wp d 44 101 [some (.ref x), a1, a2, a3, a4, a5, a6] (.ref x :: st) w Q := Wp.loc e44_100 rfl rfl rfl
theorem e44_101 : decode (j_co 44) 101 = .ok (.getfield 11, 3) := by decide +kernel
set_option maxRecDepth 20000 in
theorem w44_101 {d : Nat} {st : List Value} {Q : Option Value × jW → Prop} {ls : jL} {xs : List Value} {I : fI} {L : fL} {o : Nat} (ht : f_tg o = 7) : Wp d 44 101 ls (.ref o :: st) (f_W xs I L) Q = Wp d 44 104 ls (.ref (f_rf o 1) :: st) (f_W xs I L) Q := Wp.getR (ci := 7) (k := 1) e44_101 rfl (by decide) (by decide) rfl ht
theorem e44_104 : decode (j_co 44) 104 = .ok (.iload 4, 2) := by decide +kernel
set_option maxRecDepth 20000 in
theorem w44_104 {d : Nat} {st : List Value} {Q : Option Value × jW → Prop} {w : jW} {a0 a1 a2 a3 a5 a6 : Option Value} {x : Int32} : Wp d 44 104 [a0, a1, a2, a3, some (.int x), a5, a6] (st) w Q = Wp d 44 106 [a0, a1, a2, a3, some (.int x), a5, a6] (.int x :: st) w Q := Wp.loc e44_104 rfl rfl rfl
theorem e44_106 : decode (j_co 44) 106 = .ok (.aaload, 1) := by decide +kernel
set_option maxRecDepth 20000 in
theorem w44_106 {d : Nat} {st : List Value} {Q : Option Value × jW → Prop} {ls : jL} {xs : List Value} {I : fI} {L : fL} {o : Nat} {i : Int32} (ht : 103 ≤ f_tg o ∧ f_tg o ≤ 106) (hi : ¬ (i < 0 ∨ f_ln o ≤ i.toNatClampNeg)) : Wp d 44 106 ls (.int i :: .ref o :: st) (f_W xs I L) Q = Wp d 44 107 ls (.ref (f_rf o i.toNatClampNeg) :: st) (f_W xs I L) Q := Wp.aald e44_106 rfl ht hi
theorem e44_107 : decode (j_co 44) 107 = .ok (.iconst 1, 1) := by decide +kernel
set_option maxRecDepth 20000 in
theorem w44_107 {d : Nat} {st : List Value} {Q : Option Value × jW → Prop} {ls : jL} {w : jW} : Wp d 44 107 ls (st) w Q = Wp d 44 108 ls (.int (nI 1) :: st) w Q := Wp.alu e44_107 rfl rfl
theorem e44_108 : decode (j_co 44) 108 = .ok (.putfield 167, 3) := by decide +kernel
set_option maxRecDepth 20000 in
theorem w44_108 {d : Nat} {st : List Value} {Q : Option Value × jW → Prop} {ls : jL} {xs : List Value} {I : fI} {L : fL} {o : Nat} {x : Int32} (ht : f_tg o = 3) (hx : x = 0 ∨ x = 1) : Wp d 44 108 ls (.int x :: .ref o :: st) (f_W xs I L) Q = Wp d 44 111 ls (st) (f_W xs (f_up I o 5 x) L) Q := Wp.putI (ci := 3) (k := 5) e44_108 rfl (by decide) (by decide) (by rcases hx with rfl | rfl <;> rfl) (by decide) ht
theorem e44_111 : decode (j_co 44) 111 = .ok (.aload_n 0, 1) := by decide +kernel
set_option maxRecDepth 20000 in
theorem w44_111 {d : Nat} {st : List Value} {Q : Option Value × jW → Prop} {w : jW} {a1 a2 a3 a4 a5 a6 : Option Value} {x : Nat} : Wp d 44 111 [some (.ref x), a1, a2, a3, a4, a5, a6] (st) w Q = Wp d 44 112 [some (.ref x), a1, a2, a3, a4, a5, a6] (.ref x :: st) w Q := Wp.loc e44_111 rfl rfl rfl
theorem e44_112 : decode (j_co 44) 112 = .ok (.getfield 11, 3) := by decide +kernel
set_option maxRecDepth 20000 in
theorem w44_112 {d : Nat} {st : List Value} {Q : Option Value × jW → Prop} {ls : jL} {xs : List Value} {I : fI} {L : fL} {o : Nat} (ht : f_tg o = 7) : Wp d 44 112 ls (.ref o :: st) (f_W xs I L) Q = Wp d 44 115 ls (.ref (f_rf o 1) :: st) (f_W xs I L) Q := Wp.getR (ci := 7) (k := 1) e44_112 rfl (by decide) (by decide) rfl ht
theorem e44_115 : decode (j_co 44) 115 = .ok (.iload 4, 2) := by decide +kernel
set_option maxRecDepth 20000 in
theorem w44_115 {d : Nat} {st : List Value} {Q : Option Value × jW → Prop} {w : jW} {a0 a1 a2 a3 a5 a6 : Option Value} {x : Int32} : Wp d 44 115 [a0, a1, a2, a3, some (.int x), a5, a6] (st) w Q = Wp d 44 117 [a0, a1, a2, a3, some (.int x), a5, a6] (.int x :: st) w Q := Wp.loc e44_115 rfl rfl rfl
theorem e44_117 : decode (j_co 44) 117 = .ok (.aaload, 1) := by decide +kernel
set_option maxRecDepth 20000 in
theorem w44_117 {d : Nat} {st : List Value} {Q : Option Value × jW → Prop} {ls : jL} {xs : List Value} {I : fI} {L : fL} {o : Nat} {i : Int32} (ht : 103 ≤ f_tg o ∧ f_tg o ≤ 106) (hi : ¬ (i < 0 ∨ f_ln o ≤ i.toNatClampNeg)) : Wp d 44 117 ls (.int i :: .ref o :: st) (f_W xs I L) Q = Wp d 44 118 ls (.ref (f_rf o i.toNatClampNeg) :: st) (f_W xs I L) Q := Wp.aald e44_117 rfl ht hi
theorem e44_118 : decode (j_co 44) 118 = .ok (.iconst 0, 1) := by decide +kernel
set_option maxRecDepth 20000 in
theorem w44_118 {d : Nat} {st : List Value} {Q : Option Value × jW → Prop} {ls : jL} {w : jW} : Wp d 44 118 ls (st) w Q = Wp d 44 119 ls (.int (nI 0) :: st) w Q := Wp.alu e44_118 rfl rfl
theorem e44_119 : decode (j_co 44) 119 = .ok (.putfield 126, 3) := by decide +kernel
set_option maxRecDepth 20000 in
theorem w44_119 {d : Nat} {st : List Value} {Q : Option Value × jW → Prop} {ls : jL} {xs : List Value} {I : fI} {L : fL} {o : Nat} {x : Int32} (ht : f_tg o = 3) (hx : x = 0 ∨ x = 1) : Wp d 44 119 ls (.int x :: .ref o :: st) (f_W xs I L) Q = Wp d 44 122 ls (st) (f_W xs (f_up I o 4 x) L) Q := Wp.putI (ci := 3) (k := 4) e44_119 rfl (by decide) (by decide) (by rcases hx with rfl | rfl <;> rfl) (by decide) ht
theorem e44_122 : decode (j_co 44) 122 = .ok (.goto 10, 3) := by decide +kernel
set_option maxRecDepth 20000 in
theorem w44_122 {d : Nat} {st : List Value} {Q : Option Value × jW → Prop} {ls : jL} {w : jW} : Wp d 44 122 ls (st) w Q = Wp d 44 132 ls (st) w Q := Wp.br e44_122 (Or.inl rfl) rfl rfl rfl rfl
theorem e44_125 : decode (j_co 44) 125 = .ok (.aload_n 0, 1) := by decide +kernel
set_option maxRecDepth 20000 in
theorem w44_125 {d : Nat} {st : List Value} {Q : Option Value × jW → Prop} {w : jW} {a1 a2 a3 a4 a5 a6 : Option Value} {x : Nat} : Wp d 44 125 [some (.ref x), a1, a2, a3, a4, a5, a6] (st) w Q = Wp d 44 126 [some (.ref x), a1, a2, a3, a4, a5, a6] (.ref x :: st) w Q := Wp.loc e44_125 rfl rfl rfl
theorem e44_126 : decode (j_co 44) 126 = .ok (.iload_n 1, 1) := by decide +kernel
set_option maxRecDepth 20000 in
theorem w44_126 {d : Nat} {st : List Value} {Q : Option Value × jW → Prop} {w : jW} {a0 a2 a3 a4 a5 a6 : Option Value} {x : Int32} : Wp d 44 126 [a0, some (.int x), a2, a3, a4, a5, a6] (st) w Q = Wp d 44 127 [a0, some (.int x), a2, a3, a4, a5, a6] (.int x :: st) w Q := Wp.loc e44_126 rfl rfl rfl
theorem e44_127 : decode (j_co 44) 127 = .ok (.iload_n 2, 1) := by decide +kernel
set_option maxRecDepth 20000 in
theorem w44_127 {d : Nat} {st : List Value} {Q : Option Value × jW → Prop} {w : jW} {a0 a1 a3 a4 a5 a6 : Option Value} {x : Int32} : Wp d 44 127 [a0, a1, some (.int x), a3, a4, a5, a6] (st) w Q = Wp d 44 128 [a0, a1, some (.int x), a3, a4, a5, a6] (.int x :: st) w Q := Wp.loc e44_127 rfl rfl rfl
theorem e44_128 : decode (j_co 44) 128 = .ok (.iload_n 3, 1) := by decide +kernel
set_option maxRecDepth 20000 in
theorem w44_128 {d : Nat} {st : List Value} {Q : Option Value × jW → Prop} {w : jW} {a0 a1 a2 a4 a5 a6 : Option Value} {x : Int32} : Wp d 44 128 [a0, a1, a2, some (.int x), a4, a5, a6] (st) w Q = Wp d 44 129 [a0, a1, a2, some (.int x), a4, a5, a6] (.int x :: st) w Q := Wp.loc e44_128 rfl rfl rfl
theorem e44_129 : decode (j_co 44) 129 = .ok (.invokevirtual 62, 3) := by decide +kernel
set_option maxRecDepth 20000 in
theorem w44_129 {d : Nat} {st : List Value} {Q : Option Value × jW → Prop} {ls : jL} {xs : List Value} {I : fI} {L : fL} {r : Nat} {x0 : Int32} {x1 : Int32} {x2 : Int32} (hs : j_sumc st ≤ 8) (ht : f_tg r = 7) : Wp (d + 1) 44 129 ls (.int x2 :: .int x1 :: .int x0 :: .ref r :: st) (f_W xs I L) Q = Wp d 38 0 [some (.ref r), some (.int x0), some (.int x1), some (.int x2), none] [] (f_W xs I L) (fun r1 => Wp (d + 1) 44 132 ls (r1.1.toList ++ st) r1.2 Q) := Wp.cv (y' := 38) (as := [.int x0, .int x1, .int x2]) e44_129 rfl (by decide) rfl (show 4 ≤ 5 by decide) (by decide) hs ht
theorem e44_132 : decode (j_co 44) 132 = .ok (.return_, 1) := by decide +kernel
set_option maxRecDepth 20000 in
theorem w44_132 {d : Nat} {Q : Option Value × jW → Prop} {ls : jL} {w : jW} : Wp d 44 132 ls [] w Q = Q (none, w) := Wp.ret e44_132 rfl
/-! Machine.spring -/
theorem e47_0 : decode (j_co 47) 0 = .ok (.aload_n 3, 1) := by decide +kernel
set_option maxRecDepth 20000 in
theorem w47_0 {d : Nat} {st : List Value} {Q : Option Value × jW → Prop} {w : jW} {a0 a1 a2 a4 : Option Value} {x : Nat} : Wp d 47 0 [a0, a1, a2, some (.ref x), a4] (st) w Q = Wp d 47 1 [a0, a1, a2, some (.ref x), a4] (.ref x :: st) w Q := Wp.loc e47_0 rfl rfl rfl
theorem e47_1 : decode (j_co 47) 1 = .ok (.aload_n 2, 1) := by decide +kernel
set_option maxRecDepth 20000 in
theorem w47_1 {d : Nat} {st : List Value} {Q : Option Value × jW → Prop} {w : jW} {a0 a1 a3 a4 : Option Value} {x : Nat} : Wp d 47 1 [a0, a1, some (.ref x), a3, a4] (st) w Q = Wp d 47 2 [a0, a1, some (.ref x), a3, a4] (.ref x :: st) w Q := Wp.loc e47_1 rfl rfl rfl
theorem e47_2 : decode (j_co 47) 2 = .ok (.invokevirtual 56, 3) := by decide +kernel
set_option maxRecDepth 20000 in
theorem w47_2 {d : Nat} {st : List Value} {Q : Option Value × jW → Prop} {ls : jL} {xs : List Value} {I : fI} {L : fL} {r : Nat} {x0 : Nat} (hs : j_sumc st ≤ 8) (ht : f_tg r = 0) : Wp (d + 1) 47 2 ls (.ref x0 :: .ref r :: st) (f_W xs I L) Q = Wp d 31 0 [some (.ref r), some (.ref x0), none] [] (f_W xs I L) (fun r1 => Wp (d + 1) 47 5 ls (r1.1.toList ++ st) r1.2 Q) := Wp.cv (y' := 31) (as := [.ref x0]) e47_2 rfl (by decide) rfl (show 2 ≤ 3 by decide) (by decide) hs ht
theorem e47_5 : decode (j_co 47) 5 = .ok (.aload_n 3, 1) := by decide +kernel
set_option maxRecDepth 20000 in
theorem w47_5 {d : Nat} {st : List Value} {Q : Option Value × jW → Prop} {w : jW} {a0 a1 a2 a4 : Option Value} {x : Nat} : Wp d 47 5 [a0, a1, a2, some (.ref x), a4] (st) w Q = Wp d 47 6 [a0, a1, a2, some (.ref x), a4] (.ref x :: st) w Q := Wp.loc e47_5 rfl rfl rfl
theorem e47_6 : decode (j_co 47) 6 = .ok (.aload_n 1, 1) := by decide +kernel
set_option maxRecDepth 20000 in
theorem w47_6 {d : Nat} {st : List Value} {Q : Option Value × jW → Prop} {w : jW} {a0 a2 a3 a4 : Option Value} {x : Nat} : Wp d 47 6 [a0, some (.ref x), a2, a3, a4] (st) w Q = Wp d 47 7 [a0, some (.ref x), a2, a3, a4] (.ref x :: st) w Q := Wp.loc e47_6 rfl rfl rfl
theorem e47_7 : decode (j_co 47) 7 = .ok (.getfield 80, 3) := by decide +kernel
set_option maxRecDepth 20000 in
theorem w47_7 {d : Nat} {st : List Value} {Q : Option Value × jW → Prop} {ls : jL} {xs : List Value} {I : fI} {L : fL} {o : Nat} (ht : f_tg o = 4) : Wp d 47 7 ls (.ref o :: st) (f_W xs I L) Q = Wp d 47 10 ls (.ref (f_rf o 0) :: st) (f_W xs I L) Q := Wp.getR (ci := 4) (k := 0) e47_7 rfl (by decide) (by decide) rfl ht
theorem e47_10 : decode (j_co 47) 10 = .ok (.invokevirtual 63, 3) := by decide +kernel
set_option maxRecDepth 20000 in
theorem w47_10 {d : Nat} {st : List Value} {Q : Option Value × jW → Prop} {ls : jL} {xs : List Value} {I : fI} {L : fL} {r : Nat} {x0 : Nat} (hs : j_sumc st ≤ 8) (ht : f_tg r = 0) : Wp (d + 1) 47 10 ls (.ref x0 :: .ref r :: st) (f_W xs I L) Q = Wp d 32 0 [some (.ref r), some (.ref x0), none] [] (f_W xs I L) (fun r1 => Wp (d + 1) 47 13 ls (r1.1.toList ++ st) r1.2 Q) := Wp.cv (y' := 32) (as := [.ref x0]) e47_10 rfl (by decide) rfl (show 2 ≤ 3 by decide) (by decide) hs ht
theorem e47_13 : decode (j_co 47) 13 = .ok (.aload_n 3, 1) := by decide +kernel
set_option maxRecDepth 20000 in
theorem w47_13 {d : Nat} {st : List Value} {Q : Option Value × jW → Prop} {w : jW} {a0 a1 a2 a4 : Option Value} {x : Nat} : Wp d 47 13 [a0, a1, a2, some (.ref x), a4] (st) w Q = Wp d 47 14 [a0, a1, a2, some (.ref x), a4] (.ref x :: st) w Q := Wp.loc e47_13 rfl rfl rfl
theorem e47_14 : decode (j_co 47) 14 = .ok (.invokevirtual 66, 3) := by decide +kernel
set_option maxRecDepth 20000 in
theorem w47_14 {d : Nat} {st : List Value} {Q : Option Value × jW → Prop} {ls : jL} {xs : List Value} {I : fI} {L : fL} {r : Nat} (hs : j_sumc st ≤ 8) (ht : f_tg r = 0) : Wp (d + 1) 47 14 ls (.ref r :: st) (f_W xs I L) Q = Wp d 37 0 [some (.ref r), none] [] (f_W xs I L) (fun r1 => Wp (d + 1) 47 17 ls (r1.1.toList ++ st) r1.2 Q) := Wp.cv (y' := 37) (as := []) e47_14 rfl (by decide) rfl (show 1 ≤ 2 by decide) (by decide) hs ht
theorem e47_17 : decode (j_co 47) 17 = .ok (.ifCond .eq 5, 3) := by decide +kernel
set_option maxRecDepth 20000 in
theorem w47_17 {d : Nat} {st : List Value} {Q : Option Value × jW → Prop} {ls : jL} {w : jW} {a : Int32} : Wp d 47 17 ls (.int a :: st) w Q = ((a = nI 0 → Wp d 47 22 ls st w Q) ∧ (¬ a = nI 0 → Wp d 47 20 ls st w Q)) := Wp.if2 (c := a = nI 0) (off := 5) e47_17 rfl rfl rfl rfl rfl
theorem e47_20 : decode (j_co 47) 20 = .ok (.iconst 0, 1) := by decide +kernel
set_option maxRecDepth 20000 in
theorem w47_20 {d : Nat} {st : List Value} {Q : Option Value × jW → Prop} {ls : jL} {w : jW} : Wp d 47 20 ls (st) w Q = Wp d 47 21 ls (.int (nI 0) :: st) w Q := Wp.alu e47_20 rfl rfl
theorem e47_21 : decode (j_co 47) 21 = .ok (.ireturn, 1) := by decide +kernel
set_option maxRecDepth 20000 in
theorem w47_21 {d : Nat} {Q : Option Value × jW → Prop} {ls : jL} {w : jW} {x : Int32} (hx : x = 0 ∨ x = 1) : Wp d 47 21 ls [.int x] w Q = Q (some (.int x), w) := Wp.ret e47_21 (by rcases hx with rfl | rfl <;> rfl)
theorem e47_22 : decode (j_co 47) 22 = .ok (.iconst 0, 1) := by decide +kernel
set_option maxRecDepth 20000 in
theorem w47_22 {d : Nat} {st : List Value} {Q : Option Value × jW → Prop} {ls : jL} {w : jW} : Wp d 47 22 ls (st) w Q = Wp d 47 23 ls (.int (nI 0) :: st) w Q := Wp.alu e47_22 rfl rfl
theorem e47_23 : decode (j_co 47) 23 = .ok (.istore 4, 2) := by decide +kernel
set_option maxRecDepth 20000 in
theorem w47_23 {d : Nat} {st : List Value} {Q : Option Value × jW → Prop} {w : jW} {a0 a1 a2 a3 a4 : Option Value} {x : Int32} (h : j_cp a3) : Wp d 47 23 [a0, a1, a2, a3, a4] (.int x :: st) w Q = Wp d 47 25 [a0, a1, a2, a3, some (.int x)] (st) w Q := Wp.loc e47_23 rfl rfl (v_stI (ls := [a0, a1, a2, a3, a4]) (k := 4) (show 4 < 5 by decide) h)
theorem e47_25 : decode (j_co 47) 25 = .ok (.iload 4, 2) := by decide +kernel
set_option maxRecDepth 20000 in
theorem w47_25 {d : Nat} {st : List Value} {Q : Option Value × jW → Prop} {w : jW} {a0 a1 a2 a3 : Option Value} {x : Int32} : Wp d 47 25 [a0, a1, a2, a3, some (.int x)] (st) w Q = Wp d 47 27 [a0, a1, a2, a3, some (.int x)] (.int x :: st) w Q := Wp.loc e47_25 rfl rfl rfl
theorem e47_27 : decode (j_co 47) 27 = .ok (.iconst 3, 1) := by decide +kernel
set_option maxRecDepth 20000 in
theorem w47_27 {d : Nat} {st : List Value} {Q : Option Value × jW → Prop} {ls : jL} {w : jW} : Wp d 47 27 ls (st) w Q = Wp d 47 28 ls (.int (nI 3) :: st) w Q := Wp.alu e47_27 rfl rfl
theorem e47_28 : decode (j_co 47) 28 = .ok (.if_icmp .ge 42, 3) := by decide +kernel
set_option maxRecDepth 20000 in
theorem w47_28 {d : Nat} {st : List Value} {Q : Option Value × jW → Prop} {ls : jL} {w : jW} {a b : Int32} : Wp d 47 28 ls (.int b :: .int a :: st) w Q = ((b ≤ a → Wp d 47 70 ls st w Q) ∧ (¬ b ≤ a → Wp d 47 31 ls st w Q)) := Wp.if2 (c := b ≤ a) (off := 42) e47_28 rfl rfl rfl rfl rfl
theorem e47_31 : decode (j_co 47) 31 = .ok (.aload_n 1, 1) := by decide +kernel
set_option maxRecDepth 20000 in
theorem w47_31 {d : Nat} {st : List Value} {Q : Option Value × jW → Prop} {w : jW} {a0 a2 a3 a4 : Option Value} {x : Nat} : Wp d 47 31 [a0, some (.ref x), a2, a3, a4] (st) w Q = Wp d 47 32 [a0, some (.ref x), a2, a3, a4] (.ref x :: st) w Q := Wp.loc e47_31 rfl rfl rfl
theorem e47_32 : decode (j_co 47) 32 = .ok (.iload 4, 2) := by decide +kernel
set_option maxRecDepth 20000 in
theorem w47_32 {d : Nat} {st : List Value} {Q : Option Value × jW → Prop} {w : jW} {a0 a1 a2 a3 : Option Value} {x : Int32} : Wp d 47 32 [a0, a1, a2, a3, some (.int x)] (st) w Q = Wp d 47 34 [a0, a1, a2, a3, some (.int x)] (.int x :: st) w Q := Wp.loc e47_32 rfl rfl rfl
theorem e47_34 : decode (j_co 47) 34 = .ok (.invokevirtual 83, 3) := by decide +kernel
set_option maxRecDepth 20000 in
theorem w47_34 {d : Nat} {st : List Value} {Q : Option Value × jW → Prop} {ls : jL} {xs : List Value} {I : fI} {L : fL} {r : Nat} {x0 : Int32} (hs : j_sumc st ≤ 8) (ht : f_tg r = 4) : Wp (d + 1) 47 34 ls (.int x0 :: .ref r :: st) (f_W xs I L) Q = Wp d 48 0 [some (.ref r), some (.int x0)] [] (f_W xs I L) (fun r1 => Wp (d + 1) 47 37 ls (r1.1.toList ++ st) r1.2 Q) := Wp.cv (y' := 48) (as := [.int x0]) e47_34 rfl (by decide) rfl (show 2 ≤ 2 by decide) (by decide) hs ht
theorem e47_37 : decode (j_co 47) 37 = .ok (.ifCond .eq 27, 3) := by decide +kernel
set_option maxRecDepth 20000 in
theorem w47_37 {d : Nat} {st : List Value} {Q : Option Value × jW → Prop} {ls : jL} {w : jW} {a : Int32} : Wp d 47 37 ls (.int a :: st) w Q = ((a = nI 0 → Wp d 47 64 ls st w Q) ∧ (¬ a = nI 0 → Wp d 47 40 ls st w Q)) := Wp.if2 (c := a = nI 0) (off := 27) e47_37 rfl rfl rfl rfl rfl
theorem e47_40 : decode (j_co 47) 40 = .ok (.aload_n 3, 1) := by decide +kernel
set_option maxRecDepth 20000 in
theorem w47_40 {d : Nat} {st : List Value} {Q : Option Value × jW → Prop} {w : jW} {a0 a1 a2 a4 : Option Value} {x : Nat} : Wp d 47 40 [a0, a1, a2, some (.ref x), a4] (st) w Q = Wp d 47 41 [a0, a1, a2, some (.ref x), a4] (.ref x :: st) w Q := Wp.loc e47_40 rfl rfl rfl
theorem e47_41 : decode (j_co 47) 41 = .ok (.iload 4, 2) := by decide +kernel
set_option maxRecDepth 20000 in
theorem w47_41 {d : Nat} {st : List Value} {Q : Option Value × jW → Prop} {w : jW} {a0 a1 a2 a3 : Option Value} {x : Int32} : Wp d 47 41 [a0, a1, a2, a3, some (.int x)] (st) w Q = Wp d 47 43 [a0, a1, a2, a3, some (.int x)] (.int x :: st) w Q := Wp.loc e47_41 rfl rfl rfl
theorem e47_43 : decode (j_co 47) 43 = .ok (.aload_n 1, 1) := by decide +kernel
set_option maxRecDepth 20000 in
theorem w47_43 {d : Nat} {st : List Value} {Q : Option Value × jW → Prop} {w : jW} {a0 a2 a3 a4 : Option Value} {x : Nat} : Wp d 47 43 [a0, some (.ref x), a2, a3, a4] (st) w Q = Wp d 47 44 [a0, some (.ref x), a2, a3, a4] (.ref x :: st) w Q := Wp.loc e47_43 rfl rfl rfl
theorem e47_44 : decode (j_co 47) 44 = .ok (.getfield 86, 3) := by decide +kernel
set_option maxRecDepth 20000 in
theorem w47_44 {d : Nat} {st : List Value} {Q : Option Value × jW → Prop} {ls : jL} {xs : List Value} {I : fI} {L : fL} {o : Nat} (ht : f_tg o = 4) : Wp d 47 44 ls (.ref o :: st) (f_W xs I L) Q = Wp d 47 47 ls (.ref (f_rf o 1) :: st) (f_W xs I L) Q := Wp.getR (ci := 4) (k := 1) e47_44 rfl (by decide) (by decide) rfl ht
theorem e47_47 : decode (j_co 47) 47 = .ok (.iload 4, 2) := by decide +kernel
set_option maxRecDepth 20000 in
theorem w47_47 {d : Nat} {st : List Value} {Q : Option Value × jW → Prop} {w : jW} {a0 a1 a2 a3 : Option Value} {x : Int32} : Wp d 47 47 [a0, a1, a2, a3, some (.int x)] (st) w Q = Wp d 47 49 [a0, a1, a2, a3, some (.int x)] (.int x :: st) w Q := Wp.loc e47_47 rfl rfl rfl
theorem e47_49 : decode (j_co 47) 49 = .ok (.invokevirtual 89, 3) := by decide +kernel
set_option maxRecDepth 20000 in
theorem w47_49 {d : Nat} {st : List Value} {Q : Option Value × jW → Prop} {ls : jL} {xs : List Value} {I : fI} {L : fL} {r : Nat} {x0 : Int32} (hs : j_sumc st ≤ 8) (ht : f_tg r = 0) : Wp (d + 1) 47 49 ls (.int x0 :: .ref r :: st) (f_W xs I L) Q = Wp d 33 0 [some (.ref r), some (.int x0)] [] (f_W xs I L) (fun r1 => Wp (d + 1) 47 52 ls (r1.1.toList ++ st) r1.2 Q) := Wp.cv (y' := 33) (as := [.int x0]) e47_49 rfl (by decide) rfl (show 2 ≤ 2 by decide) (by decide) hs ht
theorem e47_52 : decode (j_co 47) 52 = .ok (.aload_n 1, 1) := by decide +kernel
set_option maxRecDepth 20000 in
theorem w47_52 {d : Nat} {st : List Value} {Q : Option Value × jW → Prop} {w : jW} {a0 a2 a3 a4 : Option Value} {x : Nat} : Wp d 47 52 [a0, some (.ref x), a2, a3, a4] (st) w Q = Wp d 47 53 [a0, some (.ref x), a2, a3, a4] (.ref x :: st) w Q := Wp.loc e47_52 rfl rfl rfl
theorem e47_53 : decode (j_co 47) 53 = .ok (.getfield 86, 3) := by decide +kernel
set_option maxRecDepth 20000 in
theorem w47_53 {d : Nat} {st : List Value} {Q : Option Value × jW → Prop} {ls : jL} {xs : List Value} {I : fI} {L : fL} {o : Nat} (ht : f_tg o = 4) : Wp d 47 53 ls (.ref o :: st) (f_W xs I L) Q = Wp d 47 56 ls (.ref (f_rf o 1) :: st) (f_W xs I L) Q := Wp.getR (ci := 4) (k := 1) e47_53 rfl (by decide) (by decide) rfl ht
theorem e47_56 : decode (j_co 47) 56 = .ok (.iload 4, 2) := by decide +kernel
set_option maxRecDepth 20000 in
theorem w47_56 {d : Nat} {st : List Value} {Q : Option Value × jW → Prop} {w : jW} {a0 a1 a2 a3 : Option Value} {x : Int32} : Wp d 47 56 [a0, a1, a2, a3, some (.int x)] (st) w Q = Wp d 47 58 [a0, a1, a2, a3, some (.int x)] (.int x :: st) w Q := Wp.loc e47_56 rfl rfl rfl
theorem e47_58 : decode (j_co 47) 58 = .ok (.invokevirtual 93, 3) := by decide +kernel
set_option maxRecDepth 20000 in
theorem w47_58 {d : Nat} {st : List Value} {Q : Option Value × jW → Prop} {ls : jL} {xs : List Value} {I : fI} {L : fL} {r : Nat} {x0 : Int32} (hs : j_sumc st ≤ 8) (ht : f_tg r = 0) : Wp (d + 1) 47 58 ls (.int x0 :: .ref r :: st) (f_W xs I L) Q = Wp d 35 0 [some (.ref r), some (.int x0)] [] (f_W xs I L) (fun r1 => Wp (d + 1) 47 61 ls (r1.1.toList ++ st) r1.2 Q) := Wp.cv (y' := 35) (as := [.int x0]) e47_58 rfl (by decide) rfl (show 2 ≤ 2 by decide) (by decide) hs ht
theorem e47_61 : decode (j_co 47) 61 = .ok (.invokevirtual 96, 3) := by decide +kernel
set_option maxRecDepth 20000 in
theorem w47_61 {d : Nat} {st : List Value} {Q : Option Value × jW → Prop} {ls : jL} {xs : List Value} {I : fI} {L : fL} {r : Nat} {x0 : Int32} {x1 : Int32} {x2 : Int32} (hs : j_sumc st ≤ 8) (ht : f_tg r = 0) : Wp (d + 1) 47 61 ls (.int x2 :: .int x1 :: .int x0 :: .ref r :: st) (f_W xs I L) Q = Wp d 5 0 [some (.ref r), some (.int x0), some (.int x1), some (.int x2)] [] (f_W xs I L) (fun r1 => Wp (d + 1) 47 64 ls (r1.1.toList ++ st) r1.2 Q) := Wp.cv (y' := 5) (as := [.int x0, .int x1, .int x2]) e47_61 rfl (by decide) rfl (show 4 ≤ 4 by decide) (by decide) hs ht
theorem e47_64 : decode (j_co 47) 64 = .ok (.iinc 4 1, 3) := by decide +kernel
set_option maxRecDepth 20000 in
theorem w47_64 {d : Nat} {st : List Value} {Q : Option Value × jW → Prop} {w : jW} {a0 a1 a2 a3 : Option Value} {x : Int32} (h : j_cp a3) : Wp d 47 64 [a0, a1, a2, a3, some (.int x)] (st) w Q = Wp d 47 67 [a0, a1, a2, a3, some (.int (x + nI 1))] (st) w Q := Wp.loc e47_64 rfl rfl (v_inc (ls := [a0, a1, a2, a3, some (.int x)]) (k := 4) (n := 1) rfl (show 4 < 5 by decide) h)
theorem e47_67 : decode (j_co 47) 67 = .ok (.goto (-42), 3) := by decide +kernel
set_option maxRecDepth 20000 in
theorem w47_67 {d : Nat} {st : List Value} {Q : Option Value × jW → Prop} {ls : jL} {w : jW} : Wp d 47 67 ls (st) w Q = Wp d 47 25 ls (st) w Q := Wp.br e47_67 (Or.inl rfl) rfl rfl rfl rfl
theorem e47_70 : decode (j_co 47) 70 = .ok (.aload_n 3, 1) := by decide +kernel
set_option maxRecDepth 20000 in
theorem w47_70 {d : Nat} {st : List Value} {Q : Option Value × jW → Prop} {w : jW} {a0 a1 a2 a4 : Option Value} {x : Nat} : Wp d 47 70 [a0, a1, a2, some (.ref x), a4] (st) w Q = Wp d 47 71 [a0, a1, a2, some (.ref x), a4] (.ref x :: st) w Q := Wp.loc e47_70 rfl rfl rfl
theorem e47_71 : decode (j_co 47) 71 = .ok (.aload_n 0, 1) := by decide +kernel
set_option maxRecDepth 20000 in
theorem w47_71 {d : Nat} {st : List Value} {Q : Option Value × jW → Prop} {w : jW} {a1 a2 a3 a4 : Option Value} {x : Nat} : Wp d 47 71 [some (.ref x), a1, a2, a3, a4] (st) w Q = Wp d 47 72 [some (.ref x), a1, a2, a3, a4] (.ref x :: st) w Q := Wp.loc e47_71 rfl rfl rfl
theorem e47_72 : decode (j_co 47) 72 = .ok (.aload_n 1, 1) := by decide +kernel
set_option maxRecDepth 20000 in
theorem w47_72 {d : Nat} {st : List Value} {Q : Option Value × jW → Prop} {w : jW} {a0 a2 a3 a4 : Option Value} {x : Nat} : Wp d 47 72 [a0, some (.ref x), a2, a3, a4] (st) w Q = Wp d 47 73 [a0, some (.ref x), a2, a3, a4] (.ref x :: st) w Q := Wp.loc e47_72 rfl rfl rfl
theorem e47_73 : decode (j_co 47) 73 = .ok (.getfield 100, 3) := by decide +kernel
set_option maxRecDepth 20000 in
theorem w47_73 {d : Nat} {st : List Value} {Q : Option Value × jW → Prop} {ls : jL} {xs : List Value} {I : fI} {L : fL} {o : Nat} (ht : f_tg o = 4) : Wp d 47 73 ls (.ref o :: st) (f_W xs I L) Q = Wp d 47 76 ls (.int (I o 4) :: st) (f_W xs I L) Q := Wp.getI (ci := 4) (k := 4) e47_73 rfl (by decide) (by decide) (by decide) ht
theorem e47_76 : decode (j_co 47) 76 = .ok (.invokevirtual 70, 3) := by decide +kernel
set_option maxRecDepth 20000 in
theorem w47_76 {d : Nat} {st : List Value} {Q : Option Value × jW → Prop} {ls : jL} {xs : List Value} {I : fI} {L : fL} {r : Nat} {x0 : Int32} (hs : j_sumc st ≤ 8) (ht : f_tg r = 5) : Wp (d + 1) 47 76 ls (.int x0 :: .ref r :: st) (f_W xs I L) Q = Wp d 171 0 [some (.ref r), some (.int x0)] [] (f_W xs I L) (fun r1 => Wp (d + 1) 47 79 ls (r1.1.toList ++ st) r1.2 Q) := Wp.cv (y' := 171) (as := [.int x0]) e47_76 rfl (by decide) rfl (show 2 ≤ 2 by decide) (by decide) hs ht
theorem e47_79 : decode (j_co 47) 79 = .ok (.getfield 60, 3) := by decide +kernel
set_option maxRecDepth 20000 in
theorem w47_79 {d : Nat} {st : List Value} {Q : Option Value × jW → Prop} {ls : jL} {xs : List Value} {I : fI} {L : fL} {o : Nat} (ht : f_tg o = 6) : Wp d 47 79 ls (.ref o :: st) (f_W xs I L) Q = Wp d 47 82 ls (.ref (f_rf o 0) :: st) (f_W xs I L) Q := Wp.getR (ci := 6) (k := 0) e47_79 rfl (by decide) (by decide) rfl ht
theorem e47_82 : decode (j_co 47) 82 = .ok (.invokevirtual 63, 3) := by decide +kernel
set_option maxRecDepth 20000 in
theorem w47_82 {d : Nat} {st : List Value} {Q : Option Value × jW → Prop} {ls : jL} {xs : List Value} {I : fI} {L : fL} {r : Nat} {x0 : Nat} (hs : j_sumc st ≤ 8) (ht : f_tg r = 0) : Wp (d + 1) 47 82 ls (.ref x0 :: .ref r :: st) (f_W xs I L) Q = Wp d 32 0 [some (.ref r), some (.ref x0), none] [] (f_W xs I L) (fun r1 => Wp (d + 1) 47 85 ls (r1.1.toList ++ st) r1.2 Q) := Wp.cv (y' := 32) (as := [.ref x0]) e47_82 rfl (by decide) rfl (show 2 ≤ 3 by decide) (by decide) hs ht
theorem e47_85 : decode (j_co 47) 85 = .ok (.aload_n 3, 1) := by decide +kernel
set_option maxRecDepth 20000 in
theorem w47_85 {d : Nat} {st : List Value} {Q : Option Value × jW → Prop} {w : jW} {a0 a1 a2 a4 : Option Value} {x : Nat} : Wp d 47 85 [a0, a1, a2, some (.ref x), a4] (st) w Q = Wp d 47 86 [a0, a1, a2, some (.ref x), a4] (.ref x :: st) w Q := Wp.loc e47_85 rfl rfl rfl
theorem e47_86 : decode (j_co 47) 86 = .ok (.invokevirtual 66, 3) := by decide +kernel
set_option maxRecDepth 20000 in
theorem w47_86 {d : Nat} {st : List Value} {Q : Option Value × jW → Prop} {ls : jL} {xs : List Value} {I : fI} {L : fL} {r : Nat} (hs : j_sumc st ≤ 8) (ht : f_tg r = 0) : Wp (d + 1) 47 86 ls (.ref r :: st) (f_W xs I L) Q = Wp d 37 0 [some (.ref r), none] [] (f_W xs I L) (fun r1 => Wp (d + 1) 47 89 ls (r1.1.toList ++ st) r1.2 Q) := Wp.cv (y' := 37) (as := []) e47_86 rfl (by decide) rfl (show 1 ≤ 2 by decide) (by decide) hs ht
theorem e47_89 : decode (j_co 47) 89 = .ok (.ifCond .ne 7, 3) := by decide +kernel
set_option maxRecDepth 20000 in
theorem w47_89 {d : Nat} {st : List Value} {Q : Option Value × jW → Prop} {ls : jL} {w : jW} {a : Int32} : Wp d 47 89 ls (.int a :: st) w Q = ((a = nI 0 → Wp d 47 92 ls st w Q) ∧ (¬ a = nI 0 → Wp d 47 96 ls st w Q)) := Wp.if2n (c := a = nI 0) (off := 7) e47_89 rfl rfl rfl rfl rfl
theorem e47_92 : decode (j_co 47) 92 = .ok (.iconst 1, 1) := by decide +kernel
set_option maxRecDepth 20000 in
theorem w47_92 {d : Nat} {st : List Value} {Q : Option Value × jW → Prop} {ls : jL} {w : jW} : Wp d 47 92 ls (st) w Q = Wp d 47 93 ls (.int (nI 1) :: st) w Q := Wp.alu e47_92 rfl rfl
theorem e47_93 : decode (j_co 47) 93 = .ok (.goto 4, 3) := by decide +kernel
set_option maxRecDepth 20000 in
theorem w47_93 {d : Nat} {st : List Value} {Q : Option Value × jW → Prop} {ls : jL} {w : jW} : Wp d 47 93 ls (st) w Q = Wp d 47 97 ls (st) w Q := Wp.br e47_93 (Or.inl rfl) rfl rfl rfl rfl
theorem e47_96 : decode (j_co 47) 96 = .ok (.iconst 0, 1) := by decide +kernel
set_option maxRecDepth 20000 in
theorem w47_96 {d : Nat} {st : List Value} {Q : Option Value × jW → Prop} {ls : jL} {w : jW} : Wp d 47 96 ls (st) w Q = Wp d 47 97 ls (.int (nI 0) :: st) w Q := Wp.alu e47_96 rfl rfl
theorem e47_97 : decode (j_co 47) 97 = .ok (.ireturn, 1) := by decide +kernel
set_option maxRecDepth 20000 in
theorem w47_97 {d : Nat} {Q : Option Value × jW → Prop} {ls : jL} {w : jW} {x : Int32} (hx : x = 0 ∨ x = 1) : Wp d 47 97 ls [.int x] w Q = Q (some (.int x), w) := Wp.ret e47_97 (by rcases hx with rfl | rfl <;> rfl)
/-! Jump.sets -/
theorem e48_0 : decode (j_co 48) 0 = .ok (.iload_n 1, 1) := by decide +kernel
set_option maxRecDepth 20000 in
theorem w48_0 {d : Nat} {st : List Value} {Q : Option Value × jW → Prop} {w : jW} {a0 : Option Value} {x : Int32} : Wp d 48 0 [a0, some (.int x)] (st) w Q = Wp d 48 1 [a0, some (.int x)] (.int x :: st) w Q := Wp.loc e48_0 rfl rfl rfl
theorem e48_1 : decode (j_co 48) 1 = .ok (.invokestatic 29, 3) := by decide +kernel
set_option maxRecDepth 20000 in
theorem w48_1 {d : Nat} {st : List Value} {Q : Option Value × jW → Prop} {ls : jL} {w : jW} {x0 : Int32} (hs : j_sumc st ≤ 8) : Wp (d + 1) 48 1 ls (.int x0 :: st) w Q = Wp d 18 0 [some (.int x0)] [] w (fun r1 => Wp (d + 1) 48 4 ls (r1.1.toList ++ st) r1.2 Q) := Wp.cs (kd := 4) (y' := 18) (as := [.int x0]) e48_1 rfl (by decide) (by decide) rfl (show 1 ≤ 1 by decide) hs
theorem e48_4 : decode (j_co 48) 4 = .ok (.ifCond .eq 16, 3) := by decide +kernel
set_option maxRecDepth 20000 in
theorem w48_4 {d : Nat} {st : List Value} {Q : Option Value × jW → Prop} {ls : jL} {w : jW} {a : Int32} : Wp d 48 4 ls (.int a :: st) w Q = ((a = nI 0 → Wp d 48 20 ls st w Q) ∧ (¬ a = nI 0 → Wp d 48 7 ls st w Q)) := Wp.if2 (c := a = nI 0) (off := 16) e48_4 rfl rfl rfl rfl rfl
theorem e48_7 : decode (j_co 48) 7 = .ok (.aload_n 0, 1) := by decide +kernel
set_option maxRecDepth 20000 in
theorem w48_7 {d : Nat} {st : List Value} {Q : Option Value × jW → Prop} {w : jW} {a1 : Option Value} {x : Nat} : Wp d 48 7 [some (.ref x), a1] (st) w Q = Wp d 48 8 [some (.ref x), a1] (.ref x :: st) w Q := Wp.loc e48_7 rfl rfl rfl
theorem e48_8 : decode (j_co 48) 8 = .ok (.getfield 21, 3) := by decide +kernel
set_option maxRecDepth 20000 in
theorem w48_8 {d : Nat} {st : List Value} {Q : Option Value × jW → Prop} {ls : jL} {xs : List Value} {I : fI} {L : fL} {o : Nat} (ht : f_tg o = 4) : Wp d 48 8 ls (.ref o :: st) (f_W xs I L) Q = Wp d 48 11 ls (.ref (f_rf o 2) :: st) (f_W xs I L) Q := Wp.getR (ci := 4) (k := 2) e48_8 rfl (by decide) (by decide) rfl ht
theorem e48_11 : decode (j_co 48) 11 = .ok (.iload_n 1, 1) := by decide +kernel
set_option maxRecDepth 20000 in
theorem w48_11 {d : Nat} {st : List Value} {Q : Option Value × jW → Prop} {w : jW} {a0 : Option Value} {x : Int32} : Wp d 48 11 [a0, some (.int x)] (st) w Q = Wp d 48 12 [a0, some (.int x)] (.int x :: st) w Q := Wp.loc e48_11 rfl rfl rfl
theorem e48_12 : decode (j_co 48) 12 = .ok (.baload, 1) := by decide +kernel
set_option maxRecDepth 20000 in
theorem w48_12 {d : Nat} {st : List Value} {Q : Option Value × jW → Prop} {ls : jL} {xs : List Value} {I : fI} {L : fL} {o : Nat} {i : Int32} (ht : f_tg o = 101) (hi : ¬ (i < 0 ∨ f_ln o ≤ i.toNatClampNeg)) : Wp d 48 12 ls (.int i :: .ref o :: st) (f_W xs I L) Q = Wp d 48 13 ls (.int (I o i.toNatClampNeg) :: st) (f_W xs I L) Q := Wp.zald e48_12 ht hi
theorem e48_13 : decode (j_co 48) 13 = .ok (.ifCond .eq 7, 3) := by decide +kernel
set_option maxRecDepth 20000 in
theorem w48_13 {d : Nat} {st : List Value} {Q : Option Value × jW → Prop} {ls : jL} {w : jW} {a : Int32} : Wp d 48 13 ls (.int a :: st) w Q = ((a = nI 0 → Wp d 48 20 ls st w Q) ∧ (¬ a = nI 0 → Wp d 48 16 ls st w Q)) := Wp.if2 (c := a = nI 0) (off := 7) e48_13 rfl rfl rfl rfl rfl
theorem e48_16 : decode (j_co 48) 16 = .ok (.iconst 1, 1) := by decide +kernel
set_option maxRecDepth 20000 in
theorem w48_16 {d : Nat} {st : List Value} {Q : Option Value × jW → Prop} {ls : jL} {w : jW} : Wp d 48 16 ls (st) w Q = Wp d 48 17 ls (.int (nI 1) :: st) w Q := Wp.alu e48_16 rfl rfl
theorem e48_17 : decode (j_co 48) 17 = .ok (.goto 4, 3) := by decide +kernel
set_option maxRecDepth 20000 in
theorem w48_17 {d : Nat} {st : List Value} {Q : Option Value × jW → Prop} {ls : jL} {w : jW} : Wp d 48 17 ls (st) w Q = Wp d 48 21 ls (st) w Q := Wp.br e48_17 (Or.inl rfl) rfl rfl rfl rfl
theorem e48_20 : decode (j_co 48) 20 = .ok (.iconst 0, 1) := by decide +kernel
set_option maxRecDepth 20000 in
theorem w48_20 {d : Nat} {st : List Value} {Q : Option Value × jW → Prop} {ls : jL} {w : jW} : Wp d 48 20 ls (st) w Q = Wp d 48 21 ls (.int (nI 0) :: st) w Q := Wp.alu e48_20 rfl rfl
theorem e48_21 : decode (j_co 48) 21 = .ok (.ireturn, 1) := by decide +kernel
set_option maxRecDepth 20000 in
theorem w48_21 {d : Nat} {Q : Option Value × jW → Prop} {ls : jL} {w : jW} {x : Int32} (hx : x = 0 ∨ x = 1) : Wp d 48 21 ls [.int x] w Q = Q (some (.int x), w) := Wp.ret e48_21 (by rcases hx with rfl | rfl <;> rfl)
/-! Search.markSure -/
theorem e49_0 : decode (j_co 49) 0 = .ok (.iconst 0, 1) := by decide +kernel
set_option maxRecDepth 20000 in
theorem w49_0 {d : Nat} {st : List Value} {Q : Option Value × jW → Prop} {ls : jL} {w : jW} : Wp d 49 0 ls (st) w Q = Wp d 49 1 ls (.int (nI 0) :: st) w Q := Wp.alu e49_0 rfl rfl
theorem e49_1 : decode (j_co 49) 1 = .ok (.istore_n 1, 1) := by decide +kernel
set_option maxRecDepth 20000 in
theorem w49_1 {d : Nat} {st : List Value} {Q : Option Value × jW → Prop} {w : jW} {a0 a1 a2 a3 : Option Value} {x : Int32} (h : j_cp a0) : Wp d 49 1 [a0, a1, a2, a3] (.int x :: st) w Q = Wp d 49 2 [a0, some (.int x), a2, a3] (st) w Q := Wp.loc e49_1 rfl rfl (v_stI (ls := [a0, a1, a2, a3]) (k := 1) (show 1 < 4 by decide) h)
theorem e49_2 : decode (j_co 49) 2 = .ok (.iload_n 1, 1) := by decide +kernel
set_option maxRecDepth 20000 in
theorem w49_2 {d : Nat} {st : List Value} {Q : Option Value × jW → Prop} {w : jW} {a0 a2 a3 : Option Value} {x : Int32} : Wp d 49 2 [a0, some (.int x), a2, a3] (st) w Q = Wp d 49 3 [a0, some (.int x), a2, a3] (.int x :: st) w Q := Wp.loc e49_2 rfl rfl rfl
theorem e49_3 : decode (j_co 49) 3 = .ok (.aload_n 0, 1) := by decide +kernel
set_option maxRecDepth 20000 in
theorem w49_3 {d : Nat} {st : List Value} {Q : Option Value × jW → Prop} {w : jW} {a1 a2 a3 : Option Value} {x : Nat} : Wp d 49 3 [some (.ref x), a1, a2, a3] (st) w Q = Wp d 49 4 [some (.ref x), a1, a2, a3] (.ref x :: st) w Q := Wp.loc e49_3 rfl rfl rfl
theorem e49_4 : decode (j_co 49) 4 = .ok (.getfield 44, 3) := by decide +kernel
set_option maxRecDepth 20000 in
theorem w49_4 {d : Nat} {st : List Value} {Q : Option Value × jW → Prop} {ls : jL} {xs : List Value} {I : fI} {L : fL} {o : Nat} (ht : f_tg o = 7) : Wp d 49 4 ls (.ref o :: st) (f_W xs I L) Q = Wp d 49 7 ls (.int (I o 6) :: st) (f_W xs I L) Q := Wp.getI (ci := 7) (k := 6) e49_4 rfl (by decide) (by decide) (by decide) ht
theorem e49_7 : decode (j_co 49) 7 = .ok (.if_icmp .ge 81, 3) := by decide +kernel
set_option maxRecDepth 20000 in
theorem w49_7 {d : Nat} {st : List Value} {Q : Option Value × jW → Prop} {ls : jL} {w : jW} {a b : Int32} : Wp d 49 7 ls (.int b :: .int a :: st) w Q = ((b ≤ a → Wp d 49 88 ls st w Q) ∧ (¬ b ≤ a → Wp d 49 10 ls st w Q)) := Wp.if2 (c := b ≤ a) (off := 81) e49_7 rfl rfl rfl rfl rfl
theorem e49_10 : decode (j_co 49) 10 = .ok (.aload_n 0, 1) := by decide +kernel
set_option maxRecDepth 20000 in
theorem w49_10 {d : Nat} {st : List Value} {Q : Option Value × jW → Prop} {w : jW} {a1 a2 a3 : Option Value} {x : Nat} : Wp d 49 10 [some (.ref x), a1, a2, a3] (st) w Q = Wp d 49 11 [some (.ref x), a1, a2, a3] (.ref x :: st) w Q := Wp.loc e49_10 rfl rfl rfl
theorem e49_11 : decode (j_co 49) 11 = .ok (.getfield 11, 3) := by decide +kernel
set_option maxRecDepth 20000 in
theorem w49_11 {d : Nat} {st : List Value} {Q : Option Value × jW → Prop} {ls : jL} {xs : List Value} {I : fI} {L : fL} {o : Nat} (ht : f_tg o = 7) : Wp d 49 11 ls (.ref o :: st) (f_W xs I L) Q = Wp d 49 14 ls (.ref (f_rf o 1) :: st) (f_W xs I L) Q := Wp.getR (ci := 7) (k := 1) e49_11 rfl (by decide) (by decide) rfl ht
theorem e49_14 : decode (j_co 49) 14 = .ok (.iload_n 1, 1) := by decide +kernel
set_option maxRecDepth 20000 in
theorem w49_14 {d : Nat} {st : List Value} {Q : Option Value × jW → Prop} {w : jW} {a0 a2 a3 : Option Value} {x : Int32} : Wp d 49 14 [a0, some (.int x), a2, a3] (st) w Q = Wp d 49 15 [a0, some (.int x), a2, a3] (.int x :: st) w Q := Wp.loc e49_14 rfl rfl rfl
theorem e49_15 : decode (j_co 49) 15 = .ok (.aaload, 1) := by decide +kernel
set_option maxRecDepth 20000 in
theorem w49_15 {d : Nat} {st : List Value} {Q : Option Value × jW → Prop} {ls : jL} {xs : List Value} {I : fI} {L : fL} {o : Nat} {i : Int32} (ht : 103 ≤ f_tg o ∧ f_tg o ≤ 106) (hi : ¬ (i < 0 ∨ f_ln o ≤ i.toNatClampNeg)) : Wp d 49 15 ls (.int i :: .ref o :: st) (f_W xs I L) Q = Wp d 49 16 ls (.ref (f_rf o i.toNatClampNeg) :: st) (f_W xs I L) Q := Wp.aald e49_15 rfl ht hi
theorem e49_16 : decode (j_co 49) 16 = .ok (.getfield 170, 3) := by decide +kernel
set_option maxRecDepth 20000 in
theorem w49_16 {d : Nat} {st : List Value} {Q : Option Value × jW → Prop} {ls : jL} {xs : List Value} {I : fI} {L : fL} {o : Nat} (ht : f_tg o = 3) : Wp d 49 16 ls (.ref o :: st) (f_W xs I L) Q = Wp d 49 19 ls (.int (I o 2) :: st) (f_W xs I L) Q := Wp.getI (ci := 3) (k := 2) e49_16 rfl (by decide) (by decide) (by decide) ht
theorem e49_19 : decode (j_co 49) 19 = .ok (.istore_n 2, 1) := by decide +kernel
set_option maxRecDepth 20000 in
theorem w49_19 {d : Nat} {st : List Value} {Q : Option Value × jW → Prop} {w : jW} {a0 a1 a2 a3 : Option Value} {x : Int32} (h : j_cp a1) : Wp d 49 19 [a0, a1, a2, a3] (.int x :: st) w Q = Wp d 49 20 [a0, a1, some (.int x), a3] (st) w Q := Wp.loc e49_19 rfl rfl (v_stI (ls := [a0, a1, a2, a3]) (k := 2) (show 2 < 4 by decide) h)
theorem e49_20 : decode (j_co 49) 20 = .ok (.iload_n 2, 1) := by decide +kernel
set_option maxRecDepth 20000 in
theorem w49_20 {d : Nat} {st : List Value} {Q : Option Value × jW → Prop} {w : jW} {a0 a1 a3 : Option Value} {x : Int32} : Wp d 49 20 [a0, a1, some (.int x), a3] (st) w Q = Wp d 49 21 [a0, a1, some (.int x), a3] (.int x :: st) w Q := Wp.loc e49_20 rfl rfl rfl
theorem e49_21 : decode (j_co 49) 21 = .ok (.bipush (-4), 2) := by decide +kernel
set_option maxRecDepth 20000 in
theorem w49_21 {d : Nat} {st : List Value} {Q : Option Value × jW → Prop} {ls : jL} {w : jW} : Wp d 49 21 ls (st) w Q = Wp d 49 23 ls (.int (-4) :: st) w Q := Wp.alu e49_21 rfl rfl
theorem e49_23 : decode (j_co 49) 23 = .ok (.if_icmp .eq 23, 3) := by decide +kernel
set_option maxRecDepth 20000 in
theorem w49_23 {d : Nat} {st : List Value} {Q : Option Value × jW → Prop} {ls : jL} {w : jW} {a b : Int32} : Wp d 49 23 ls (.int b :: .int a :: st) w Q = ((a = b → Wp d 49 46 ls st w Q) ∧ (¬ a = b → Wp d 49 26 ls st w Q)) := Wp.if2 (c := a = b) (off := 23) e49_23 rfl rfl rfl rfl rfl
theorem e49_26 : decode (j_co 49) 26 = .ok (.aload_n 0, 1) := by decide +kernel
set_option maxRecDepth 20000 in
theorem w49_26 {d : Nat} {st : List Value} {Q : Option Value × jW → Prop} {w : jW} {a1 a2 a3 : Option Value} {x : Nat} : Wp d 49 26 [some (.ref x), a1, a2, a3] (st) w Q = Wp d 49 27 [some (.ref x), a1, a2, a3] (.ref x :: st) w Q := Wp.loc e49_26 rfl rfl rfl
theorem e49_27 : decode (j_co 49) 27 = .ok (.iload_n 2, 1) := by decide +kernel
set_option maxRecDepth 20000 in
theorem w49_27 {d : Nat} {st : List Value} {Q : Option Value × jW → Prop} {w : jW} {a0 a1 a3 : Option Value} {x : Int32} : Wp d 49 27 [a0, a1, some (.int x), a3] (st) w Q = Wp d 49 28 [a0, a1, some (.int x), a3] (.int x :: st) w Q := Wp.loc e49_27 rfl rfl rfl
theorem e49_28 : decode (j_co 49) 28 = .ok (.invokevirtual 72, 3) := by decide +kernel
set_option maxRecDepth 20000 in
theorem w49_28 {d : Nat} {st : List Value} {Q : Option Value × jW → Prop} {ls : jL} {xs : List Value} {I : fI} {L : fL} {r : Nat} {x0 : Int32} (hs : j_sumc st ≤ 8) (ht : f_tg r = 7) : Wp (d + 1) 49 28 ls (.int x0 :: .ref r :: st) (f_W xs I L) Q = Wp d 50 0 [some (.ref r), some (.int x0)] [] (f_W xs I L) (fun r1 => Wp (d + 1) 49 31 ls (r1.1.toList ++ st) r1.2 Q) := Wp.cv (y' := 50) (as := [.int x0]) e49_28 rfl (by decide) rfl (show 2 ≤ 2 by decide) (by decide) hs ht
theorem e49_31 : decode (j_co 49) 31 = .ok (.ifCond .eq 19, 3) := by decide +kernel
set_option maxRecDepth 20000 in
theorem w49_31 {d : Nat} {st : List Value} {Q : Option Value × jW → Prop} {ls : jL} {w : jW} {a : Int32} : Wp d 49 31 ls (.int a :: st) w Q = ((a = nI 0 → Wp d 49 50 ls st w Q) ∧ (¬ a = nI 0 → Wp d 49 34 ls st w Q)) := Wp.if2 (c := a = nI 0) (off := 19) e49_31 rfl rfl rfl rfl rfl
theorem e49_34 : decode (j_co 49) 34 = .ok (.aload_n 0, 1) := by decide +kernel
set_option maxRecDepth 20000 in
theorem w49_34 {d : Nat} {st : List Value} {Q : Option Value × jW → Prop} {w : jW} {a1 a2 a3 : Option Value} {x : Nat} : Wp d 49 34 [some (.ref x), a1, a2, a3] (st) w Q = Wp d 49 35 [some (.ref x), a1, a2, a3] (.ref x :: st) w Q := Wp.loc e49_34 rfl rfl rfl
theorem e49_35 : decode (j_co 49) 35 = .ok (.getfield 11, 3) := by decide +kernel
set_option maxRecDepth 20000 in
theorem w49_35 {d : Nat} {st : List Value} {Q : Option Value × jW → Prop} {ls : jL} {xs : List Value} {I : fI} {L : fL} {o : Nat} (ht : f_tg o = 7) : Wp d 49 35 ls (.ref o :: st) (f_W xs I L) Q = Wp d 49 38 ls (.ref (f_rf o 1) :: st) (f_W xs I L) Q := Wp.getR (ci := 7) (k := 1) e49_35 rfl (by decide) (by decide) rfl ht
theorem e49_38 : decode (j_co 49) 38 = .ok (.iload_n 2, 1) := by decide +kernel
set_option maxRecDepth 20000 in
theorem w49_38 {d : Nat} {st : List Value} {Q : Option Value × jW → Prop} {w : jW} {a0 a1 a3 : Option Value} {x : Int32} : Wp d 49 38 [a0, a1, some (.int x), a3] (st) w Q = Wp d 49 39 [a0, a1, some (.int x), a3] (.int x :: st) w Q := Wp.loc e49_38 rfl rfl rfl
theorem e49_39 : decode (j_co 49) 39 = .ok (.aaload, 1) := by decide +kernel
set_option maxRecDepth 20000 in
theorem w49_39 {d : Nat} {st : List Value} {Q : Option Value × jW → Prop} {ls : jL} {xs : List Value} {I : fI} {L : fL} {o : Nat} {i : Int32} (ht : 103 ≤ f_tg o ∧ f_tg o ≤ 106) (hi : ¬ (i < 0 ∨ f_ln o ≤ i.toNatClampNeg)) : Wp d 49 39 ls (.int i :: .ref o :: st) (f_W xs I L) Q = Wp d 49 40 ls (.ref (f_rf o i.toNatClampNeg) :: st) (f_W xs I L) Q := Wp.aald e49_39 rfl ht hi
theorem e49_40 : decode (j_co 49) 40 = .ok (.getfield 86, 3) := by decide +kernel
set_option maxRecDepth 20000 in
theorem w49_40 {d : Nat} {st : List Value} {Q : Option Value × jW → Prop} {ls : jL} {xs : List Value} {I : fI} {L : fL} {o : Nat} (ht : f_tg o = 3) : Wp d 49 40 ls (.ref o :: st) (f_W xs I L) Q = Wp d 49 43 ls (.int (I o 6) :: st) (f_W xs I L) Q := Wp.getI (ci := 3) (k := 6) e49_40 rfl (by decide) (by decide) (by decide) ht
theorem e49_43 : decode (j_co 49) 43 = .ok (.ifCond .eq 7, 3) := by decide +kernel
set_option maxRecDepth 20000 in
theorem w49_43 {d : Nat} {st : List Value} {Q : Option Value × jW → Prop} {ls : jL} {w : jW} {a : Int32} : Wp d 49 43 ls (.int a :: st) w Q = ((a = nI 0 → Wp d 49 50 ls st w Q) ∧ (¬ a = nI 0 → Wp d 49 46 ls st w Q)) := Wp.if2 (c := a = nI 0) (off := 7) e49_43 rfl rfl rfl rfl rfl
theorem e49_46 : decode (j_co 49) 46 = .ok (.iconst 1, 1) := by decide +kernel
set_option maxRecDepth 20000 in
theorem w49_46 {d : Nat} {st : List Value} {Q : Option Value × jW → Prop} {ls : jL} {w : jW} : Wp d 49 46 ls (st) w Q = Wp d 49 47 ls (.int (nI 1) :: st) w Q := Wp.alu e49_46 rfl rfl
theorem e49_47 : decode (j_co 49) 47 = .ok (.goto 4, 3) := by decide +kernel
set_option maxRecDepth 20000 in
theorem w49_47 {d : Nat} {st : List Value} {Q : Option Value × jW → Prop} {ls : jL} {w : jW} : Wp d 49 47 ls (st) w Q = Wp d 49 51 ls (st) w Q := Wp.br e49_47 (Or.inl rfl) rfl rfl rfl rfl
theorem e49_50 : decode (j_co 49) 50 = .ok (.iconst 0, 1) := by decide +kernel
set_option maxRecDepth 20000 in
theorem w49_50 {d : Nat} {st : List Value} {Q : Option Value × jW → Prop} {ls : jL} {w : jW} : Wp d 49 50 ls (st) w Q = Wp d 49 51 ls (.int (nI 0) :: st) w Q := Wp.alu e49_50 rfl rfl
theorem e49_51 : decode (j_co 49) 51 = .ok (.istore_n 3, 1) := by decide +kernel
set_option maxRecDepth 20000 in
theorem w49_51 {d : Nat} {st : List Value} {Q : Option Value × jW → Prop} {w : jW} {a0 a1 a2 a3 : Option Value} {x : Int32} (h : j_cp a2) : Wp d 49 51 [a0, a1, a2, a3] (.int x :: st) w Q = Wp d 49 52 [a0, a1, a2, some (.int x)] (st) w Q := Wp.loc e49_51 rfl rfl (v_stI (ls := [a0, a1, a2, a3]) (k := 3) (show 3 < 4 by decide) h)
theorem e49_52 : decode (j_co 49) 52 = .ok (.aload_n 0, 1) := by decide +kernel
set_option maxRecDepth 20000 in
theorem w49_52 {d : Nat} {st : List Value} {Q : Option Value × jW → Prop} {w : jW} {a1 a2 a3 : Option Value} {x : Nat} : Wp d 49 52 [some (.ref x), a1, a2, a3] (st) w Q = Wp d 49 53 [some (.ref x), a1, a2, a3] (.ref x :: st) w Q := Wp.loc e49_52 rfl rfl rfl
theorem e49_53 : decode (j_co 49) 53 = .ok (.getfield 11, 3) := by decide +kernel
set_option maxRecDepth 20000 in
theorem w49_53 {d : Nat} {st : List Value} {Q : Option Value × jW → Prop} {ls : jL} {xs : List Value} {I : fI} {L : fL} {o : Nat} (ht : f_tg o = 7) : Wp d 49 53 ls (.ref o :: st) (f_W xs I L) Q = Wp d 49 56 ls (.ref (f_rf o 1) :: st) (f_W xs I L) Q := Wp.getR (ci := 7) (k := 1) e49_53 rfl (by decide) (by decide) rfl ht
theorem e49_56 : decode (j_co 49) 56 = .ok (.iload_n 1, 1) := by decide +kernel
set_option maxRecDepth 20000 in
theorem w49_56 {d : Nat} {st : List Value} {Q : Option Value × jW → Prop} {w : jW} {a0 a2 a3 : Option Value} {x : Int32} : Wp d 49 56 [a0, some (.int x), a2, a3] (st) w Q = Wp d 49 57 [a0, some (.int x), a2, a3] (.int x :: st) w Q := Wp.loc e49_56 rfl rfl rfl
theorem e49_57 : decode (j_co 49) 57 = .ok (.aaload, 1) := by decide +kernel
set_option maxRecDepth 20000 in
theorem w49_57 {d : Nat} {st : List Value} {Q : Option Value × jW → Prop} {ls : jL} {xs : List Value} {I : fI} {L : fL} {o : Nat} {i : Int32} (ht : 103 ≤ f_tg o ∧ f_tg o ≤ 106) (hi : ¬ (i < 0 ∨ f_ln o ≤ i.toNatClampNeg)) : Wp d 49 57 ls (.int i :: .ref o :: st) (f_W xs I L) Q = Wp d 49 58 ls (.ref (f_rf o i.toNatClampNeg) :: st) (f_W xs I L) Q := Wp.aald e49_57 rfl ht hi
theorem e49_58 : decode (j_co 49) 58 = .ok (.iload_n 3, 1) := by decide +kernel
set_option maxRecDepth 20000 in
theorem w49_58 {d : Nat} {st : List Value} {Q : Option Value × jW → Prop} {w : jW} {a0 a1 a2 : Option Value} {x : Int32} : Wp d 49 58 [a0, a1, a2, some (.int x)] (st) w Q = Wp d 49 59 [a0, a1, a2, some (.int x)] (.int x :: st) w Q := Wp.loc e49_58 rfl rfl rfl
theorem e49_59 : decode (j_co 49) 59 = .ok (.ifCond .eq 19, 3) := by decide +kernel
set_option maxRecDepth 20000 in
theorem w49_59 {d : Nat} {st : List Value} {Q : Option Value × jW → Prop} {ls : jL} {w : jW} {a : Int32} : Wp d 49 59 ls (.int a :: st) w Q = ((a = nI 0 → Wp d 49 78 ls st w Q) ∧ (¬ a = nI 0 → Wp d 49 62 ls st w Q)) := Wp.if2 (c := a = nI 0) (off := 19) e49_59 rfl rfl rfl rfl rfl
theorem e49_62 : decode (j_co 49) 62 = .ok (.aload_n 0, 1) := by decide +kernel
set_option maxRecDepth 20000 in
theorem w49_62 {d : Nat} {st : List Value} {Q : Option Value × jW → Prop} {w : jW} {a1 a2 a3 : Option Value} {x : Nat} : Wp d 49 62 [some (.ref x), a1, a2, a3] (st) w Q = Wp d 49 63 [some (.ref x), a1, a2, a3] (.ref x :: st) w Q := Wp.loc e49_62 rfl rfl rfl
theorem e49_63 : decode (j_co 49) 63 = .ok (.getfield 11, 3) := by decide +kernel
set_option maxRecDepth 20000 in
theorem w49_63 {d : Nat} {st : List Value} {Q : Option Value × jW → Prop} {ls : jL} {xs : List Value} {I : fI} {L : fL} {o : Nat} (ht : f_tg o = 7) : Wp d 49 63 ls (.ref o :: st) (f_W xs I L) Q = Wp d 49 66 ls (.ref (f_rf o 1) :: st) (f_W xs I L) Q := Wp.getR (ci := 7) (k := 1) e49_63 rfl (by decide) (by decide) rfl ht
theorem e49_66 : decode (j_co 49) 66 = .ok (.iload_n 1, 1) := by decide +kernel
set_option maxRecDepth 20000 in
theorem w49_66 {d : Nat} {st : List Value} {Q : Option Value × jW → Prop} {w : jW} {a0 a2 a3 : Option Value} {x : Int32} : Wp d 49 66 [a0, some (.int x), a2, a3] (st) w Q = Wp d 49 67 [a0, some (.int x), a2, a3] (.int x :: st) w Q := Wp.loc e49_66 rfl rfl rfl
theorem e49_67 : decode (j_co 49) 67 = .ok (.aaload, 1) := by decide +kernel
set_option maxRecDepth 20000 in
theorem w49_67 {d : Nat} {st : List Value} {Q : Option Value × jW → Prop} {ls : jL} {xs : List Value} {I : fI} {L : fL} {o : Nat} {i : Int32} (ht : 103 ≤ f_tg o ∧ f_tg o ≤ 106) (hi : ¬ (i < 0 ∨ f_ln o ≤ i.toNatClampNeg)) : Wp d 49 67 ls (.int i :: .ref o :: st) (f_W xs I L) Q = Wp d 49 68 ls (.ref (f_rf o i.toNatClampNeg) :: st) (f_W xs I L) Q := Wp.aald e49_67 rfl ht hi
theorem e49_68 : decode (j_co 49) 68 = .ok (.getfield 167, 3) := by decide +kernel
set_option maxRecDepth 20000 in
theorem w49_68 {d : Nat} {st : List Value} {Q : Option Value × jW → Prop} {ls : jL} {xs : List Value} {I : fI} {L : fL} {o : Nat} (ht : f_tg o = 3) : Wp d 49 68 ls (.ref o :: st) (f_W xs I L) Q = Wp d 49 71 ls (.int (I o 5) :: st) (f_W xs I L) Q := Wp.getI (ci := 3) (k := 5) e49_68 rfl (by decide) (by decide) (by decide) ht
theorem e49_71 : decode (j_co 49) 71 = .ok (.ifCond .ne 7, 3) := by decide +kernel
set_option maxRecDepth 20000 in
theorem w49_71 {d : Nat} {st : List Value} {Q : Option Value × jW → Prop} {ls : jL} {w : jW} {a : Int32} : Wp d 49 71 ls (.int a :: st) w Q = ((a = nI 0 → Wp d 49 74 ls st w Q) ∧ (¬ a = nI 0 → Wp d 49 78 ls st w Q)) := Wp.if2n (c := a = nI 0) (off := 7) e49_71 rfl rfl rfl rfl rfl
theorem e49_74 : decode (j_co 49) 74 = .ok (.iconst 1, 1) := by decide +kernel
set_option maxRecDepth 20000 in
theorem w49_74 {d : Nat} {st : List Value} {Q : Option Value × jW → Prop} {ls : jL} {w : jW} : Wp d 49 74 ls (st) w Q = Wp d 49 75 ls (.int (nI 1) :: st) w Q := Wp.alu e49_74 rfl rfl
theorem e49_75 : decode (j_co 49) 75 = .ok (.goto 4, 3) := by decide +kernel
set_option maxRecDepth 20000 in
theorem w49_75 {d : Nat} {st : List Value} {Q : Option Value × jW → Prop} {ls : jL} {w : jW} : Wp d 49 75 ls (st) w Q = Wp d 49 79 ls (st) w Q := Wp.br e49_75 (Or.inl rfl) rfl rfl rfl rfl
theorem e49_78 : decode (j_co 49) 78 = .ok (.iconst 0, 1) := by decide +kernel
set_option maxRecDepth 20000 in
theorem w49_78 {d : Nat} {st : List Value} {Q : Option Value × jW → Prop} {ls : jL} {w : jW} : Wp d 49 78 ls (st) w Q = Wp d 49 79 ls (.int (nI 0) :: st) w Q := Wp.alu e49_78 rfl rfl
theorem e49_79 : decode (j_co 49) 79 = .ok (.putfield 86, 3) := by decide +kernel
set_option maxRecDepth 20000 in
theorem w49_79 {d : Nat} {st : List Value} {Q : Option Value × jW → Prop} {ls : jL} {xs : List Value} {I : fI} {L : fL} {o : Nat} {x : Int32} (ht : f_tg o = 3) (hx : x = 0 ∨ x = 1) : Wp d 49 79 ls (.int x :: .ref o :: st) (f_W xs I L) Q = Wp d 49 82 ls (st) (f_W xs (f_up I o 6 x) L) Q := Wp.putI (ci := 3) (k := 6) e49_79 rfl (by decide) (by decide) (by rcases hx with rfl | rfl <;> rfl) (by decide) ht
theorem e49_82 : decode (j_co 49) 82 = .ok (.iinc 1 1, 3) := by decide +kernel
set_option maxRecDepth 20000 in
theorem w49_82 {d : Nat} {st : List Value} {Q : Option Value × jW → Prop} {w : jW} {a0 a2 a3 : Option Value} {x : Int32} (h : j_cp a0) : Wp d 49 82 [a0, some (.int x), a2, a3] (st) w Q = Wp d 49 85 [a0, some (.int (x + nI 1)), a2, a3] (st) w Q := Wp.loc e49_82 rfl rfl (v_inc (ls := [a0, some (.int x), a2, a3]) (k := 1) (n := 1) rfl (show 1 < 4 by decide) h)
theorem e49_85 : decode (j_co 49) 85 = .ok (.goto (-83), 3) := by decide +kernel
set_option maxRecDepth 20000 in
theorem w49_85 {d : Nat} {st : List Value} {Q : Option Value × jW → Prop} {ls : jL} {w : jW} : Wp d 49 85 ls (st) w Q = Wp d 49 2 ls (st) w Q := Wp.br e49_85 (Or.inl rfl) rfl rfl rfl rfl
theorem e49_88 : decode (j_co 49) 88 = .ok (.return_, 1) := by decide +kernel
set_option maxRecDepth 20000 in
theorem w49_88 {d : Nat} {Q : Option Value × jW → Prop} {ls : jL} {w : jW} : Wp d 49 88 ls [] w Q = Q (none, w) := Wp.ret e49_88 rfl
/-! Search.hasHeap -/
theorem e50_0 : decode (j_co 50) 0 = .ok (.iload_n 1, 1) := by decide +kernel
set_option maxRecDepth 20000 in
theorem w50_0 {d : Nat} {st : List Value} {Q : Option Value × jW → Prop} {w : jW} {a0 : Option Value} {x : Int32} : Wp d 50 0 [a0, some (.int x)] (st) w Q = Wp d 50 1 [a0, some (.int x)] (.int x :: st) w Q := Wp.loc e50_0 rfl rfl rfl
theorem e50_1 : decode (j_co 50) 1 = .ok (.ifCond .lt 15, 3) := by decide +kernel
set_option maxRecDepth 20000 in
theorem w50_1 {d : Nat} {st : List Value} {Q : Option Value × jW → Prop} {ls : jL} {w : jW} {a : Int32} : Wp d 50 1 ls (.int a :: st) w Q = ((a < nI 0 → Wp d 50 16 ls st w Q) ∧ (¬ a < nI 0 → Wp d 50 4 ls st w Q)) := Wp.if2 (c := a < nI 0) (off := 15) e50_1 rfl rfl rfl rfl rfl
theorem e50_4 : decode (j_co 50) 4 = .ok (.iload_n 1, 1) := by decide +kernel
set_option maxRecDepth 20000 in
theorem w50_4 {d : Nat} {st : List Value} {Q : Option Value × jW → Prop} {w : jW} {a0 : Option Value} {x : Int32} : Wp d 50 4 [a0, some (.int x)] (st) w Q = Wp d 50 5 [a0, some (.int x)] (.int x :: st) w Q := Wp.loc e50_4 rfl rfl rfl
theorem e50_5 : decode (j_co 50) 5 = .ok (.aload_n 0, 1) := by decide +kernel
set_option maxRecDepth 20000 in
theorem w50_5 {d : Nat} {st : List Value} {Q : Option Value × jW → Prop} {w : jW} {a1 : Option Value} {x : Nat} : Wp d 50 5 [some (.ref x), a1] (st) w Q = Wp d 50 6 [some (.ref x), a1] (.ref x :: st) w Q := Wp.loc e50_5 rfl rfl rfl
theorem e50_6 : decode (j_co 50) 6 = .ok (.getfield 44, 3) := by decide +kernel
set_option maxRecDepth 20000 in
theorem w50_6 {d : Nat} {st : List Value} {Q : Option Value × jW → Prop} {ls : jL} {xs : List Value} {I : fI} {L : fL} {o : Nat} (ht : f_tg o = 7) : Wp d 50 6 ls (.ref o :: st) (f_W xs I L) Q = Wp d 50 9 ls (.int (I o 6) :: st) (f_W xs I L) Q := Wp.getI (ci := 7) (k := 6) e50_6 rfl (by decide) (by decide) (by decide) ht
theorem e50_9 : decode (j_co 50) 9 = .ok (.if_icmp .ge 7, 3) := by decide +kernel
set_option maxRecDepth 20000 in
theorem w50_9 {d : Nat} {st : List Value} {Q : Option Value × jW → Prop} {ls : jL} {w : jW} {a b : Int32} : Wp d 50 9 ls (.int b :: .int a :: st) w Q = ((b ≤ a → Wp d 50 16 ls st w Q) ∧ (¬ b ≤ a → Wp d 50 12 ls st w Q)) := Wp.if2 (c := b ≤ a) (off := 7) e50_9 rfl rfl rfl rfl rfl
theorem e50_12 : decode (j_co 50) 12 = .ok (.iconst 1, 1) := by decide +kernel
set_option maxRecDepth 20000 in
theorem w50_12 {d : Nat} {st : List Value} {Q : Option Value × jW → Prop} {ls : jL} {w : jW} : Wp d 50 12 ls (st) w Q = Wp d 50 13 ls (.int (nI 1) :: st) w Q := Wp.alu e50_12 rfl rfl
theorem e50_13 : decode (j_co 50) 13 = .ok (.goto 4, 3) := by decide +kernel
set_option maxRecDepth 20000 in
theorem w50_13 {d : Nat} {st : List Value} {Q : Option Value × jW → Prop} {ls : jL} {w : jW} : Wp d 50 13 ls (st) w Q = Wp d 50 17 ls (st) w Q := Wp.br e50_13 (Or.inl rfl) rfl rfl rfl rfl
theorem e50_16 : decode (j_co 50) 16 = .ok (.iconst 0, 1) := by decide +kernel
set_option maxRecDepth 20000 in
theorem w50_16 {d : Nat} {st : List Value} {Q : Option Value × jW → Prop} {ls : jL} {w : jW} : Wp d 50 16 ls (st) w Q = Wp d 50 17 ls (.int (nI 0) :: st) w Q := Wp.alu e50_16 rfl rfl
theorem e50_17 : decode (j_co 50) 17 = .ok (.ireturn, 1) := by decide +kernel
set_option maxRecDepth 20000 in
theorem w50_17 {d : Nat} {Q : Option Value × jW → Prop} {ls : jL} {w : jW} {x : Int32} (hx : x = 0 ∨ x = 1) : Wp d 50 17 ls [.int x] w Q = Q (some (.int x), w) := Wp.ret e50_17 (by rcases hx with rfl | rfl <;> rfl)
/-! Search.verdict -/
theorem e51_0 : decode (j_co 51) 0 = .ok (.iconst 0, 1) := by decide +kernel
set_option maxRecDepth 20000 in
theorem w51_0 {d : Nat} {st : List Value} {Q : Option Value × jW → Prop} {ls : jL} {w : jW} : Wp d 51 0 ls (st) w Q = Wp d 51 1 ls (.int (nI 0) :: st) w Q := Wp.alu e51_0 rfl rfl
theorem e51_1 : decode (j_co 51) 1 = .ok (.istore_n 1, 1) := by decide +kernel
set_option maxRecDepth 20000 in
theorem w51_1 {d : Nat} {st : List Value} {Q : Option Value × jW → Prop} {w : jW} {a0 a1 a2 : Option Value} {x : Int32} (h : j_cp a0) : Wp d 51 1 [a0, a1, a2] (.int x :: st) w Q = Wp d 51 2 [a0, some (.int x), a2] (st) w Q := Wp.loc e51_1 rfl rfl (v_stI (ls := [a0, a1, a2]) (k := 1) (show 1 < 3 by decide) h)
theorem e51_2 : decode (j_co 51) 2 = .ok (.iconst 0, 1) := by decide +kernel
set_option maxRecDepth 20000 in
theorem w51_2 {d : Nat} {st : List Value} {Q : Option Value × jW → Prop} {ls : jL} {w : jW} : Wp d 51 2 ls (st) w Q = Wp d 51 3 ls (.int (nI 0) :: st) w Q := Wp.alu e51_2 rfl rfl
theorem e51_3 : decode (j_co 51) 3 = .ok (.istore_n 2, 1) := by decide +kernel
set_option maxRecDepth 20000 in
theorem w51_3 {d : Nat} {st : List Value} {Q : Option Value × jW → Prop} {w : jW} {a0 a1 a2 : Option Value} {x : Int32} (h : j_cp a1) : Wp d 51 3 [a0, a1, a2] (.int x :: st) w Q = Wp d 51 4 [a0, a1, some (.int x)] (st) w Q := Wp.loc e51_3 rfl rfl (v_stI (ls := [a0, a1, a2]) (k := 2) (show 2 < 3 by decide) h)
theorem e51_4 : decode (j_co 51) 4 = .ok (.iload_n 2, 1) := by decide +kernel
set_option maxRecDepth 20000 in
theorem w51_4 {d : Nat} {st : List Value} {Q : Option Value × jW → Prop} {w : jW} {a0 a1 : Option Value} {x : Int32} : Wp d 51 4 [a0, a1, some (.int x)] (st) w Q = Wp d 51 5 [a0, a1, some (.int x)] (.int x :: st) w Q := Wp.loc e51_4 rfl rfl rfl
theorem e51_5 : decode (j_co 51) 5 = .ok (.aload_n 0, 1) := by decide +kernel
set_option maxRecDepth 20000 in
theorem w51_5 {d : Nat} {st : List Value} {Q : Option Value × jW → Prop} {w : jW} {a1 a2 : Option Value} {x : Nat} : Wp d 51 5 [some (.ref x), a1, a2] (st) w Q = Wp d 51 6 [some (.ref x), a1, a2] (.ref x :: st) w Q := Wp.loc e51_5 rfl rfl rfl
theorem e51_6 : decode (j_co 51) 6 = .ok (.getfield 44, 3) := by decide +kernel
set_option maxRecDepth 20000 in
theorem w51_6 {d : Nat} {st : List Value} {Q : Option Value × jW → Prop} {ls : jL} {xs : List Value} {I : fI} {L : fL} {o : Nat} (ht : f_tg o = 7) : Wp d 51 6 ls (.ref o :: st) (f_W xs I L) Q = Wp d 51 9 ls (.int (I o 6) :: st) (f_W xs I L) Q := Wp.getI (ci := 7) (k := 6) e51_6 rfl (by decide) (by decide) (by decide) ht
theorem e51_9 : decode (j_co 51) 9 = .ok (.if_icmp .ge 53, 3) := by decide +kernel
set_option maxRecDepth 20000 in
theorem w51_9 {d : Nat} {st : List Value} {Q : Option Value × jW → Prop} {ls : jL} {w : jW} {a b : Int32} : Wp d 51 9 ls (.int b :: .int a :: st) w Q = ((b ≤ a → Wp d 51 62 ls st w Q) ∧ (¬ b ≤ a → Wp d 51 12 ls st w Q)) := Wp.if2 (c := b ≤ a) (off := 53) e51_9 rfl rfl rfl rfl rfl
theorem e51_12 : decode (j_co 51) 12 = .ok (.aload_n 0, 1) := by decide +kernel
set_option maxRecDepth 20000 in
theorem w51_12 {d : Nat} {st : List Value} {Q : Option Value × jW → Prop} {w : jW} {a1 a2 : Option Value} {x : Nat} : Wp d 51 12 [some (.ref x), a1, a2] (st) w Q = Wp d 51 13 [some (.ref x), a1, a2] (.ref x :: st) w Q := Wp.loc e51_12 rfl rfl rfl
theorem e51_13 : decode (j_co 51) 13 = .ok (.getfield 35, 3) := by decide +kernel
set_option maxRecDepth 20000 in
theorem w51_13 {d : Nat} {st : List Value} {Q : Option Value × jW → Prop} {ls : jL} {xs : List Value} {I : fI} {L : fL} {o : Nat} (ht : f_tg o = 7) : Wp d 51 13 ls (.ref o :: st) (f_W xs I L) Q = Wp d 51 16 ls (.ref (f_rf o 0) :: st) (f_W xs I L) Q := Wp.getR (ci := 7) (k := 0) e51_13 rfl (by decide) (by decide) rfl ht
theorem e51_16 : decode (j_co 51) 16 = .ok (.aload_n 0, 1) := by decide +kernel
set_option maxRecDepth 20000 in
theorem w51_16 {d : Nat} {st : List Value} {Q : Option Value × jW → Prop} {w : jW} {a1 a2 : Option Value} {x : Nat} : Wp d 51 16 [some (.ref x), a1, a2] (st) w Q = Wp d 51 17 [some (.ref x), a1, a2] (.ref x :: st) w Q := Wp.loc e51_16 rfl rfl rfl
theorem e51_17 : decode (j_co 51) 17 = .ok (.getfield 11, 3) := by decide +kernel
set_option maxRecDepth 20000 in
theorem w51_17 {d : Nat} {st : List Value} {Q : Option Value × jW → Prop} {ls : jL} {xs : List Value} {I : fI} {L : fL} {o : Nat} (ht : f_tg o = 7) : Wp d 51 17 ls (.ref o :: st) (f_W xs I L) Q = Wp d 51 20 ls (.ref (f_rf o 1) :: st) (f_W xs I L) Q := Wp.getR (ci := 7) (k := 1) e51_17 rfl (by decide) (by decide) rfl ht
theorem e51_20 : decode (j_co 51) 20 = .ok (.iload_n 2, 1) := by decide +kernel
set_option maxRecDepth 20000 in
theorem w51_20 {d : Nat} {st : List Value} {Q : Option Value × jW → Prop} {w : jW} {a0 a1 : Option Value} {x : Int32} : Wp d 51 20 [a0, a1, some (.int x)] (st) w Q = Wp d 51 21 [a0, a1, some (.int x)] (.int x :: st) w Q := Wp.loc e51_20 rfl rfl rfl
theorem e51_21 : decode (j_co 51) 21 = .ok (.aaload, 1) := by decide +kernel
set_option maxRecDepth 20000 in
theorem w51_21 {d : Nat} {st : List Value} {Q : Option Value × jW → Prop} {ls : jL} {xs : List Value} {I : fI} {L : fL} {o : Nat} {i : Int32} (ht : 103 ≤ f_tg o ∧ f_tg o ≤ 106) (hi : ¬ (i < 0 ∨ f_ln o ≤ i.toNatClampNeg)) : Wp d 51 21 ls (.int i :: .ref o :: st) (f_W xs I L) Q = Wp d 51 22 ls (.ref (f_rf o i.toNatClampNeg) :: st) (f_W xs I L) Q := Wp.aald e51_21 rfl ht hi
theorem e51_22 : decode (j_co 51) 22 = .ok (.getfield 76, 3) := by decide +kernel
set_option maxRecDepth 20000 in
theorem w51_22 {d : Nat} {st : List Value} {Q : Option Value × jW → Prop} {ls : jL} {xs : List Value} {I : fI} {L : fL} {o : Nat} (ht : f_tg o = 3) : Wp d 51 22 ls (.ref o :: st) (f_W xs I L) Q = Wp d 51 25 ls (.int (I o 1) :: st) (f_W xs I L) Q := Wp.getI (ci := 3) (k := 1) e51_22 rfl (by decide) (by decide) (by decide) ht
theorem e51_25 : decode (j_co 51) 25 = .ok (.aload_n 0, 1) := by decide +kernel
set_option maxRecDepth 20000 in
theorem w51_25 {d : Nat} {st : List Value} {Q : Option Value × jW → Prop} {w : jW} {a1 a2 : Option Value} {x : Nat} : Wp d 51 25 [some (.ref x), a1, a2] (st) w Q = Wp d 51 26 [some (.ref x), a1, a2] (.ref x :: st) w Q := Wp.loc e51_25 rfl rfl rfl
theorem e51_26 : decode (j_co 51) 26 = .ok (.getfield 11, 3) := by decide +kernel
set_option maxRecDepth 20000 in
theorem w51_26 {d : Nat} {st : List Value} {Q : Option Value × jW → Prop} {ls : jL} {xs : List Value} {I : fI} {L : fL} {o : Nat} (ht : f_tg o = 7) : Wp d 51 26 ls (.ref o :: st) (f_W xs I L) Q = Wp d 51 29 ls (.ref (f_rf o 1) :: st) (f_W xs I L) Q := Wp.getR (ci := 7) (k := 1) e51_26 rfl (by decide) (by decide) rfl ht
theorem e51_29 : decode (j_co 51) 29 = .ok (.iload_n 2, 1) := by decide +kernel
set_option maxRecDepth 20000 in
theorem w51_29 {d : Nat} {st : List Value} {Q : Option Value × jW → Prop} {w : jW} {a0 a1 : Option Value} {x : Int32} : Wp d 51 29 [a0, a1, some (.int x)] (st) w Q = Wp d 51 30 [a0, a1, some (.int x)] (.int x :: st) w Q := Wp.loc e51_29 rfl rfl rfl
theorem e51_30 : decode (j_co 51) 30 = .ok (.aaload, 1) := by decide +kernel
set_option maxRecDepth 20000 in
theorem w51_30 {d : Nat} {st : List Value} {Q : Option Value × jW → Prop} {ls : jL} {xs : List Value} {I : fI} {L : fL} {o : Nat} {i : Int32} (ht : 103 ≤ f_tg o ∧ f_tg o ≤ 106) (hi : ¬ (i < 0 ∨ f_ln o ≤ i.toNatClampNeg)) : Wp d 51 30 ls (.int i :: .ref o :: st) (f_W xs I L) Q = Wp d 51 31 ls (.ref (f_rf o i.toNatClampNeg) :: st) (f_W xs I L) Q := Wp.aald e51_30 rfl ht hi
theorem e51_31 : decode (j_co 51) 31 = .ok (.getfield 79, 3) := by decide +kernel
set_option maxRecDepth 20000 in
theorem w51_31 {d : Nat} {st : List Value} {Q : Option Value × jW → Prop} {ls : jL} {xs : List Value} {I : fI} {L : fL} {o : Nat} (ht : f_tg o = 3) : Wp d 51 31 ls (.ref o :: st) (f_W xs I L) Q = Wp d 51 34 ls (.ref (f_rf o 0) :: st) (f_W xs I L) Q := Wp.getR (ci := 3) (k := 0) e51_31 rfl (by decide) (by decide) rfl ht
theorem e51_34 : decode (j_co 51) 34 = .ok (.invokevirtual 82, 3) := by decide +kernel
set_option maxRecDepth 20000 in
theorem w51_34 {d : Nat} {st : List Value} {Q : Option Value × jW → Prop} {ls : jL} {xs : List Value} {I : fI} {L : fL} {r : Nat} {x0 : Int32} {x1 : Nat} (hs : j_sumc st ≤ 8) (ht : f_tg r = 5) : Wp (d + 1) 51 34 ls (.ref x1 :: .int x0 :: .ref r :: st) (f_W xs I L) Q = Wp d 52 0 [some (.ref r), some (.int x0), some (.ref x1)] [] (f_W xs I L) (fun r1 => Wp (d + 1) 51 37 ls (r1.1.toList ++ st) r1.2 Q) := Wp.cv (y' := 52) (as := [.int x0, .ref x1]) e51_34 rfl (by decide) rfl (show 3 ≤ 3 by decide) (by decide) hs ht
theorem e51_37 : decode (j_co 51) 37 = .ok (.ifCond .eq 19, 3) := by decide +kernel
set_option maxRecDepth 20000 in
theorem w51_37 {d : Nat} {st : List Value} {Q : Option Value × jW → Prop} {ls : jL} {w : jW} {a : Int32} : Wp d 51 37 ls (.int a :: st) w Q = ((a = nI 0 → Wp d 51 56 ls st w Q) ∧ (¬ a = nI 0 → Wp d 51 40 ls st w Q)) := Wp.if2 (c := a = nI 0) (off := 19) e51_37 rfl rfl rfl rfl rfl
theorem e51_40 : decode (j_co 51) 40 = .ok (.iconst 1, 1) := by decide +kernel
set_option maxRecDepth 20000 in
theorem w51_40 {d : Nat} {st : List Value} {Q : Option Value × jW → Prop} {ls : jL} {w : jW} : Wp d 51 40 ls (st) w Q = Wp d 51 41 ls (.int (nI 1) :: st) w Q := Wp.alu e51_40 rfl rfl
theorem e51_41 : decode (j_co 51) 41 = .ok (.istore_n 1, 1) := by decide +kernel
set_option maxRecDepth 20000 in
theorem w51_41 {d : Nat} {st : List Value} {Q : Option Value × jW → Prop} {w : jW} {a0 a1 a2 : Option Value} {x : Int32} (h : j_cp a0) : Wp d 51 41 [a0, a1, a2] (.int x :: st) w Q = Wp d 51 42 [a0, some (.int x), a2] (st) w Q := Wp.loc e51_41 rfl rfl (v_stI (ls := [a0, a1, a2]) (k := 1) (show 1 < 3 by decide) h)
theorem e51_42 : decode (j_co 51) 42 = .ok (.aload_n 0, 1) := by decide +kernel
set_option maxRecDepth 20000 in
theorem w51_42 {d : Nat} {st : List Value} {Q : Option Value × jW → Prop} {w : jW} {a1 a2 : Option Value} {x : Nat} : Wp d 51 42 [some (.ref x), a1, a2] (st) w Q = Wp d 51 43 [some (.ref x), a1, a2] (.ref x :: st) w Q := Wp.loc e51_42 rfl rfl rfl
theorem e51_43 : decode (j_co 51) 43 = .ok (.getfield 11, 3) := by decide +kernel
set_option maxRecDepth 20000 in
theorem w51_43 {d : Nat} {st : List Value} {Q : Option Value × jW → Prop} {ls : jL} {xs : List Value} {I : fI} {L : fL} {o : Nat} (ht : f_tg o = 7) : Wp d 51 43 ls (.ref o :: st) (f_W xs I L) Q = Wp d 51 46 ls (.ref (f_rf o 1) :: st) (f_W xs I L) Q := Wp.getR (ci := 7) (k := 1) e51_43 rfl (by decide) (by decide) rfl ht
theorem e51_46 : decode (j_co 51) 46 = .ok (.iload_n 2, 1) := by decide +kernel
set_option maxRecDepth 20000 in
theorem w51_46 {d : Nat} {st : List Value} {Q : Option Value × jW → Prop} {w : jW} {a0 a1 : Option Value} {x : Int32} : Wp d 51 46 [a0, a1, some (.int x)] (st) w Q = Wp d 51 47 [a0, a1, some (.int x)] (.int x :: st) w Q := Wp.loc e51_46 rfl rfl rfl
theorem e51_47 : decode (j_co 51) 47 = .ok (.aaload, 1) := by decide +kernel
set_option maxRecDepth 20000 in
theorem w51_47 {d : Nat} {st : List Value} {Q : Option Value × jW → Prop} {ls : jL} {xs : List Value} {I : fI} {L : fL} {o : Nat} {i : Int32} (ht : 103 ≤ f_tg o ∧ f_tg o ≤ 106) (hi : ¬ (i < 0 ∨ f_ln o ≤ i.toNatClampNeg)) : Wp d 51 47 ls (.int i :: .ref o :: st) (f_W xs I L) Q = Wp d 51 48 ls (.ref (f_rf o i.toNatClampNeg) :: st) (f_W xs I L) Q := Wp.aald e51_47 rfl ht hi
theorem e51_48 : decode (j_co 51) 48 = .ok (.getfield 86, 3) := by decide +kernel
set_option maxRecDepth 20000 in
theorem w51_48 {d : Nat} {st : List Value} {Q : Option Value × jW → Prop} {ls : jL} {xs : List Value} {I : fI} {L : fL} {o : Nat} (ht : f_tg o = 3) : Wp d 51 48 ls (.ref o :: st) (f_W xs I L) Q = Wp d 51 51 ls (.int (I o 6) :: st) (f_W xs I L) Q := Wp.getI (ci := 3) (k := 6) e51_48 rfl (by decide) (by decide) (by decide) ht
theorem e51_51 : decode (j_co 51) 51 = .ok (.ifCond .eq 5, 3) := by decide +kernel
set_option maxRecDepth 20000 in
theorem w51_51 {d : Nat} {st : List Value} {Q : Option Value × jW → Prop} {ls : jL} {w : jW} {a : Int32} : Wp d 51 51 ls (.int a :: st) w Q = ((a = nI 0 → Wp d 51 56 ls st w Q) ∧ (¬ a = nI 0 → Wp d 51 54 ls st w Q)) := Wp.if2 (c := a = nI 0) (off := 5) e51_51 rfl rfl rfl rfl rfl
theorem e51_54 : decode (j_co 51) 54 = .ok (.iconst 0, 1) := by decide +kernel
set_option maxRecDepth 20000 in
theorem w51_54 {d : Nat} {st : List Value} {Q : Option Value × jW → Prop} {ls : jL} {w : jW} : Wp d 51 54 ls (st) w Q = Wp d 51 55 ls (.int (nI 0) :: st) w Q := Wp.alu e51_54 rfl rfl
theorem e51_55 : decode (j_co 51) 55 = .ok (.ireturn, 1) := by decide +kernel
set_option maxRecDepth 20000 in
theorem w51_55 {d : Nat} {Q : Option Value × jW → Prop} {ls : jL} {w : jW} {x : Int32} : Wp d 51 55 ls [.int x] w Q = Q (some (.int x), w) := Wp.ret e51_55 rfl
theorem e51_56 : decode (j_co 51) 56 = .ok (.iinc 2 1, 3) := by decide +kernel
set_option maxRecDepth 20000 in
theorem w51_56 {d : Nat} {st : List Value} {Q : Option Value × jW → Prop} {w : jW} {a0 a1 : Option Value} {x : Int32} (h : j_cp a1) : Wp d 51 56 [a0, a1, some (.int x)] (st) w Q = Wp d 51 59 [a0, a1, some (.int (x + nI 1))] (st) w Q := Wp.loc e51_56 rfl rfl (v_inc (ls := [a0, a1, some (.int x)]) (k := 2) (n := 1) rfl (show 2 < 3 by decide) h)
theorem e51_59 : decode (j_co 51) 59 = .ok (.goto (-55), 3) := by decide +kernel
set_option maxRecDepth 20000 in
theorem w51_59 {d : Nat} {st : List Value} {Q : Option Value × jW → Prop} {ls : jL} {w : jW} : Wp d 51 59 ls (st) w Q = Wp d 51 4 ls (st) w Q := Wp.br e51_59 (Or.inl rfl) rfl rfl rfl rfl
theorem e51_62 : decode (j_co 51) 62 = .ok (.iload_n 1, 1) := by decide +kernel
set_option maxRecDepth 20000 in
theorem w51_62 {d : Nat} {st : List Value} {Q : Option Value × jW → Prop} {w : jW} {a0 a2 : Option Value} {x : Int32} : Wp d 51 62 [a0, some (.int x), a2] (st) w Q = Wp d 51 63 [a0, some (.int x), a2] (.int x :: st) w Q := Wp.loc e51_62 rfl rfl rfl
theorem e51_63 : decode (j_co 51) 63 = .ok (.ifCond .eq 6, 3) := by decide +kernel
set_option maxRecDepth 20000 in
theorem w51_63 {d : Nat} {st : List Value} {Q : Option Value × jW → Prop} {ls : jL} {w : jW} {a : Int32} : Wp d 51 63 ls (.int a :: st) w Q = ((a = nI 0 → Wp d 51 69 ls st w Q) ∧ (¬ a = nI 0 → Wp d 51 66 ls st w Q)) := Wp.if2 (c := a = nI 0) (off := 6) e51_63 rfl rfl rfl rfl rfl
theorem e51_66 : decode (j_co 51) 66 = .ok (.bipush (-5), 2) := by decide +kernel
set_option maxRecDepth 20000 in
theorem w51_66 {d : Nat} {st : List Value} {Q : Option Value × jW → Prop} {ls : jL} {w : jW} : Wp d 51 66 ls (st) w Q = Wp d 51 68 ls (.int (-5) :: st) w Q := Wp.alu e51_66 rfl rfl
theorem e51_68 : decode (j_co 51) 68 = .ok (.ireturn, 1) := by decide +kernel
set_option maxRecDepth 20000 in
theorem w51_68 {d : Nat} {Q : Option Value × jW → Prop} {ls : jL} {w : jW} {x : Int32} : Wp d 51 68 ls [.int x] w Q = Q (some (.int x), w) := Wp.ret e51_68 rfl
theorem e51_69 : decode (j_co 51) 69 = .ok (.aload_n 0, 1) := by decide +kernel
set_option maxRecDepth 20000 in
theorem w51_69 {d : Nat} {st : List Value} {Q : Option Value × jW → Prop} {w : jW} {a1 a2 : Option Value} {x : Nat} : Wp d 51 69 [some (.ref x), a1, a2] (st) w Q = Wp d 51 70 [some (.ref x), a1, a2] (.ref x :: st) w Q := Wp.loc e51_69 rfl rfl rfl
theorem e51_70 : decode (j_co 51) 70 = .ok (.getfield 50, 3) := by decide +kernel
set_option maxRecDepth 20000 in
theorem w51_70 {d : Nat} {st : List Value} {Q : Option Value × jW → Prop} {ls : jL} {xs : List Value} {I : fI} {L : fL} {o : Nat} (ht : f_tg o = 7) : Wp d 51 70 ls (.ref o :: st) (f_W xs I L) Q = Wp d 51 73 ls (.int (I o 8) :: st) (f_W xs I L) Q := Wp.getI (ci := 7) (k := 8) e51_70 rfl (by decide) (by decide) (by decide) ht
theorem e51_73 : decode (j_co 51) 73 = .ok (.ifCond .eq 8, 3) := by decide +kernel
set_option maxRecDepth 20000 in
theorem w51_73 {d : Nat} {st : List Value} {Q : Option Value × jW → Prop} {ls : jL} {w : jW} {a : Int32} : Wp d 51 73 ls (.int a :: st) w Q = ((a = nI 0 → Wp d 51 81 ls st w Q) ∧ (¬ a = nI 0 → Wp d 51 76 ls st w Q)) := Wp.if2 (c := a = nI 0) (off := 8) e51_73 rfl rfl rfl rfl rfl
theorem e51_76 : decode (j_co 51) 76 = .ok (.bipush (-6), 2) := by decide +kernel
set_option maxRecDepth 20000 in
theorem w51_76 {d : Nat} {st : List Value} {Q : Option Value × jW → Prop} {ls : jL} {w : jW} : Wp d 51 76 ls (st) w Q = Wp d 51 78 ls (.int (-6) :: st) w Q := Wp.alu e51_76 rfl rfl
theorem e51_78 : decode (j_co 51) 78 = .ok (.goto 4, 3) := by decide +kernel
set_option maxRecDepth 20000 in
theorem w51_78 {d : Nat} {st : List Value} {Q : Option Value × jW → Prop} {ls : jL} {w : jW} : Wp d 51 78 ls (st) w Q = Wp d 51 82 ls (st) w Q := Wp.br e51_78 (Or.inl rfl) rfl rfl rfl rfl
theorem e51_81 : decode (j_co 51) 81 = .ok (.iconst 1, 1) := by decide +kernel
set_option maxRecDepth 20000 in
theorem w51_81 {d : Nat} {st : List Value} {Q : Option Value × jW → Prop} {ls : jL} {w : jW} : Wp d 51 81 ls (st) w Q = Wp d 51 82 ls (.int (nI 1) :: st) w Q := Wp.alu e51_81 rfl rfl
theorem e51_82 : decode (j_co 51) 82 = .ok (.ireturn, 1) := by decide +kernel
set_option maxRecDepth 20000 in
theorem w51_82 {d : Nat} {Q : Option Value × jW → Prop} {ls : jL} {w : jW} {x : Int32} : Wp d 51 82 ls [.int x] w Q = Q (some (.int x), w) := Wp.ret e51_82 rfl
/-! Machine.isMet -/
theorem e52_0 : decode (j_co 52) 0 = .ok (.aload_n 0, 1) := by decide +kernel
set_option maxRecDepth 20000 in
theorem w52_0 {d : Nat} {st : List Value} {Q : Option Value × jW → Prop} {w : jW} {a1 a2 : Option Value} {x : Nat} : Wp d 52 0 [some (.ref x), a1, a2] (st) w Q = Wp d 52 1 [some (.ref x), a1, a2] (.ref x :: st) w Q := Wp.loc e52_0 rfl rfl rfl
theorem e52_1 : decode (j_co 52) 1 = .ok (.getfield 33, 3) := by decide +kernel
set_option maxRecDepth 20000 in
theorem w52_1 {d : Nat} {st : List Value} {Q : Option Value × jW → Prop} {ls : jL} {xs : List Value} {I : fI} {L : fL} {o : Nat} (ht : f_tg o = 5) : Wp d 52 1 ls (.ref o :: st) (f_W xs I L) Q = Wp d 52 4 ls (.int (I o 7) :: st) (f_W xs I L) Q := Wp.getI (ci := 5) (k := 7) e52_1 rfl (by decide) (by decide) (by decide) ht
theorem e52_4 : decode (j_co 52) 4 = .ok (.iload_n 1, 1) := by decide +kernel
set_option maxRecDepth 20000 in
theorem w52_4 {d : Nat} {st : List Value} {Q : Option Value × jW → Prop} {w : jW} {a0 a2 : Option Value} {x : Int32} : Wp d 52 4 [a0, some (.int x), a2] (st) w Q = Wp d 52 5 [a0, some (.int x), a2] (.int x :: st) w Q := Wp.loc e52_4 rfl rfl rfl
theorem e52_5 : decode (j_co 52) 5 = .ok (.if_icmp .ne 18, 3) := by decide +kernel
set_option maxRecDepth 20000 in
theorem w52_5 {d : Nat} {st : List Value} {Q : Option Value × jW → Prop} {ls : jL} {w : jW} {a b : Int32} : Wp d 52 5 ls (.int b :: .int a :: st) w Q = ((a = b → Wp d 52 8 ls st w Q) ∧ (¬ a = b → Wp d 52 23 ls st w Q)) := Wp.if2n (c := a = b) (off := 18) e52_5 rfl rfl rfl rfl rfl
theorem e52_8 : decode (j_co 52) 8 = .ok (.aload_n 0, 1) := by decide +kernel
set_option maxRecDepth 20000 in
theorem w52_8 {d : Nat} {st : List Value} {Q : Option Value × jW → Prop} {w : jW} {a1 a2 : Option Value} {x : Nat} : Wp d 52 8 [some (.ref x), a1, a2] (st) w Q = Wp d 52 9 [some (.ref x), a1, a2] (.ref x :: st) w Q := Wp.loc e52_8 rfl rfl rfl
theorem e52_9 : decode (j_co 52) 9 = .ok (.getfield 30, 3) := by decide +kernel
set_option maxRecDepth 20000 in
theorem w52_9 {d : Nat} {st : List Value} {Q : Option Value × jW → Prop} {ls : jL} {xs : List Value} {I : fI} {L : fL} {o : Nat} (ht : f_tg o = 5) : Wp d 52 9 ls (.ref o :: st) (f_W xs I L) Q = Wp d 52 12 ls (.ref (f_rf o 3) :: st) (f_W xs I L) Q := Wp.getR (ci := 5) (k := 3) e52_9 rfl (by decide) (by decide) rfl ht
theorem e52_12 : decode (j_co 52) 12 = .ok (.aload_n 2, 1) := by decide +kernel
set_option maxRecDepth 20000 in
theorem w52_12 {d : Nat} {st : List Value} {Q : Option Value × jW → Prop} {w : jW} {a0 a1 : Option Value} {x : Nat} : Wp d 52 12 [a0, a1, some (.ref x)] (st) w Q = Wp d 52 13 [a0, a1, some (.ref x)] (.ref x :: st) w Q := Wp.loc e52_12 rfl rfl rfl
theorem e52_13 : decode (j_co 52) 13 = .ok (.invokevirtual 103, 3) := by decide +kernel
set_option maxRecDepth 20000 in
theorem w52_13 {d : Nat} {st : List Value} {Q : Option Value × jW → Prop} {ls : jL} {xs : List Value} {I : fI} {L : fL} {r : Nat} {x0 : Nat} (hs : j_sumc st ≤ 8) (ht : f_tg r = 0) : Wp (d + 1) 52 13 ls (.ref x0 :: .ref r :: st) (f_W xs I L) Q = Wp d 53 0 [some (.ref r), some (.ref x0), none] [] (f_W xs I L) (fun r1 => Wp (d + 1) 52 16 ls (r1.1.toList ++ st) r1.2 Q) := Wp.cv (y' := 53) (as := [.ref x0]) e52_13 rfl (by decide) rfl (show 2 ≤ 3 by decide) (by decide) hs ht
theorem e52_16 : decode (j_co 52) 16 = .ok (.ifCond .eq 7, 3) := by decide +kernel
set_option maxRecDepth 20000 in
theorem w52_16 {d : Nat} {st : List Value} {Q : Option Value × jW → Prop} {ls : jL} {w : jW} {a : Int32} : Wp d 52 16 ls (.int a :: st) w Q = ((a = nI 0 → Wp d 52 23 ls st w Q) ∧ (¬ a = nI 0 → Wp d 52 19 ls st w Q)) := Wp.if2 (c := a = nI 0) (off := 7) e52_16 rfl rfl rfl rfl rfl
theorem e52_19 : decode (j_co 52) 19 = .ok (.iconst 1, 1) := by decide +kernel
set_option maxRecDepth 20000 in
theorem w52_19 {d : Nat} {st : List Value} {Q : Option Value × jW → Prop} {ls : jL} {w : jW} : Wp d 52 19 ls (st) w Q = Wp d 52 20 ls (.int (nI 1) :: st) w Q := Wp.alu e52_19 rfl rfl
theorem e52_20 : decode (j_co 52) 20 = .ok (.goto 4, 3) := by decide +kernel
set_option maxRecDepth 20000 in
theorem w52_20 {d : Nat} {st : List Value} {Q : Option Value × jW → Prop} {ls : jL} {w : jW} : Wp d 52 20 ls (st) w Q = Wp d 52 24 ls (st) w Q := Wp.br e52_20 (Or.inl rfl) rfl rfl rfl rfl
theorem e52_23 : decode (j_co 52) 23 = .ok (.iconst 0, 1) := by decide +kernel
set_option maxRecDepth 20000 in
theorem w52_23 {d : Nat} {st : List Value} {Q : Option Value × jW → Prop} {ls : jL} {w : jW} : Wp d 52 23 ls (st) w Q = Wp d 52 24 ls (.int (nI 0) :: st) w Q := Wp.alu e52_23 rfl rfl
theorem e52_24 : decode (j_co 52) 24 = .ok (.ireturn, 1) := by decide +kernel
set_option maxRecDepth 20000 in
theorem w52_24 {d : Nat} {Q : Option Value × jW → Prop} {ls : jL} {w : jW} {x : Int32} (hx : x = 0 ∨ x = 1) : Wp d 52 24 ls [.int x] w Q = Q (some (.int x), w) := Wp.ret e52_24 (by rcases hx with rfl | rfl <;> rfl)
/-! Search.reaches -/
theorem e60_0 : decode (j_co 60) 0 = .ok (.iconst 0, 1) := by decide +kernel
set_option maxRecDepth 20000 in
theorem w60_0 {d : Nat} {st : List Value} {Q : Option Value × jW → Prop} {ls : jL} {w : jW} : Wp d 60 0 ls (st) w Q = Wp d 60 1 ls (.int (nI 0) :: st) w Q := Wp.alu e60_0 rfl rfl
theorem e60_1 : decode (j_co 60) 1 = .ok (.istore 5, 2) := by decide +kernel
set_option maxRecDepth 20000 in
theorem w60_1 {d : Nat} {st : List Value} {Q : Option Value × jW → Prop} {w : jW} {a0 a1 a2 a3 a4 a5 : Option Value} {x : Int32} (h : j_cp a4) : Wp d 60 1 [a0, a1, a2, a3, a4, a5] (.int x :: st) w Q = Wp d 60 3 [a0, a1, a2, a3, a4, some (.int x)] (st) w Q := Wp.loc e60_1 rfl rfl (v_stI (ls := [a0, a1, a2, a3, a4, a5]) (k := 5) (show 5 < 6 by decide) h)
theorem e60_3 : decode (j_co 60) 3 = .ok (.iload 5, 2) := by decide +kernel
set_option maxRecDepth 20000 in
theorem w60_3 {d : Nat} {st : List Value} {Q : Option Value × jW → Prop} {w : jW} {a0 a1 a2 a3 a4 : Option Value} {x : Int32} : Wp d 60 3 [a0, a1, a2, a3, a4, some (.int x)] (st) w Q = Wp d 60 5 [a0, a1, a2, a3, a4, some (.int x)] (.int x :: st) w Q := Wp.loc e60_3 rfl rfl rfl
theorem e60_5 : decode (j_co 60) 5 = .ok (.aload_n 0, 1) := by decide +kernel
set_option maxRecDepth 20000 in
theorem w60_5 {d : Nat} {st : List Value} {Q : Option Value × jW → Prop} {w : jW} {a1 a2 a3 a4 a5 : Option Value} {x : Nat} : Wp d 60 5 [some (.ref x), a1, a2, a3, a4, a5] (st) w Q = Wp d 60 6 [some (.ref x), a1, a2, a3, a4, a5] (.ref x :: st) w Q := Wp.loc e60_5 rfl rfl rfl
theorem e60_6 : decode (j_co 60) 6 = .ok (.getfield 44, 3) := by decide +kernel
set_option maxRecDepth 20000 in
theorem w60_6 {d : Nat} {st : List Value} {Q : Option Value × jW → Prop} {ls : jL} {xs : List Value} {I : fI} {L : fL} {o : Nat} (ht : f_tg o = 7) : Wp d 60 6 ls (.ref o :: st) (f_W xs I L) Q = Wp d 60 9 ls (.int (I o 6) :: st) (f_W xs I L) Q := Wp.getI (ci := 7) (k := 6) e60_6 rfl (by decide) (by decide) (by decide) ht
theorem e60_9 : decode (j_co 60) 9 = .ok (.if_icmp .ge 45, 3) := by decide +kernel
set_option maxRecDepth 20000 in
theorem w60_9 {d : Nat} {st : List Value} {Q : Option Value × jW → Prop} {ls : jL} {w : jW} {a b : Int32} : Wp d 60 9 ls (.int b :: .int a :: st) w Q = ((b ≤ a → Wp d 60 54 ls st w Q) ∧ (¬ b ≤ a → Wp d 60 12 ls st w Q)) := Wp.if2 (c := b ≤ a) (off := 45) e60_9 rfl rfl rfl rfl rfl
theorem e60_12 : decode (j_co 60) 12 = .ok (.aload_n 0, 1) := by decide +kernel
set_option maxRecDepth 20000 in
theorem w60_12 {d : Nat} {st : List Value} {Q : Option Value × jW → Prop} {w : jW} {a1 a2 a3 a4 a5 : Option Value} {x : Nat} : Wp d 60 12 [some (.ref x), a1, a2, a3, a4, a5] (st) w Q = Wp d 60 13 [some (.ref x), a1, a2, a3, a4, a5] (.ref x :: st) w Q := Wp.loc e60_12 rfl rfl rfl
theorem e60_13 : decode (j_co 60) 13 = .ok (.getfield 11, 3) := by decide +kernel
set_option maxRecDepth 20000 in
theorem w60_13 {d : Nat} {st : List Value} {Q : Option Value × jW → Prop} {ls : jL} {xs : List Value} {I : fI} {L : fL} {o : Nat} (ht : f_tg o = 7) : Wp d 60 13 ls (.ref o :: st) (f_W xs I L) Q = Wp d 60 16 ls (.ref (f_rf o 1) :: st) (f_W xs I L) Q := Wp.getR (ci := 7) (k := 1) e60_13 rfl (by decide) (by decide) rfl ht
theorem e60_16 : decode (j_co 60) 16 = .ok (.iload 5, 2) := by decide +kernel
set_option maxRecDepth 20000 in
theorem w60_16 {d : Nat} {st : List Value} {Q : Option Value × jW → Prop} {w : jW} {a0 a1 a2 a3 a4 : Option Value} {x : Int32} : Wp d 60 16 [a0, a1, a2, a3, a4, some (.int x)] (st) w Q = Wp d 60 18 [a0, a1, a2, a3, a4, some (.int x)] (.int x :: st) w Q := Wp.loc e60_16 rfl rfl rfl
theorem e60_18 : decode (j_co 60) 18 = .ok (.aaload, 1) := by decide +kernel
set_option maxRecDepth 20000 in
theorem w60_18 {d : Nat} {st : List Value} {Q : Option Value × jW → Prop} {ls : jL} {xs : List Value} {I : fI} {L : fL} {o : Nat} {i : Int32} (ht : 103 ≤ f_tg o ∧ f_tg o ≤ 106) (hi : ¬ (i < 0 ∨ f_ln o ≤ i.toNatClampNeg)) : Wp d 60 18 ls (.int i :: .ref o :: st) (f_W xs I L) Q = Wp d 60 19 ls (.ref (f_rf o i.toNatClampNeg) :: st) (f_W xs I L) Q := Wp.aald e60_18 rfl ht hi
theorem e60_19 : decode (j_co 60) 19 = .ok (.getfield 76, 3) := by decide +kernel
set_option maxRecDepth 20000 in
theorem w60_19 {d : Nat} {st : List Value} {Q : Option Value × jW → Prop} {ls : jL} {xs : List Value} {I : fI} {L : fL} {o : Nat} (ht : f_tg o = 3) : Wp d 60 19 ls (.ref o :: st) (f_W xs I L) Q = Wp d 60 22 ls (.int (I o 1) :: st) (f_W xs I L) Q := Wp.getI (ci := 3) (k := 1) e60_19 rfl (by decide) (by decide) (by decide) ht
theorem e60_22 : decode (j_co 60) 22 = .ok (.iload_n 1, 1) := by decide +kernel
set_option maxRecDepth 20000 in
theorem w60_22 {d : Nat} {st : List Value} {Q : Option Value × jW → Prop} {w : jW} {a0 a2 a3 a4 a5 : Option Value} {x : Int32} : Wp d 60 22 [a0, some (.int x), a2, a3, a4, a5] (st) w Q = Wp d 60 23 [a0, some (.int x), a2, a3, a4, a5] (.int x :: st) w Q := Wp.loc e60_22 rfl rfl rfl
theorem e60_23 : decode (j_co 60) 23 = .ok (.if_icmp .ne 25, 3) := by decide +kernel
set_option maxRecDepth 20000 in
theorem w60_23 {d : Nat} {st : List Value} {Q : Option Value × jW → Prop} {ls : jL} {w : jW} {a b : Int32} : Wp d 60 23 ls (.int b :: .int a :: st) w Q = ((a = b → Wp d 60 26 ls st w Q) ∧ (¬ a = b → Wp d 60 48 ls st w Q)) := Wp.if2n (c := a = b) (off := 25) e60_23 rfl rfl rfl rfl rfl
theorem e60_26 : decode (j_co 60) 26 = .ok (.aload_n 0, 1) := by decide +kernel
set_option maxRecDepth 20000 in
theorem w60_26 {d : Nat} {st : List Value} {Q : Option Value × jW → Prop} {w : jW} {a1 a2 a3 a4 a5 : Option Value} {x : Nat} : Wp d 60 26 [some (.ref x), a1, a2, a3, a4, a5] (st) w Q = Wp d 60 27 [some (.ref x), a1, a2, a3, a4, a5] (.ref x :: st) w Q := Wp.loc e60_26 rfl rfl rfl
theorem e60_27 : decode (j_co 60) 27 = .ok (.getfield 11, 3) := by decide +kernel
set_option maxRecDepth 20000 in
theorem w60_27 {d : Nat} {st : List Value} {Q : Option Value × jW → Prop} {ls : jL} {xs : List Value} {I : fI} {L : fL} {o : Nat} (ht : f_tg o = 7) : Wp d 60 27 ls (.ref o :: st) (f_W xs I L) Q = Wp d 60 30 ls (.ref (f_rf o 1) :: st) (f_W xs I L) Q := Wp.getR (ci := 7) (k := 1) e60_27 rfl (by decide) (by decide) rfl ht
theorem e60_30 : decode (j_co 60) 30 = .ok (.iload 5, 2) := by decide +kernel
set_option maxRecDepth 20000 in
theorem w60_30 {d : Nat} {st : List Value} {Q : Option Value × jW → Prop} {w : jW} {a0 a1 a2 a3 a4 : Option Value} {x : Int32} : Wp d 60 30 [a0, a1, a2, a3, a4, some (.int x)] (st) w Q = Wp d 60 32 [a0, a1, a2, a3, a4, some (.int x)] (.int x :: st) w Q := Wp.loc e60_30 rfl rfl rfl
theorem e60_32 : decode (j_co 60) 32 = .ok (.aaload, 1) := by decide +kernel
set_option maxRecDepth 20000 in
theorem w60_32 {d : Nat} {st : List Value} {Q : Option Value × jW → Prop} {ls : jL} {xs : List Value} {I : fI} {L : fL} {o : Nat} {i : Int32} (ht : 103 ≤ f_tg o ∧ f_tg o ≤ 106) (hi : ¬ (i < 0 ∨ f_ln o ≤ i.toNatClampNeg)) : Wp d 60 32 ls (.int i :: .ref o :: st) (f_W xs I L) Q = Wp d 60 33 ls (.ref (f_rf o i.toNatClampNeg) :: st) (f_W xs I L) Q := Wp.aald e60_32 rfl ht hi
theorem e60_33 : decode (j_co 60) 33 = .ok (.getfield 79, 3) := by decide +kernel
set_option maxRecDepth 20000 in
theorem w60_33 {d : Nat} {st : List Value} {Q : Option Value × jW → Prop} {ls : jL} {xs : List Value} {I : fI} {L : fL} {o : Nat} (ht : f_tg o = 3) : Wp d 60 33 ls (.ref o :: st) (f_W xs I L) Q = Wp d 60 36 ls (.ref (f_rf o 0) :: st) (f_W xs I L) Q := Wp.getR (ci := 3) (k := 0) e60_33 rfl (by decide) (by decide) rfl ht
theorem e60_36 : decode (j_co 60) 36 = .ok (.iload_n 2, 1) := by decide +kernel
set_option maxRecDepth 20000 in
theorem w60_36 {d : Nat} {st : List Value} {Q : Option Value × jW → Prop} {w : jW} {a0 a1 a3 a4 a5 : Option Value} {x : Int32} : Wp d 60 36 [a0, a1, some (.int x), a3, a4, a5] (st) w Q = Wp d 60 37 [a0, a1, some (.int x), a3, a4, a5] (.int x :: st) w Q := Wp.loc e60_36 rfl rfl rfl
theorem e60_37 : decode (j_co 60) 37 = .ok (.iload_n 3, 1) := by decide +kernel
set_option maxRecDepth 20000 in
theorem w60_37 {d : Nat} {st : List Value} {Q : Option Value × jW → Prop} {w : jW} {a0 a1 a2 a4 a5 : Option Value} {x : Int32} : Wp d 60 37 [a0, a1, a2, some (.int x), a4, a5] (st) w Q = Wp d 60 38 [a0, a1, a2, some (.int x), a4, a5] (.int x :: st) w Q := Wp.loc e60_37 rfl rfl rfl
theorem e60_38 : decode (j_co 60) 38 = .ok (.iload 4, 2) := by decide +kernel
set_option maxRecDepth 20000 in
theorem w60_38 {d : Nat} {st : List Value} {Q : Option Value × jW → Prop} {w : jW} {a0 a1 a2 a3 a5 : Option Value} {x : Int32} : Wp d 60 38 [a0, a1, a2, a3, some (.int x), a5] (st) w Q = Wp d 60 40 [a0, a1, a2, a3, some (.int x), a5] (.int x :: st) w Q := Wp.loc e60_38 rfl rfl rfl
theorem e60_40 : decode (j_co 60) 40 = .ok (.invokevirtual 89, 3) := by decide +kernel
set_option maxRecDepth 20000 in
theorem w60_40 {d : Nat} {st : List Value} {Q : Option Value × jW → Prop} {ls : jL} {xs : List Value} {I : fI} {L : fL} {r : Nat} {x0 : Int32} {x1 : Int32} {x2 : Int32} (hs : j_sumc st ≤ 8) (ht : f_tg r = 0) : Wp (d + 1) 60 40 ls (.int x2 :: .int x1 :: .int x0 :: .ref r :: st) (f_W xs I L) Q = Wp d 61 0 [some (.ref r), some (.int x0), some (.int x1), some (.int x2)] [] (f_W xs I L) (fun r1 => Wp (d + 1) 60 43 ls (r1.1.toList ++ st) r1.2 Q) := Wp.cv (y' := 61) (as := [.int x0, .int x1, .int x2]) e60_40 rfl (by decide) rfl (show 4 ≤ 4 by decide) (by decide) hs ht
theorem e60_43 : decode (j_co 60) 43 = .ok (.ifCond .eq 5, 3) := by decide +kernel
set_option maxRecDepth 20000 in
theorem w60_43 {d : Nat} {st : List Value} {Q : Option Value × jW → Prop} {ls : jL} {w : jW} {a : Int32} : Wp d 60 43 ls (.int a :: st) w Q = ((a = nI 0 → Wp d 60 48 ls st w Q) ∧ (¬ a = nI 0 → Wp d 60 46 ls st w Q)) := Wp.if2 (c := a = nI 0) (off := 5) e60_43 rfl rfl rfl rfl rfl
theorem e60_46 : decode (j_co 60) 46 = .ok (.iconst 1, 1) := by decide +kernel
set_option maxRecDepth 20000 in
theorem w60_46 {d : Nat} {st : List Value} {Q : Option Value × jW → Prop} {ls : jL} {w : jW} : Wp d 60 46 ls (st) w Q = Wp d 60 47 ls (.int (nI 1) :: st) w Q := Wp.alu e60_46 rfl rfl
theorem e60_47 : decode (j_co 60) 47 = .ok (.ireturn, 1) := by decide +kernel
set_option maxRecDepth 20000 in
theorem w60_47 {d : Nat} {Q : Option Value × jW → Prop} {ls : jL} {w : jW} {x : Int32} (hx : x = 0 ∨ x = 1) : Wp d 60 47 ls [.int x] w Q = Q (some (.int x), w) := Wp.ret e60_47 (by rcases hx with rfl | rfl <;> rfl)
theorem e60_48 : decode (j_co 60) 48 = .ok (.iinc 5 1, 3) := by decide +kernel
set_option maxRecDepth 20000 in
theorem w60_48 {d : Nat} {st : List Value} {Q : Option Value × jW → Prop} {w : jW} {a0 a1 a2 a3 a4 : Option Value} {x : Int32} (h : j_cp a4) : Wp d 60 48 [a0, a1, a2, a3, a4, some (.int x)] (st) w Q = Wp d 60 51 [a0, a1, a2, a3, a4, some (.int (x + nI 1))] (st) w Q := Wp.loc e60_48 rfl rfl (v_inc (ls := [a0, a1, a2, a3, a4, some (.int x)]) (k := 5) (n := 1) rfl (show 5 < 6 by decide) h)
theorem e60_51 : decode (j_co 60) 51 = .ok (.goto (-48), 3) := by decide +kernel
set_option maxRecDepth 20000 in
theorem w60_51 {d : Nat} {st : List Value} {Q : Option Value × jW → Prop} {ls : jL} {w : jW} : Wp d 60 51 ls (st) w Q = Wp d 60 3 ls (st) w Q := Wp.br e60_51 (Or.inl rfl) rfl rfl rfl rfl
theorem e60_54 : decode (j_co 60) 54 = .ok (.iconst 0, 1) := by decide +kernel
set_option maxRecDepth 20000 in
theorem w60_54 {d : Nat} {st : List Value} {Q : Option Value × jW → Prop} {ls : jL} {w : jW} : Wp d 60 54 ls (st) w Q = Wp d 60 55 ls (.int (nI 0) :: st) w Q := Wp.alu e60_54 rfl rfl
theorem e60_55 : decode (j_co 60) 55 = .ok (.ireturn, 1) := by decide +kernel
set_option maxRecDepth 20000 in
theorem w60_55 {d : Nat} {Q : Option Value × jW → Prop} {ls : jL} {w : jW} {x : Int32} (hx : x = 0 ∨ x = 1) : Wp d 60 55 ls [.int x] w Q = Q (some (.int x), w) := Wp.ret e60_55 (by rcases hx with rfl | rfl <;> rfl)
/-! Search.statesOf -/
theorem e64_0 : decode (j_co 64) 0 = .ok (.iconst 0, 1) := by decide +kernel
set_option maxRecDepth 20000 in
theorem w64_0 {d : Nat} {st : List Value} {Q : Option Value × jW → Prop} {ls : jL} {w : jW} : Wp d 64 0 ls (st) w Q = Wp d 64 1 ls (.int (nI 0) :: st) w Q := Wp.alu e64_0 rfl rfl
theorem e64_1 : decode (j_co 64) 1 = .ok (.istore_n 2, 1) := by decide +kernel
set_option maxRecDepth 20000 in
theorem w64_1 {d : Nat} {st : List Value} {Q : Option Value × jW → Prop} {w : jW} {a0 a1 a2 a3 : Option Value} {x : Int32} (h : j_cp a1) : Wp d 64 1 [a0, a1, a2, a3] (.int x :: st) w Q = Wp d 64 2 [a0, a1, some (.int x), a3] (st) w Q := Wp.loc e64_1 rfl rfl (v_stI (ls := [a0, a1, a2, a3]) (k := 2) (show 2 < 4 by decide) h)
theorem e64_2 : decode (j_co 64) 2 = .ok (.bipush (-20), 2) := by decide +kernel
set_option maxRecDepth 20000 in
theorem w64_2 {d : Nat} {st : List Value} {Q : Option Value × jW → Prop} {ls : jL} {w : jW} : Wp d 64 2 ls (st) w Q = Wp d 64 4 ls (.int (-20) :: st) w Q := Wp.alu e64_2 rfl rfl
theorem e64_4 : decode (j_co 64) 4 = .ok (.istore_n 3, 1) := by decide +kernel
set_option maxRecDepth 20000 in
theorem w64_4 {d : Nat} {st : List Value} {Q : Option Value × jW → Prop} {w : jW} {a0 a1 a2 a3 : Option Value} {x : Int32} (h : j_cp a2) : Wp d 64 4 [a0, a1, a2, a3] (.int x :: st) w Q = Wp d 64 5 [a0, a1, a2, some (.int x)] (st) w Q := Wp.loc e64_4 rfl rfl (v_stI (ls := [a0, a1, a2, a3]) (k := 3) (show 3 < 4 by decide) h)
theorem e64_5 : decode (j_co 64) 5 = .ok (.iload_n 3, 1) := by decide +kernel
set_option maxRecDepth 20000 in
theorem w64_5 {d : Nat} {st : List Value} {Q : Option Value × jW → Prop} {w : jW} {a0 a1 a2 : Option Value} {x : Int32} : Wp d 64 5 [a0, a1, a2, some (.int x)] (st) w Q = Wp d 64 6 [a0, a1, a2, some (.int x)] (.int x :: st) w Q := Wp.loc e64_5 rfl rfl rfl
theorem e64_6 : decode (j_co 64) 6 = .ok (.bipush 20, 2) := by decide +kernel
set_option maxRecDepth 20000 in
theorem w64_6 {d : Nat} {st : List Value} {Q : Option Value × jW → Prop} {ls : jL} {w : jW} : Wp d 64 6 ls (st) w Q = Wp d 64 8 ls (.int (nI 20) :: st) w Q := Wp.alu e64_6 rfl rfl
theorem e64_8 : decode (j_co 64) 8 = .ok (.if_icmp .gt 18, 3) := by decide +kernel
set_option maxRecDepth 20000 in
theorem w64_8 {d : Nat} {st : List Value} {Q : Option Value × jW → Prop} {ls : jL} {w : jW} {a b : Int32} : Wp d 64 8 ls (.int b :: .int a :: st) w Q = ((b < a → Wp d 64 26 ls st w Q) ∧ (¬ b < a → Wp d 64 11 ls st w Q)) := Wp.if2 (c := b < a) (off := 18) e64_8 rfl rfl rfl rfl rfl
theorem e64_11 : decode (j_co 64) 11 = .ok (.iload_n 2, 1) := by decide +kernel
set_option maxRecDepth 20000 in
theorem w64_11 {d : Nat} {st : List Value} {Q : Option Value × jW → Prop} {w : jW} {a0 a1 a3 : Option Value} {x : Int32} : Wp d 64 11 [a0, a1, some (.int x), a3] (st) w Q = Wp d 64 12 [a0, a1, some (.int x), a3] (.int x :: st) w Q := Wp.loc e64_11 rfl rfl rfl
theorem e64_12 : decode (j_co 64) 12 = .ok (.aload_n 0, 1) := by decide +kernel
set_option maxRecDepth 20000 in
theorem w64_12 {d : Nat} {st : List Value} {Q : Option Value × jW → Prop} {w : jW} {a1 a2 a3 : Option Value} {x : Nat} : Wp d 64 12 [some (.ref x), a1, a2, a3] (st) w Q = Wp d 64 13 [some (.ref x), a1, a2, a3] (.ref x :: st) w Q := Wp.loc e64_12 rfl rfl rfl
theorem e64_13 : decode (j_co 64) 13 = .ok (.iload_n 1, 1) := by decide +kernel
set_option maxRecDepth 20000 in
theorem w64_13 {d : Nat} {st : List Value} {Q : Option Value × jW → Prop} {w : jW} {a0 a2 a3 : Option Value} {x : Int32} : Wp d 64 13 [a0, some (.int x), a2, a3] (st) w Q = Wp d 64 14 [a0, some (.int x), a2, a3] (.int x :: st) w Q := Wp.loc e64_13 rfl rfl rfl
theorem e64_14 : decode (j_co 64) 14 = .ok (.iload_n 3, 1) := by decide +kernel
set_option maxRecDepth 20000 in
theorem w64_14 {d : Nat} {st : List Value} {Q : Option Value × jW → Prop} {w : jW} {a0 a1 a2 : Option Value} {x : Int32} : Wp d 64 14 [a0, a1, a2, some (.int x)] (st) w Q = Wp d 64 15 [a0, a1, a2, some (.int x)] (.int x :: st) w Q := Wp.loc e64_14 rfl rfl rfl
theorem e64_15 : decode (j_co 64) 15 = .ok (.invokevirtual 93, 3) := by decide +kernel
set_option maxRecDepth 20000 in
theorem w64_15 {d : Nat} {st : List Value} {Q : Option Value × jW → Prop} {ls : jL} {xs : List Value} {I : fI} {L : fL} {r : Nat} {x0 : Int32} {x1 : Int32} (hs : j_sumc st ≤ 8) (ht : f_tg r = 7) : Wp (d + 1) 64 15 ls (.int x1 :: .int x0 :: .ref r :: st) (f_W xs I L) Q = Wp d 65 0 [some (.ref r), some (.int x0), some (.int x1), none, none] [] (f_W xs I L) (fun r1 => Wp (d + 1) 64 18 ls (r1.1.toList ++ st) r1.2 Q) := Wp.cv (y' := 65) (as := [.int x0, .int x1]) e64_15 rfl (by decide) rfl (show 3 ≤ 5 by decide) (by decide) hs ht
theorem e64_18 : decode (j_co 64) 18 = .ok (.iadd, 1) := by decide +kernel
set_option maxRecDepth 20000 in
theorem w64_18 {d : Nat} {st : List Value} {Q : Option Value × jW → Prop} {ls : jL} {w : jW} {a b : Int32} : Wp d 64 18 ls (.int b :: .int a :: st) w Q = Wp d 64 19 ls (.int (a + b) :: st) w Q := Wp.alu e64_18 rfl rfl
theorem e64_19 : decode (j_co 64) 19 = .ok (.istore_n 2, 1) := by decide +kernel
set_option maxRecDepth 20000 in
theorem w64_19 {d : Nat} {st : List Value} {Q : Option Value × jW → Prop} {w : jW} {a0 a1 a2 a3 : Option Value} {x : Int32} (h : j_cp a1) : Wp d 64 19 [a0, a1, a2, a3] (.int x :: st) w Q = Wp d 64 20 [a0, a1, some (.int x), a3] (st) w Q := Wp.loc e64_19 rfl rfl (v_stI (ls := [a0, a1, a2, a3]) (k := 2) (show 2 < 4 by decide) h)
theorem e64_20 : decode (j_co 64) 20 = .ok (.iinc 3 1, 3) := by decide +kernel
set_option maxRecDepth 20000 in
theorem w64_20 {d : Nat} {st : List Value} {Q : Option Value × jW → Prop} {w : jW} {a0 a1 a2 : Option Value} {x : Int32} (h : j_cp a2) : Wp d 64 20 [a0, a1, a2, some (.int x)] (st) w Q = Wp d 64 23 [a0, a1, a2, some (.int (x + nI 1))] (st) w Q := Wp.loc e64_20 rfl rfl (v_inc (ls := [a0, a1, a2, some (.int x)]) (k := 3) (n := 1) rfl (show 3 < 4 by decide) h)
theorem e64_23 : decode (j_co 64) 23 = .ok (.goto (-18), 3) := by decide +kernel
set_option maxRecDepth 20000 in
theorem w64_23 {d : Nat} {st : List Value} {Q : Option Value × jW → Prop} {ls : jL} {w : jW} : Wp d 64 23 ls (st) w Q = Wp d 64 5 ls (st) w Q := Wp.br e64_23 (Or.inl rfl) rfl rfl rfl rfl
theorem e64_26 : decode (j_co 64) 26 = .ok (.iload_n 2, 1) := by decide +kernel
set_option maxRecDepth 20000 in
theorem w64_26 {d : Nat} {st : List Value} {Q : Option Value × jW → Prop} {w : jW} {a0 a1 a3 : Option Value} {x : Int32} : Wp d 64 26 [a0, a1, some (.int x), a3] (st) w Q = Wp d 64 27 [a0, a1, some (.int x), a3] (.int x :: st) w Q := Wp.loc e64_26 rfl rfl rfl
theorem e64_27 : decode (j_co 64) 27 = .ok (.ireturn, 1) := by decide +kernel
set_option maxRecDepth 20000 in
theorem w64_27 {d : Nat} {Q : Option Value × jW → Prop} {ls : jL} {w : jW} {x : Int32} : Wp d 64 27 ls [.int x] w Q = Q (some (.int x), w) := Wp.ret e64_27 rfl
/-! Search.statesOfSlice -/
theorem e65_0 : decode (j_co 65) 0 = .ok (.iconst 0, 1) := by decide +kernel
set_option maxRecDepth 20000 in
theorem w65_0 {d : Nat} {st : List Value} {Q : Option Value × jW → Prop} {ls : jL} {w : jW} : Wp d 65 0 ls (st) w Q = Wp d 65 1 ls (.int (nI 0) :: st) w Q := Wp.alu e65_0 rfl rfl
theorem e65_1 : decode (j_co 65) 1 = .ok (.istore_n 3, 1) := by decide +kernel
set_option maxRecDepth 20000 in
theorem w65_1 {d : Nat} {st : List Value} {Q : Option Value × jW → Prop} {w : jW} {a0 a1 a2 a3 a4 : Option Value} {x : Int32} (h : j_cp a2) : Wp d 65 1 [a0, a1, a2, a3, a4] (.int x :: st) w Q = Wp d 65 2 [a0, a1, a2, some (.int x), a4] (st) w Q := Wp.loc e65_1 rfl rfl (v_stI (ls := [a0, a1, a2, a3, a4]) (k := 3) (show 3 < 5 by decide) h)
theorem e65_2 : decode (j_co 65) 2 = .ok (.iload_n 3, 1) := by decide +kernel
set_option maxRecDepth 20000 in
theorem w65_2 {d : Nat} {st : List Value} {Q : Option Value × jW → Prop} {w : jW} {a0 a1 a2 a4 : Option Value} {x : Int32} : Wp d 65 2 [a0, a1, a2, some (.int x), a4] (st) w Q = Wp d 65 3 [a0, a1, a2, some (.int x), a4] (.int x :: st) w Q := Wp.loc e65_2 rfl rfl rfl
theorem e65_3 : decode (j_co 65) 3 = .ok (.aload_n 0, 1) := by decide +kernel
set_option maxRecDepth 20000 in
theorem w65_3 {d : Nat} {st : List Value} {Q : Option Value × jW → Prop} {w : jW} {a1 a2 a3 a4 : Option Value} {x : Nat} : Wp d 65 3 [some (.ref x), a1, a2, a3, a4] (st) w Q = Wp d 65 4 [some (.ref x), a1, a2, a3, a4] (.ref x :: st) w Q := Wp.loc e65_3 rfl rfl rfl
theorem e65_4 : decode (j_co 65) 4 = .ok (.getfield 27, 3) := by decide +kernel
set_option maxRecDepth 20000 in
theorem w65_4 {d : Nat} {st : List Value} {Q : Option Value × jW → Prop} {ls : jL} {xs : List Value} {I : fI} {L : fL} {o : Nat} (ht : f_tg o = 7) : Wp d 65 4 ls (.ref o :: st) (f_W xs I L) Q = Wp d 65 7 ls (.ref (f_rf o 4) :: st) (f_W xs I L) Q := Wp.getR (ci := 7) (k := 4) e65_4 rfl (by decide) (by decide) rfl ht
theorem e65_7 : decode (j_co 65) 7 = .ok (.arraylength, 1) := by decide +kernel
set_option maxRecDepth 20000 in
theorem w65_7 {d : Nat} {st : List Value} {Q : Option Value × jW → Prop} {ls : jL} {xs : List Value} {I : fI} {L : fL} {o : Nat} (ht : f_tg o = 100 ∨ f_tg o = 101 ∨ f_tg o = 102) : Wp d 65 7 ls (.ref o :: st) (f_W xs I L) Q = Wp d 65 8 ls (.int (nI (f_ln o)) :: st) (f_W xs I L) Q := Wp.alen e65_7 rfl ht
theorem e65_8 : decode (j_co 65) 8 = .ok (.if_icmp .ge 16, 3) := by decide +kernel
set_option maxRecDepth 20000 in
theorem w65_8 {d : Nat} {st : List Value} {Q : Option Value × jW → Prop} {ls : jL} {w : jW} {a b : Int32} : Wp d 65 8 ls (.int b :: .int a :: st) w Q = ((b ≤ a → Wp d 65 24 ls st w Q) ∧ (¬ b ≤ a → Wp d 65 11 ls st w Q)) := Wp.if2 (c := b ≤ a) (off := 16) e65_8 rfl rfl rfl rfl rfl
theorem e65_11 : decode (j_co 65) 11 = .ok (.aload_n 0, 1) := by decide +kernel
set_option maxRecDepth 20000 in
theorem w65_11 {d : Nat} {st : List Value} {Q : Option Value × jW → Prop} {w : jW} {a1 a2 a3 a4 : Option Value} {x : Nat} : Wp d 65 11 [some (.ref x), a1, a2, a3, a4] (st) w Q = Wp d 65 12 [some (.ref x), a1, a2, a3, a4] (.ref x :: st) w Q := Wp.loc e65_11 rfl rfl rfl
theorem e65_12 : decode (j_co 65) 12 = .ok (.getfield 27, 3) := by decide +kernel
set_option maxRecDepth 20000 in
theorem w65_12 {d : Nat} {st : List Value} {Q : Option Value × jW → Prop} {ls : jL} {xs : List Value} {I : fI} {L : fL} {o : Nat} (ht : f_tg o = 7) : Wp d 65 12 ls (.ref o :: st) (f_W xs I L) Q = Wp d 65 15 ls (.ref (f_rf o 4) :: st) (f_W xs I L) Q := Wp.getR (ci := 7) (k := 4) e65_12 rfl (by decide) (by decide) rfl ht
theorem e65_15 : decode (j_co 65) 15 = .ok (.iload_n 3, 1) := by decide +kernel
set_option maxRecDepth 20000 in
theorem w65_15 {d : Nat} {st : List Value} {Q : Option Value × jW → Prop} {w : jW} {a0 a1 a2 a4 : Option Value} {x : Int32} : Wp d 65 15 [a0, a1, a2, some (.int x), a4] (st) w Q = Wp d 65 16 [a0, a1, a2, some (.int x), a4] (.int x :: st) w Q := Wp.loc e65_15 rfl rfl rfl
theorem e65_16 : decode (j_co 65) 16 = .ok (.lconst 0, 1) := by decide +kernel
set_option maxRecDepth 20000 in
theorem w65_16 {d : Nat} {st : List Value} {Q : Option Value × jW → Prop} {ls : jL} {w : jW} : Wp d 65 16 ls (st) w Q = Wp d 65 17 ls (.long (lN 0) :: st) w Q := Wp.alu e65_16 rfl rfl
theorem e65_17 : decode (j_co 65) 17 = .ok (.lastore, 1) := by decide +kernel
set_option maxRecDepth 20000 in
theorem w65_17 {d : Nat} {st : List Value} {Q : Option Value × jW → Prop} {ls : jL} {xs : List Value} {I : fI} {L : fL} {o : Nat} {i : Int32} {x : Int64} (ht : f_tg o = 102) (hi : ¬ (i < 0 ∨ f_ln o ≤ i.toNatClampNeg)) : Wp d 65 17 ls (.long x :: .int i :: .ref o :: st) (f_W xs I L) Q = Wp d 65 18 ls (st) (f_W xs I (f_uL L i.toNatClampNeg x)) Q := Wp.last e65_17 ht hi
theorem e65_18 : decode (j_co 65) 18 = .ok (.iinc 3 1, 3) := by decide +kernel
set_option maxRecDepth 20000 in
theorem w65_18 {d : Nat} {st : List Value} {Q : Option Value × jW → Prop} {w : jW} {a0 a1 a2 a4 : Option Value} {x : Int32} (h : j_cp a2) : Wp d 65 18 [a0, a1, a2, some (.int x), a4] (st) w Q = Wp d 65 21 [a0, a1, a2, some (.int (x + nI 1)), a4] (st) w Q := Wp.loc e65_18 rfl rfl (v_inc (ls := [a0, a1, a2, some (.int x), a4]) (k := 3) (n := 1) rfl (show 3 < 5 by decide) h)
theorem e65_21 : decode (j_co 65) 21 = .ok (.goto (-19), 3) := by decide +kernel
set_option maxRecDepth 20000 in
theorem w65_21 {d : Nat} {st : List Value} {Q : Option Value × jW → Prop} {ls : jL} {w : jW} : Wp d 65 21 ls (st) w Q = Wp d 65 2 ls (st) w Q := Wp.br e65_21 (Or.inl rfl) rfl rfl rfl rfl
theorem e65_24 : decode (j_co 65) 24 = .ok (.iconst 0, 1) := by decide +kernel
set_option maxRecDepth 20000 in
theorem w65_24 {d : Nat} {st : List Value} {Q : Option Value × jW → Prop} {ls : jL} {w : jW} : Wp d 65 24 ls (st) w Q = Wp d 65 25 ls (.int (nI 0) :: st) w Q := Wp.alu e65_24 rfl rfl
theorem e65_25 : decode (j_co 65) 25 = .ok (.istore_n 3, 1) := by decide +kernel
set_option maxRecDepth 20000 in
theorem w65_25 {d : Nat} {st : List Value} {Q : Option Value × jW → Prop} {w : jW} {a0 a1 a2 a3 a4 : Option Value} {x : Int32} (h : j_cp a2) : Wp d 65 25 [a0, a1, a2, a3, a4] (.int x :: st) w Q = Wp d 65 26 [a0, a1, a2, some (.int x), a4] (st) w Q := Wp.loc e65_25 rfl rfl (v_stI (ls := [a0, a1, a2, a3, a4]) (k := 3) (show 3 < 5 by decide) h)
theorem e65_26 : decode (j_co 65) 26 = .ok (.iload_n 3, 1) := by decide +kernel
set_option maxRecDepth 20000 in
theorem w65_26 {d : Nat} {st : List Value} {Q : Option Value × jW → Prop} {w : jW} {a0 a1 a2 a4 : Option Value} {x : Int32} : Wp d 65 26 [a0, a1, a2, some (.int x), a4] (st) w Q = Wp d 65 27 [a0, a1, a2, some (.int x), a4] (.int x :: st) w Q := Wp.loc e65_26 rfl rfl rfl
theorem e65_27 : decode (j_co 65) 27 = .ok (.aload_n 0, 1) := by decide +kernel
set_option maxRecDepth 20000 in
theorem w65_27 {d : Nat} {st : List Value} {Q : Option Value × jW → Prop} {w : jW} {a1 a2 a3 a4 : Option Value} {x : Nat} : Wp d 65 27 [some (.ref x), a1, a2, a3, a4] (st) w Q = Wp d 65 28 [some (.ref x), a1, a2, a3, a4] (.ref x :: st) w Q := Wp.loc e65_27 rfl rfl rfl
theorem e65_28 : decode (j_co 65) 28 = .ok (.getfield 44, 3) := by decide +kernel
set_option maxRecDepth 20000 in
theorem w65_28 {d : Nat} {st : List Value} {Q : Option Value × jW → Prop} {ls : jL} {xs : List Value} {I : fI} {L : fL} {o : Nat} (ht : f_tg o = 7) : Wp d 65 28 ls (.ref o :: st) (f_W xs I L) Q = Wp d 65 31 ls (.int (I o 6) :: st) (f_W xs I L) Q := Wp.getI (ci := 7) (k := 6) e65_28 rfl (by decide) (by decide) (by decide) ht
theorem e65_31 : decode (j_co 65) 31 = .ok (.if_icmp .ge 52, 3) := by decide +kernel
set_option maxRecDepth 20000 in
theorem w65_31 {d : Nat} {st : List Value} {Q : Option Value × jW → Prop} {ls : jL} {w : jW} {a b : Int32} : Wp d 65 31 ls (.int b :: .int a :: st) w Q = ((b ≤ a → Wp d 65 83 ls st w Q) ∧ (¬ b ≤ a → Wp d 65 34 ls st w Q)) := Wp.if2 (c := b ≤ a) (off := 52) e65_31 rfl rfl rfl rfl rfl
theorem e65_34 : decode (j_co 65) 34 = .ok (.aload_n 0, 1) := by decide +kernel
set_option maxRecDepth 20000 in
theorem w65_34 {d : Nat} {st : List Value} {Q : Option Value × jW → Prop} {w : jW} {a1 a2 a3 a4 : Option Value} {x : Nat} : Wp d 65 34 [some (.ref x), a1, a2, a3, a4] (st) w Q = Wp d 65 35 [some (.ref x), a1, a2, a3, a4] (.ref x :: st) w Q := Wp.loc e65_34 rfl rfl rfl
theorem e65_35 : decode (j_co 65) 35 = .ok (.getfield 11, 3) := by decide +kernel
set_option maxRecDepth 20000 in
theorem w65_35 {d : Nat} {st : List Value} {Q : Option Value × jW → Prop} {ls : jL} {xs : List Value} {I : fI} {L : fL} {o : Nat} (ht : f_tg o = 7) : Wp d 65 35 ls (.ref o :: st) (f_W xs I L) Q = Wp d 65 38 ls (.ref (f_rf o 1) :: st) (f_W xs I L) Q := Wp.getR (ci := 7) (k := 1) e65_35 rfl (by decide) (by decide) rfl ht
theorem e65_38 : decode (j_co 65) 38 = .ok (.iload_n 3, 1) := by decide +kernel
set_option maxRecDepth 20000 in
theorem w65_38 {d : Nat} {st : List Value} {Q : Option Value × jW → Prop} {w : jW} {a0 a1 a2 a4 : Option Value} {x : Int32} : Wp d 65 38 [a0, a1, a2, some (.int x), a4] (st) w Q = Wp d 65 39 [a0, a1, a2, some (.int x), a4] (.int x :: st) w Q := Wp.loc e65_38 rfl rfl rfl
theorem e65_39 : decode (j_co 65) 39 = .ok (.aaload, 1) := by decide +kernel
set_option maxRecDepth 20000 in
theorem w65_39 {d : Nat} {st : List Value} {Q : Option Value × jW → Prop} {ls : jL} {xs : List Value} {I : fI} {L : fL} {o : Nat} {i : Int32} (ht : 103 ≤ f_tg o ∧ f_tg o ≤ 106) (hi : ¬ (i < 0 ∨ f_ln o ≤ i.toNatClampNeg)) : Wp d 65 39 ls (.int i :: .ref o :: st) (f_W xs I L) Q = Wp d 65 40 ls (.ref (f_rf o i.toNatClampNeg) :: st) (f_W xs I L) Q := Wp.aald e65_39 rfl ht hi
theorem e65_40 : decode (j_co 65) 40 = .ok (.getfield 76, 3) := by decide +kernel
set_option maxRecDepth 20000 in
theorem w65_40 {d : Nat} {st : List Value} {Q : Option Value × jW → Prop} {ls : jL} {xs : List Value} {I : fI} {L : fL} {o : Nat} (ht : f_tg o = 3) : Wp d 65 40 ls (.ref o :: st) (f_W xs I L) Q = Wp d 65 43 ls (.int (I o 1) :: st) (f_W xs I L) Q := Wp.getI (ci := 3) (k := 1) e65_40 rfl (by decide) (by decide) (by decide) ht
theorem e65_43 : decode (j_co 65) 43 = .ok (.iload_n 1, 1) := by decide +kernel
set_option maxRecDepth 20000 in
theorem w65_43 {d : Nat} {st : List Value} {Q : Option Value × jW → Prop} {w : jW} {a0 a2 a3 a4 : Option Value} {x : Int32} : Wp d 65 43 [a0, some (.int x), a2, a3, a4] (st) w Q = Wp d 65 44 [a0, some (.int x), a2, a3, a4] (.int x :: st) w Q := Wp.loc e65_43 rfl rfl rfl
theorem e65_44 : decode (j_co 65) 44 = .ok (.if_icmp .ne 33, 3) := by decide +kernel
set_option maxRecDepth 20000 in
theorem w65_44 {d : Nat} {st : List Value} {Q : Option Value × jW → Prop} {ls : jL} {w : jW} {a b : Int32} : Wp d 65 44 ls (.int b :: .int a :: st) w Q = ((a = b → Wp d 65 47 ls st w Q) ∧ (¬ a = b → Wp d 65 77 ls st w Q)) := Wp.if2n (c := a = b) (off := 33) e65_44 rfl rfl rfl rfl rfl
theorem e65_47 : decode (j_co 65) 47 = .ok (.aload_n 0, 1) := by decide +kernel
set_option maxRecDepth 20000 in
theorem w65_47 {d : Nat} {st : List Value} {Q : Option Value × jW → Prop} {w : jW} {a1 a2 a3 a4 : Option Value} {x : Nat} : Wp d 65 47 [some (.ref x), a1, a2, a3, a4] (st) w Q = Wp d 65 48 [some (.ref x), a1, a2, a3, a4] (.ref x :: st) w Q := Wp.loc e65_47 rfl rfl rfl
theorem e65_48 : decode (j_co 65) 48 = .ok (.getfield 11, 3) := by decide +kernel
set_option maxRecDepth 20000 in
theorem w65_48 {d : Nat} {st : List Value} {Q : Option Value × jW → Prop} {ls : jL} {xs : List Value} {I : fI} {L : fL} {o : Nat} (ht : f_tg o = 7) : Wp d 65 48 ls (.ref o :: st) (f_W xs I L) Q = Wp d 65 51 ls (.ref (f_rf o 1) :: st) (f_W xs I L) Q := Wp.getR (ci := 7) (k := 1) e65_48 rfl (by decide) (by decide) rfl ht
theorem e65_51 : decode (j_co 65) 51 = .ok (.iload_n 3, 1) := by decide +kernel
set_option maxRecDepth 20000 in
theorem w65_51 {d : Nat} {st : List Value} {Q : Option Value × jW → Prop} {w : jW} {a0 a1 a2 a4 : Option Value} {x : Int32} : Wp d 65 51 [a0, a1, a2, some (.int x), a4] (st) w Q = Wp d 65 52 [a0, a1, a2, some (.int x), a4] (.int x :: st) w Q := Wp.loc e65_51 rfl rfl rfl
theorem e65_52 : decode (j_co 65) 52 = .ok (.aaload, 1) := by decide +kernel
set_option maxRecDepth 20000 in
theorem w65_52 {d : Nat} {st : List Value} {Q : Option Value × jW → Prop} {ls : jL} {xs : List Value} {I : fI} {L : fL} {o : Nat} {i : Int32} (ht : 103 ≤ f_tg o ∧ f_tg o ≤ 106) (hi : ¬ (i < 0 ∨ f_ln o ≤ i.toNatClampNeg)) : Wp d 65 52 ls (.int i :: .ref o :: st) (f_W xs I L) Q = Wp d 65 53 ls (.ref (f_rf o i.toNatClampNeg) :: st) (f_W xs I L) Q := Wp.aald e65_52 rfl ht hi
theorem e65_53 : decode (j_co 65) 53 = .ok (.getfield 79, 3) := by decide +kernel
set_option maxRecDepth 20000 in
theorem w65_53 {d : Nat} {st : List Value} {Q : Option Value × jW → Prop} {ls : jL} {xs : List Value} {I : fI} {L : fL} {o : Nat} (ht : f_tg o = 3) : Wp d 65 53 ls (.ref o :: st) (f_W xs I L) Q = Wp d 65 56 ls (.ref (f_rf o 0) :: st) (f_W xs I L) Q := Wp.getR (ci := 3) (k := 0) e65_53 rfl (by decide) (by decide) rfl ht
theorem e65_56 : decode (j_co 65) 56 = .ok (.iconst 0, 1) := by decide +kernel
set_option maxRecDepth 20000 in
theorem w65_56 {d : Nat} {st : List Value} {Q : Option Value × jW → Prop} {ls : jL} {w : jW} : Wp d 65 56 ls (st) w Q = Wp d 65 57 ls (.int (nI 0) :: st) w Q := Wp.alu e65_56 rfl rfl
theorem e65_57 : decode (j_co 65) 57 = .ok (.iload_n 2, 1) := by decide +kernel
set_option maxRecDepth 20000 in
theorem w65_57 {d : Nat} {st : List Value} {Q : Option Value × jW → Prop} {w : jW} {a0 a1 a3 a4 : Option Value} {x : Int32} : Wp d 65 57 [a0, a1, some (.int x), a3, a4] (st) w Q = Wp d 65 58 [a0, a1, some (.int x), a3, a4] (.int x :: st) w Q := Wp.loc e65_57 rfl rfl rfl
theorem e65_58 : decode (j_co 65) 58 = .ok (.invokevirtual 97, 3) := by decide +kernel
set_option maxRecDepth 20000 in
theorem w65_58 {d : Nat} {st : List Value} {Q : Option Value × jW → Prop} {ls : jL} {xs : List Value} {I : fI} {L : fL} {r : Nat} {x0 : Int32} {x1 : Int32} (hs : j_sumc st ≤ 8) (ht : f_tg r = 0) : Wp (d + 1) 65 58 ls (.int x1 :: .int x0 :: .ref r :: st) (f_W xs I L) Q = Wp d 62 0 [some (.ref r), some (.int x0), some (.int x1)] [] (f_W xs I L) (fun r1 => Wp (d + 1) 65 61 ls (r1.1.toList ++ st) r1.2 Q) := Wp.cv (y' := 62) (as := [.int x0, .int x1]) e65_58 rfl (by decide) rfl (show 3 ≤ 3 by decide) (by decide) hs ht
theorem e65_61 : decode (j_co 65) 61 = .ok (.ifCond .eq 16, 3) := by decide +kernel
set_option maxRecDepth 20000 in
theorem w65_61 {d : Nat} {st : List Value} {Q : Option Value × jW → Prop} {ls : jL} {w : jW} {a : Int32} : Wp d 65 61 ls (.int a :: st) w Q = ((a = nI 0 → Wp d 65 77 ls st w Q) ∧ (¬ a = nI 0 → Wp d 65 64 ls st w Q)) := Wp.if2 (c := a = nI 0) (off := 16) e65_61 rfl rfl rfl rfl rfl
theorem e65_64 : decode (j_co 65) 64 = .ok (.aload_n 0, 1) := by decide +kernel
set_option maxRecDepth 20000 in
theorem w65_64 {d : Nat} {st : List Value} {Q : Option Value × jW → Prop} {w : jW} {a1 a2 a3 a4 : Option Value} {x : Nat} : Wp d 65 64 [some (.ref x), a1, a2, a3, a4] (st) w Q = Wp d 65 65 [some (.ref x), a1, a2, a3, a4] (.ref x :: st) w Q := Wp.loc e65_64 rfl rfl rfl
theorem e65_65 : decode (j_co 65) 65 = .ok (.aload_n 0, 1) := by decide +kernel
set_option maxRecDepth 20000 in
theorem w65_65 {d : Nat} {st : List Value} {Q : Option Value × jW → Prop} {w : jW} {a1 a2 a3 a4 : Option Value} {x : Nat} : Wp d 65 65 [some (.ref x), a1, a2, a3, a4] (st) w Q = Wp d 65 66 [some (.ref x), a1, a2, a3, a4] (.ref x :: st) w Q := Wp.loc e65_65 rfl rfl rfl
theorem e65_66 : decode (j_co 65) 66 = .ok (.getfield 11, 3) := by decide +kernel
set_option maxRecDepth 20000 in
theorem w65_66 {d : Nat} {st : List Value} {Q : Option Value × jW → Prop} {ls : jL} {xs : List Value} {I : fI} {L : fL} {o : Nat} (ht : f_tg o = 7) : Wp d 65 66 ls (.ref o :: st) (f_W xs I L) Q = Wp d 65 69 ls (.ref (f_rf o 1) :: st) (f_W xs I L) Q := Wp.getR (ci := 7) (k := 1) e65_66 rfl (by decide) (by decide) rfl ht
theorem e65_69 : decode (j_co 65) 69 = .ok (.iload_n 3, 1) := by decide +kernel
set_option maxRecDepth 20000 in
theorem w65_69 {d : Nat} {st : List Value} {Q : Option Value × jW → Prop} {w : jW} {a0 a1 a2 a4 : Option Value} {x : Int32} : Wp d 65 69 [a0, a1, a2, some (.int x), a4] (st) w Q = Wp d 65 70 [a0, a1, a2, some (.int x), a4] (.int x :: st) w Q := Wp.loc e65_69 rfl rfl rfl
theorem e65_70 : decode (j_co 65) 70 = .ok (.aaload, 1) := by decide +kernel
set_option maxRecDepth 20000 in
theorem w65_70 {d : Nat} {st : List Value} {Q : Option Value × jW → Prop} {ls : jL} {xs : List Value} {I : fI} {L : fL} {o : Nat} {i : Int32} (ht : 103 ≤ f_tg o ∧ f_tg o ≤ 106) (hi : ¬ (i < 0 ∨ f_ln o ≤ i.toNatClampNeg)) : Wp d 65 70 ls (.int i :: .ref o :: st) (f_W xs I L) Q = Wp d 65 71 ls (.ref (f_rf o i.toNatClampNeg) :: st) (f_W xs I L) Q := Wp.aald e65_70 rfl ht hi
theorem e65_71 : decode (j_co 65) 71 = .ok (.getfield 79, 3) := by decide +kernel
set_option maxRecDepth 20000 in
theorem w65_71 {d : Nat} {st : List Value} {Q : Option Value × jW → Prop} {ls : jL} {xs : List Value} {I : fI} {L : fL} {o : Nat} (ht : f_tg o = 3) : Wp d 65 71 ls (.ref o :: st) (f_W xs I L) Q = Wp d 65 74 ls (.ref (f_rf o 0) :: st) (f_W xs I L) Q := Wp.getR (ci := 3) (k := 0) e65_71 rfl (by decide) (by decide) rfl ht
theorem e65_74 : decode (j_co 65) 74 = .ok (.invokevirtual 101, 3) := by decide +kernel
set_option maxRecDepth 20000 in
theorem w65_74 {d : Nat} {st : List Value} {Q : Option Value × jW → Prop} {ls : jL} {xs : List Value} {I : fI} {L : fL} {r : Nat} {x0 : Nat} (hs : j_sumc st ≤ 8) (ht : f_tg r = 7) : Wp (d + 1) 65 74 ls (.ref x0 :: .ref r :: st) (f_W xs I L) Q = Wp d 66 0 [some (.ref r), some (.ref x0), none, none, none, none] [] (f_W xs I L) (fun r1 => Wp (d + 1) 65 77 ls (r1.1.toList ++ st) r1.2 Q) := Wp.cv (y' := 66) (as := [.ref x0]) e65_74 rfl (by decide) rfl (show 2 ≤ 6 by decide) (by decide) hs ht
theorem e65_77 : decode (j_co 65) 77 = .ok (.iinc 3 1, 3) := by decide +kernel
set_option maxRecDepth 20000 in
theorem w65_77 {d : Nat} {st : List Value} {Q : Option Value × jW → Prop} {w : jW} {a0 a1 a2 a4 : Option Value} {x : Int32} (h : j_cp a2) : Wp d 65 77 [a0, a1, a2, some (.int x), a4] (st) w Q = Wp d 65 80 [a0, a1, a2, some (.int (x + nI 1)), a4] (st) w Q := Wp.loc e65_77 rfl rfl (v_inc (ls := [a0, a1, a2, some (.int x), a4]) (k := 3) (n := 1) rfl (show 3 < 5 by decide) h)
theorem e65_80 : decode (j_co 65) 80 = .ok (.goto (-54), 3) := by decide +kernel
set_option maxRecDepth 20000 in
theorem w65_80 {d : Nat} {st : List Value} {Q : Option Value × jW → Prop} {ls : jL} {w : jW} : Wp d 65 80 ls (st) w Q = Wp d 65 26 ls (st) w Q := Wp.br e65_80 (Or.inl rfl) rfl rfl rfl rfl
theorem e65_83 : decode (j_co 65) 83 = .ok (.iconst 0, 1) := by decide +kernel
set_option maxRecDepth 20000 in
theorem w65_83 {d : Nat} {st : List Value} {Q : Option Value × jW → Prop} {ls : jL} {w : jW} : Wp d 65 83 ls (st) w Q = Wp d 65 84 ls (.int (nI 0) :: st) w Q := Wp.alu e65_83 rfl rfl
theorem e65_84 : decode (j_co 65) 84 = .ok (.istore_n 3, 1) := by decide +kernel
set_option maxRecDepth 20000 in
theorem w65_84 {d : Nat} {st : List Value} {Q : Option Value × jW → Prop} {w : jW} {a0 a1 a2 a3 a4 : Option Value} {x : Int32} (h : j_cp a2) : Wp d 65 84 [a0, a1, a2, a3, a4] (.int x :: st) w Q = Wp d 65 85 [a0, a1, a2, some (.int x), a4] (st) w Q := Wp.loc e65_84 rfl rfl (v_stI (ls := [a0, a1, a2, a3, a4]) (k := 3) (show 3 < 5 by decide) h)
theorem e65_85 : decode (j_co 65) 85 = .ok (.iconst 0, 1) := by decide +kernel
set_option maxRecDepth 20000 in
theorem w65_85 {d : Nat} {st : List Value} {Q : Option Value × jW → Prop} {ls : jL} {w : jW} : Wp d 65 85 ls (st) w Q = Wp d 65 86 ls (.int (nI 0) :: st) w Q := Wp.alu e65_85 rfl rfl
theorem e65_86 : decode (j_co 65) 86 = .ok (.istore 4, 2) := by decide +kernel
set_option maxRecDepth 20000 in
theorem w65_86 {d : Nat} {st : List Value} {Q : Option Value × jW → Prop} {w : jW} {a0 a1 a2 a3 a4 : Option Value} {x : Int32} (h : j_cp a3) : Wp d 65 86 [a0, a1, a2, a3, a4] (.int x :: st) w Q = Wp d 65 88 [a0, a1, a2, a3, some (.int x)] (st) w Q := Wp.loc e65_86 rfl rfl (v_stI (ls := [a0, a1, a2, a3, a4]) (k := 4) (show 4 < 5 by decide) h)
theorem e65_88 : decode (j_co 65) 88 = .ok (.iload 4, 2) := by decide +kernel
set_option maxRecDepth 20000 in
theorem w65_88 {d : Nat} {st : List Value} {Q : Option Value × jW → Prop} {w : jW} {a0 a1 a2 a3 : Option Value} {x : Int32} : Wp d 65 88 [a0, a1, a2, a3, some (.int x)] (st) w Q = Wp d 65 90 [a0, a1, a2, a3, some (.int x)] (.int x :: st) w Q := Wp.loc e65_88 rfl rfl rfl
theorem e65_90 : decode (j_co 65) 90 = .ok (.aload_n 0, 1) := by decide +kernel
set_option maxRecDepth 20000 in
theorem w65_90 {d : Nat} {st : List Value} {Q : Option Value × jW → Prop} {w : jW} {a1 a2 a3 a4 : Option Value} {x : Nat} : Wp d 65 90 [some (.ref x), a1, a2, a3, a4] (st) w Q = Wp d 65 91 [some (.ref x), a1, a2, a3, a4] (.ref x :: st) w Q := Wp.loc e65_90 rfl rfl rfl
theorem e65_91 : decode (j_co 65) 91 = .ok (.getfield 27, 3) := by decide +kernel
set_option maxRecDepth 20000 in
theorem w65_91 {d : Nat} {st : List Value} {Q : Option Value × jW → Prop} {ls : jL} {xs : List Value} {I : fI} {L : fL} {o : Nat} (ht : f_tg o = 7) : Wp d 65 91 ls (.ref o :: st) (f_W xs I L) Q = Wp d 65 94 ls (.ref (f_rf o 4) :: st) (f_W xs I L) Q := Wp.getR (ci := 7) (k := 4) e65_91 rfl (by decide) (by decide) rfl ht
theorem e65_94 : decode (j_co 65) 94 = .ok (.arraylength, 1) := by decide +kernel
set_option maxRecDepth 20000 in
theorem w65_94 {d : Nat} {st : List Value} {Q : Option Value × jW → Prop} {ls : jL} {xs : List Value} {I : fI} {L : fL} {o : Nat} (ht : f_tg o = 100 ∨ f_tg o = 101 ∨ f_tg o = 102) : Wp d 65 94 ls (.ref o :: st) (f_W xs I L) Q = Wp d 65 95 ls (.int (nI (f_ln o)) :: st) (f_W xs I L) Q := Wp.alen e65_94 rfl ht
theorem e65_95 : decode (j_co 65) 95 = .ok (.if_icmp .ge 22, 3) := by decide +kernel
set_option maxRecDepth 20000 in
theorem w65_95 {d : Nat} {st : List Value} {Q : Option Value × jW → Prop} {ls : jL} {w : jW} {a b : Int32} : Wp d 65 95 ls (.int b :: .int a :: st) w Q = ((b ≤ a → Wp d 65 117 ls st w Q) ∧ (¬ b ≤ a → Wp d 65 98 ls st w Q)) := Wp.if2 (c := b ≤ a) (off := 22) e65_95 rfl rfl rfl rfl rfl
theorem e65_98 : decode (j_co 65) 98 = .ok (.iload_n 3, 1) := by decide +kernel
set_option maxRecDepth 20000 in
theorem w65_98 {d : Nat} {st : List Value} {Q : Option Value × jW → Prop} {w : jW} {a0 a1 a2 a4 : Option Value} {x : Int32} : Wp d 65 98 [a0, a1, a2, some (.int x), a4] (st) w Q = Wp d 65 99 [a0, a1, a2, some (.int x), a4] (.int x :: st) w Q := Wp.loc e65_98 rfl rfl rfl
theorem e65_99 : decode (j_co 65) 99 = .ok (.aload_n 0, 1) := by decide +kernel
set_option maxRecDepth 20000 in
theorem w65_99 {d : Nat} {st : List Value} {Q : Option Value × jW → Prop} {w : jW} {a1 a2 a3 a4 : Option Value} {x : Nat} : Wp d 65 99 [some (.ref x), a1, a2, a3, a4] (st) w Q = Wp d 65 100 [some (.ref x), a1, a2, a3, a4] (.ref x :: st) w Q := Wp.loc e65_99 rfl rfl rfl
theorem e65_100 : decode (j_co 65) 100 = .ok (.getfield 27, 3) := by decide +kernel
set_option maxRecDepth 20000 in
theorem w65_100 {d : Nat} {st : List Value} {Q : Option Value × jW → Prop} {ls : jL} {xs : List Value} {I : fI} {L : fL} {o : Nat} (ht : f_tg o = 7) : Wp d 65 100 ls (.ref o :: st) (f_W xs I L) Q = Wp d 65 103 ls (.ref (f_rf o 4) :: st) (f_W xs I L) Q := Wp.getR (ci := 7) (k := 4) e65_100 rfl (by decide) (by decide) rfl ht
theorem e65_103 : decode (j_co 65) 103 = .ok (.iload 4, 2) := by decide +kernel
set_option maxRecDepth 20000 in
theorem w65_103 {d : Nat} {st : List Value} {Q : Option Value × jW → Prop} {w : jW} {a0 a1 a2 a3 : Option Value} {x : Int32} : Wp d 65 103 [a0, a1, a2, a3, some (.int x)] (st) w Q = Wp d 65 105 [a0, a1, a2, a3, some (.int x)] (.int x :: st) w Q := Wp.loc e65_103 rfl rfl rfl
theorem e65_105 : decode (j_co 65) 105 = .ok (.laload, 1) := by decide +kernel
set_option maxRecDepth 20000 in
theorem w65_105 {d : Nat} {st : List Value} {Q : Option Value × jW → Prop} {ls : jL} {xs : List Value} {I : fI} {L : fL} {o : Nat} {i : Int32} (ht : f_tg o = 102) (hi : ¬ (i < 0 ∨ f_ln o ≤ i.toNatClampNeg)) : Wp d 65 105 ls (.int i :: .ref o :: st) (f_W xs I L) Q = Wp d 65 106 ls (.long (L i.toNatClampNeg) :: st) (f_W xs I L) Q := Wp.lald e65_105 ht hi
theorem e65_106 : decode (j_co 65) 106 = .ok (.invokestatic 105, 3) := by decide +kernel
set_option maxRecDepth 20000 in
theorem w65_106 {d : Nat} {st : List Value} {Q : Option Value × jW → Prop} {ls : jL} {w : jW} {x0 : Int64} (hs : j_sumc st ≤ 8) : Wp (d + 1) 65 106 ls (.long x0 :: st) w Q = Wp d 67 0 [some (.long x0), none] [] w (fun r1 => Wp (d + 1) 65 109 ls (r1.1.toList ++ st) r1.2 Q) := Wp.cs (kd := 1) (y' := 67) (as := [.long x0]) e65_106 rfl (by decide) (by decide) rfl (show 2 ≤ 2 by decide) hs
theorem e65_109 : decode (j_co 65) 109 = .ok (.iadd, 1) := by decide +kernel
set_option maxRecDepth 20000 in
theorem w65_109 {d : Nat} {st : List Value} {Q : Option Value × jW → Prop} {ls : jL} {w : jW} {a b : Int32} : Wp d 65 109 ls (.int b :: .int a :: st) w Q = Wp d 65 110 ls (.int (a + b) :: st) w Q := Wp.alu e65_109 rfl rfl
theorem e65_110 : decode (j_co 65) 110 = .ok (.istore_n 3, 1) := by decide +kernel
set_option maxRecDepth 20000 in
theorem w65_110 {d : Nat} {st : List Value} {Q : Option Value × jW → Prop} {w : jW} {a0 a1 a2 a3 a4 : Option Value} {x : Int32} (h : j_cp a2) : Wp d 65 110 [a0, a1, a2, a3, a4] (.int x :: st) w Q = Wp d 65 111 [a0, a1, a2, some (.int x), a4] (st) w Q := Wp.loc e65_110 rfl rfl (v_stI (ls := [a0, a1, a2, a3, a4]) (k := 3) (show 3 < 5 by decide) h)
theorem e65_111 : decode (j_co 65) 111 = .ok (.iinc 4 1, 3) := by decide +kernel
set_option maxRecDepth 20000 in
theorem w65_111 {d : Nat} {st : List Value} {Q : Option Value × jW → Prop} {w : jW} {a0 a1 a2 a3 : Option Value} {x : Int32} (h : j_cp a3) : Wp d 65 111 [a0, a1, a2, a3, some (.int x)] (st) w Q = Wp d 65 114 [a0, a1, a2, a3, some (.int (x + nI 1))] (st) w Q := Wp.loc e65_111 rfl rfl (v_inc (ls := [a0, a1, a2, a3, some (.int x)]) (k := 4) (n := 1) rfl (show 4 < 5 by decide) h)
theorem e65_114 : decode (j_co 65) 114 = .ok (.goto (-26), 3) := by decide +kernel
set_option maxRecDepth 20000 in
theorem w65_114 {d : Nat} {st : List Value} {Q : Option Value × jW → Prop} {ls : jL} {w : jW} : Wp d 65 114 ls (st) w Q = Wp d 65 88 ls (st) w Q := Wp.br e65_114 (Or.inl rfl) rfl rfl rfl rfl
theorem e65_117 : decode (j_co 65) 117 = .ok (.iload_n 3, 1) := by decide +kernel
set_option maxRecDepth 20000 in
theorem w65_117 {d : Nat} {st : List Value} {Q : Option Value × jW → Prop} {w : jW} {a0 a1 a2 a4 : Option Value} {x : Int32} : Wp d 65 117 [a0, a1, a2, some (.int x), a4] (st) w Q = Wp d 65 118 [a0, a1, a2, some (.int x), a4] (.int x :: st) w Q := Wp.loc e65_117 rfl rfl rfl
theorem e65_118 : decode (j_co 65) 118 = .ok (.ireturn, 1) := by decide +kernel
set_option maxRecDepth 20000 in
theorem w65_118 {d : Nat} {Q : Option Value × jW → Prop} {ls : jL} {w : jW} {x : Int32} : Wp d 65 118 ls [.int x] w Q = Q (some (.int x), w) := Wp.ret e65_118 rfl
/-! Search.mark -/
theorem e66_0 : decode (j_co 66) 0 = .ok (.aload_n 1, 1) := by decide +kernel
set_option maxRecDepth 20000 in
theorem w66_0 {d : Nat} {st : List Value} {Q : Option Value × jW → Prop} {w : jW} {a0 a2 a3 a4 a5 : Option Value} {x : Nat} : Wp d 66 0 [a0, some (.ref x), a2, a3, a4, a5] (st) w Q = Wp d 66 1 [a0, some (.ref x), a2, a3, a4, a5] (.ref x :: st) w Q := Wp.loc e66_0 rfl rfl rfl
theorem e66_1 : decode (j_co 66) 1 = .ok (.iconst 2, 1) := by decide +kernel
set_option maxRecDepth 20000 in
theorem w66_1 {d : Nat} {st : List Value} {Q : Option Value × jW → Prop} {ls : jL} {w : jW} : Wp d 66 1 ls (st) w Q = Wp d 66 2 ls (.int (nI 2) :: st) w Q := Wp.alu e66_1 rfl rfl
theorem e66_2 : decode (j_co 66) 2 = .ok (.invokevirtual 111, 3) := by decide +kernel
set_option maxRecDepth 20000 in
theorem w66_2 {d : Nat} {st : List Value} {Q : Option Value × jW → Prop} {ls : jL} {xs : List Value} {I : fI} {L : fL} {r : Nat} {x0 : Int32} (hs : j_sumc st ≤ 8) (ht : f_tg r = 0) : Wp (d + 1) 66 2 ls (.int x0 :: .ref r :: st) (f_W xs I L) Q = Wp d 35 0 [some (.ref r), some (.int x0)] [] (f_W xs I L) (fun r1 => Wp (d + 1) 66 5 ls (r1.1.toList ++ st) r1.2 Q) := Wp.cv (y' := 35) (as := [.int x0]) e66_2 rfl (by decide) rfl (show 2 ≤ 2 by decide) (by decide) hs ht
theorem e66_5 : decode (j_co 66) 5 = .ok (.aload_n 1, 1) := by decide +kernel
set_option maxRecDepth 20000 in
theorem w66_5 {d : Nat} {st : List Value} {Q : Option Value × jW → Prop} {w : jW} {a0 a2 a3 a4 a5 : Option Value} {x : Nat} : Wp d 66 5 [a0, some (.ref x), a2, a3, a4, a5] (st) w Q = Wp d 66 6 [a0, some (.ref x), a2, a3, a4, a5] (.ref x :: st) w Q := Wp.loc e66_5 rfl rfl rfl
theorem e66_6 : decode (j_co 66) 6 = .ok (.iconst 2, 1) := by decide +kernel
set_option maxRecDepth 20000 in
theorem w66_6 {d : Nat} {st : List Value} {Q : Option Value × jW → Prop} {ls : jL} {w : jW} : Wp d 66 6 ls (st) w Q = Wp d 66 7 ls (.int (nI 2) :: st) w Q := Wp.alu e66_6 rfl rfl
theorem e66_7 : decode (j_co 66) 7 = .ok (.invokevirtual 115, 3) := by decide +kernel
set_option maxRecDepth 20000 in
theorem w66_7 {d : Nat} {st : List Value} {Q : Option Value × jW → Prop} {ls : jL} {xs : List Value} {I : fI} {L : fL} {r : Nat} {x0 : Int32} (hs : j_sumc st ≤ 8) (ht : f_tg r = 0) : Wp (d + 1) 66 7 ls (.int x0 :: .ref r :: st) (f_W xs I L) Q = Wp d 33 0 [some (.ref r), some (.int x0)] [] (f_W xs I L) (fun r1 => Wp (d + 1) 66 10 ls (r1.1.toList ++ st) r1.2 Q) := Wp.cv (y' := 33) (as := [.int x0]) e66_7 rfl (by decide) rfl (show 2 ≤ 2 by decide) (by decide) hs ht
theorem e66_10 : decode (j_co 66) 10 = .ok (.isub, 1) := by decide +kernel
set_option maxRecDepth 20000 in
theorem w66_10 {d : Nat} {st : List Value} {Q : Option Value × jW → Prop} {ls : jL} {w : jW} {a b : Int32} : Wp d 66 10 ls (.int b :: .int a :: st) w Q = Wp d 66 11 ls (.int (a - b) :: st) w Q := Wp.alu e66_10 rfl rfl
theorem e66_11 : decode (j_co 66) 11 = .ok (.iconst 1, 1) := by decide +kernel
set_option maxRecDepth 20000 in
theorem w66_11 {d : Nat} {st : List Value} {Q : Option Value × jW → Prop} {ls : jL} {w : jW} : Wp d 66 11 ls (st) w Q = Wp d 66 12 ls (.int (nI 1) :: st) w Q := Wp.alu e66_11 rfl rfl
theorem e66_12 : decode (j_co 66) 12 = .ok (.iadd, 1) := by decide +kernel
set_option maxRecDepth 20000 in
theorem w66_12 {d : Nat} {st : List Value} {Q : Option Value × jW → Prop} {ls : jL} {w : jW} {a b : Int32} : Wp d 66 12 ls (.int b :: .int a :: st) w Q = Wp d 66 13 ls (.int (a + b) :: st) w Q := Wp.alu e66_12 rfl rfl
theorem e66_13 : decode (j_co 66) 13 = .ok (.istore_n 2, 1) := by decide +kernel
set_option maxRecDepth 20000 in
theorem w66_13 {d : Nat} {st : List Value} {Q : Option Value × jW → Prop} {w : jW} {a0 a1 a2 a3 a4 a5 : Option Value} {x : Int32} (h : j_cp a1) : Wp d 66 13 [a0, a1, a2, a3, a4, a5] (.int x :: st) w Q = Wp d 66 14 [a0, a1, some (.int x), a3, a4, a5] (st) w Q := Wp.loc e66_13 rfl rfl (v_stI (ls := [a0, a1, a2, a3, a4, a5]) (k := 2) (show 2 < 6 by decide) h)
theorem e66_14 : decode (j_co 66) 14 = .ok (.lconst 1, 1) := by decide +kernel
set_option maxRecDepth 20000 in
theorem w66_14 {d : Nat} {st : List Value} {Q : Option Value × jW → Prop} {ls : jL} {w : jW} : Wp d 66 14 ls (st) w Q = Wp d 66 15 ls (.long (lN 1) :: st) w Q := Wp.alu e66_14 rfl rfl
theorem e66_15 : decode (j_co 66) 15 = .ok (.iload_n 2, 1) := by decide +kernel
set_option maxRecDepth 20000 in
theorem w66_15 {d : Nat} {st : List Value} {Q : Option Value × jW → Prop} {w : jW} {a0 a1 a3 a4 a5 : Option Value} {x : Int32} : Wp d 66 15 [a0, a1, some (.int x), a3, a4, a5] (st) w Q = Wp d 66 16 [a0, a1, some (.int x), a3, a4, a5] (.int x :: st) w Q := Wp.loc e66_15 rfl rfl rfl
theorem e66_16 : decode (j_co 66) 16 = .ok (.lshl, 1) := by decide +kernel
set_option maxRecDepth 20000 in
theorem w66_16 {d : Nat} {st : List Value} {Q : Option Value × jW → Prop} {ls : jL} {w : jW} {a : Int64} {b : Int32} : Wp d 66 16 ls (.int b :: .long a :: st) w Q = Wp d 66 17 ls (.long (a <<< (b.toInt64 &&& 63)) :: st) w Q := Wp.alu e66_16 rfl rfl
theorem e66_17 : decode (j_co 66) 17 = .ok (.lconst 1, 1) := by decide +kernel
set_option maxRecDepth 20000 in
theorem w66_17 {d : Nat} {st : List Value} {Q : Option Value × jW → Prop} {ls : jL} {w : jW} : Wp d 66 17 ls (st) w Q = Wp d 66 18 ls (.long (lN 1) :: st) w Q := Wp.alu e66_17 rfl rfl
theorem e66_18 : decode (j_co 66) 18 = .ok (.lsub, 1) := by decide +kernel
set_option maxRecDepth 20000 in
theorem w66_18 {d : Nat} {st : List Value} {Q : Option Value × jW → Prop} {ls : jL} {w : jW} {a b : Int64} : Wp d 66 18 ls (.long b :: .long a :: st) w Q = Wp d 66 19 ls (.long (a - b) :: st) w Q := Wp.alu e66_18 rfl rfl
theorem e66_19 : decode (j_co 66) 19 = .ok (.aload_n 1, 1) := by decide +kernel
set_option maxRecDepth 20000 in
theorem w66_19 {d : Nat} {st : List Value} {Q : Option Value × jW → Prop} {w : jW} {a0 a2 a3 a4 a5 : Option Value} {x : Nat} : Wp d 66 19 [a0, some (.ref x), a2, a3, a4, a5] (st) w Q = Wp d 66 20 [a0, some (.ref x), a2, a3, a4, a5] (.ref x :: st) w Q := Wp.loc e66_19 rfl rfl rfl
theorem e66_20 : decode (j_co 66) 20 = .ok (.iconst 2, 1) := by decide +kernel
set_option maxRecDepth 20000 in
theorem w66_20 {d : Nat} {st : List Value} {Q : Option Value × jW → Prop} {ls : jL} {w : jW} : Wp d 66 20 ls (st) w Q = Wp d 66 21 ls (.int (nI 2) :: st) w Q := Wp.alu e66_20 rfl rfl
theorem e66_21 : decode (j_co 66) 21 = .ok (.invokevirtual 115, 3) := by decide +kernel
set_option maxRecDepth 20000 in
theorem w66_21 {d : Nat} {st : List Value} {Q : Option Value × jW → Prop} {ls : jL} {xs : List Value} {I : fI} {L : fL} {r : Nat} {x0 : Int32} (hs : j_sumc st ≤ 8) (ht : f_tg r = 0) : Wp (d + 1) 66 21 ls (.int x0 :: .ref r :: st) (f_W xs I L) Q = Wp d 33 0 [some (.ref r), some (.int x0)] [] (f_W xs I L) (fun r1 => Wp (d + 1) 66 24 ls (r1.1.toList ++ st) r1.2 Q) := Wp.cv (y' := 33) (as := [.int x0]) e66_21 rfl (by decide) rfl (show 2 ≤ 2 by decide) (by decide) hs ht
theorem e66_24 : decode (j_co 66) 24 = .ok (.bipush 20, 2) := by decide +kernel
set_option maxRecDepth 20000 in
theorem w66_24 {d : Nat} {st : List Value} {Q : Option Value × jW → Prop} {ls : jL} {w : jW} : Wp d 66 24 ls (st) w Q = Wp d 66 26 ls (.int (nI 20) :: st) w Q := Wp.alu e66_24 rfl rfl
theorem e66_26 : decode (j_co 66) 26 = .ok (.iadd, 1) := by decide +kernel
set_option maxRecDepth 20000 in
theorem w66_26 {d : Nat} {st : List Value} {Q : Option Value × jW → Prop} {ls : jL} {w : jW} {a b : Int32} : Wp d 66 26 ls (.int b :: .int a :: st) w Q = Wp d 66 27 ls (.int (a + b) :: st) w Q := Wp.alu e66_26 rfl rfl
theorem e66_27 : decode (j_co 66) 27 = .ok (.lshl, 1) := by decide +kernel
set_option maxRecDepth 20000 in
theorem w66_27 {d : Nat} {st : List Value} {Q : Option Value × jW → Prop} {ls : jL} {w : jW} {a : Int64} {b : Int32} : Wp d 66 27 ls (.int b :: .long a :: st) w Q = Wp d 66 28 ls (.long (a <<< (b.toInt64 &&& 63)) :: st) w Q := Wp.alu e66_27 rfl rfl
theorem e66_28 : decode (j_co 66) 28 = .ok (.lstore_n 3, 1) := by decide +kernel
set_option maxRecDepth 20000 in
theorem w66_28 {d : Nat} {st : List Value} {Q : Option Value × jW → Prop} {w : jW} {a0 a1 a2 a3 a4 a5 : Option Value} {x : Int64} (h : j_cp a2) : Wp d 66 28 [a0, a1, a2, a3, a4, a5] (.long x :: st) w Q = Wp d 66 29 [a0, a1, a2, some (.long x), none, a5] (st) w Q := Wp.loc e66_28 rfl rfl (v_stL (ls := [a0, a1, a2, a3, a4, a5]) (k := 3) (show 4 < 6 by decide) h)
theorem e66_29 : decode (j_co 66) 29 = .ok (.iconst 0, 1) := by decide +kernel
set_option maxRecDepth 20000 in
theorem w66_29 {d : Nat} {st : List Value} {Q : Option Value × jW → Prop} {ls : jL} {w : jW} : Wp d 66 29 ls (st) w Q = Wp d 66 30 ls (.int (nI 0) :: st) w Q := Wp.alu e66_29 rfl rfl
theorem e66_30 : decode (j_co 66) 30 = .ok (.istore 5, 2) := by decide +kernel
set_option maxRecDepth 20000 in
theorem w66_30 {d : Nat} {st : List Value} {Q : Option Value × jW → Prop} {w : jW} {a0 a1 a2 a3 a4 a5 : Option Value} {x : Int32} (h : j_cp a4) : Wp d 66 30 [a0, a1, a2, a3, a4, a5] (.int x :: st) w Q = Wp d 66 32 [a0, a1, a2, a3, a4, some (.int x)] (st) w Q := Wp.loc e66_30 rfl rfl (v_stI (ls := [a0, a1, a2, a3, a4, a5]) (k := 5) (show 5 < 6 by decide) h)
theorem e66_32 : decode (j_co 66) 32 = .ok (.iload 5, 2) := by decide +kernel
set_option maxRecDepth 20000 in
theorem w66_32 {d : Nat} {st : List Value} {Q : Option Value × jW → Prop} {w : jW} {a0 a1 a2 a3 a4 : Option Value} {x : Int32} : Wp d 66 32 [a0, a1, a2, a3, a4, some (.int x)] (st) w Q = Wp d 66 34 [a0, a1, a2, a3, a4, some (.int x)] (.int x :: st) w Q := Wp.loc e66_32 rfl rfl rfl
theorem e66_34 : decode (j_co 66) 34 = .ok (.aload_n 0, 1) := by decide +kernel
set_option maxRecDepth 20000 in
theorem w66_34 {d : Nat} {st : List Value} {Q : Option Value × jW → Prop} {w : jW} {a1 a2 a3 a4 a5 : Option Value} {x : Nat} : Wp d 66 34 [some (.ref x), a1, a2, a3, a4, a5] (st) w Q = Wp d 66 35 [some (.ref x), a1, a2, a3, a4, a5] (.ref x :: st) w Q := Wp.loc e66_34 rfl rfl rfl
theorem e66_35 : decode (j_co 66) 35 = .ok (.getfield 27, 3) := by decide +kernel
set_option maxRecDepth 20000 in
theorem w66_35 {d : Nat} {st : List Value} {Q : Option Value × jW → Prop} {ls : jL} {xs : List Value} {I : fI} {L : fL} {o : Nat} (ht : f_tg o = 7) : Wp d 66 35 ls (.ref o :: st) (f_W xs I L) Q = Wp d 66 38 ls (.ref (f_rf o 4) :: st) (f_W xs I L) Q := Wp.getR (ci := 7) (k := 4) e66_35 rfl (by decide) (by decide) rfl ht
theorem e66_38 : decode (j_co 66) 38 = .ok (.arraylength, 1) := by decide +kernel
set_option maxRecDepth 20000 in
theorem w66_38 {d : Nat} {st : List Value} {Q : Option Value × jW → Prop} {ls : jL} {xs : List Value} {I : fI} {L : fL} {o : Nat} (ht : f_tg o = 100 ∨ f_tg o = 101 ∨ f_tg o = 102) : Wp d 66 38 ls (.ref o :: st) (f_W xs I L) Q = Wp d 66 39 ls (.int (nI (f_ln o)) :: st) (f_W xs I L) Q := Wp.alen e66_38 rfl ht
theorem e66_39 : decode (j_co 66) 39 = .ok (.if_icmp .ge 33, 3) := by decide +kernel
set_option maxRecDepth 20000 in
theorem w66_39 {d : Nat} {st : List Value} {Q : Option Value × jW → Prop} {ls : jL} {w : jW} {a b : Int32} : Wp d 66 39 ls (.int b :: .int a :: st) w Q = ((b ≤ a → Wp d 66 72 ls st w Q) ∧ (¬ b ≤ a → Wp d 66 42 ls st w Q)) := Wp.if2 (c := b ≤ a) (off := 33) e66_39 rfl rfl rfl rfl rfl
theorem e66_42 : decode (j_co 66) 42 = .ok (.aload_n 1, 1) := by decide +kernel
set_option maxRecDepth 20000 in
theorem w66_42 {d : Nat} {st : List Value} {Q : Option Value × jW → Prop} {w : jW} {a0 a2 a3 a4 a5 : Option Value} {x : Nat} : Wp d 66 42 [a0, some (.ref x), a2, a3, a4, a5] (st) w Q = Wp d 66 43 [a0, some (.ref x), a2, a3, a4, a5] (.ref x :: st) w Q := Wp.loc e66_42 rfl rfl rfl
theorem e66_43 : decode (j_co 66) 43 = .ok (.iconst 1, 1) := by decide +kernel
set_option maxRecDepth 20000 in
theorem w66_43 {d : Nat} {st : List Value} {Q : Option Value × jW → Prop} {ls : jL} {w : jW} : Wp d 66 43 ls (st) w Q = Wp d 66 44 ls (.int (nI 1) :: st) w Q := Wp.alu e66_43 rfl rfl
theorem e66_44 : decode (j_co 66) 44 = .ok (.iload 5, 2) := by decide +kernel
set_option maxRecDepth 20000 in
theorem w66_44 {d : Nat} {st : List Value} {Q : Option Value × jW → Prop} {w : jW} {a0 a1 a2 a3 a4 : Option Value} {x : Int32} : Wp d 66 44 [a0, a1, a2, a3, a4, some (.int x)] (st) w Q = Wp d 66 46 [a0, a1, a2, a3, a4, some (.int x)] (.int x :: st) w Q := Wp.loc e66_44 rfl rfl rfl
theorem e66_46 : decode (j_co 66) 46 = .ok (.bipush 20, 2) := by decide +kernel
set_option maxRecDepth 20000 in
theorem w66_46 {d : Nat} {st : List Value} {Q : Option Value × jW → Prop} {ls : jL} {w : jW} : Wp d 66 46 ls (st) w Q = Wp d 66 48 ls (.int (nI 20) :: st) w Q := Wp.alu e66_46 rfl rfl
theorem e66_48 : decode (j_co 66) 48 = .ok (.isub, 1) := by decide +kernel
set_option maxRecDepth 20000 in
theorem w66_48 {d : Nat} {st : List Value} {Q : Option Value × jW → Prop} {ls : jL} {w : jW} {a b : Int32} : Wp d 66 48 ls (.int b :: .int a :: st) w Q = Wp d 66 49 ls (.int (a - b) :: st) w Q := Wp.alu e66_48 rfl rfl
theorem e66_49 : decode (j_co 66) 49 = .ok (.invokevirtual 97, 3) := by decide +kernel
set_option maxRecDepth 20000 in
theorem w66_49 {d : Nat} {st : List Value} {Q : Option Value × jW → Prop} {ls : jL} {xs : List Value} {I : fI} {L : fL} {r : Nat} {x0 : Int32} {x1 : Int32} (hs : j_sumc st ≤ 8) (ht : f_tg r = 0) : Wp (d + 1) 66 49 ls (.int x1 :: .int x0 :: .ref r :: st) (f_W xs I L) Q = Wp d 62 0 [some (.ref r), some (.int x0), some (.int x1)] [] (f_W xs I L) (fun r1 => Wp (d + 1) 66 52 ls (r1.1.toList ++ st) r1.2 Q) := Wp.cv (y' := 62) (as := [.int x0, .int x1]) e66_49 rfl (by decide) rfl (show 3 ≤ 3 by decide) (by decide) hs ht
theorem e66_52 : decode (j_co 66) 52 = .ok (.ifCond .eq 14, 3) := by decide +kernel
set_option maxRecDepth 20000 in
theorem w66_52 {d : Nat} {st : List Value} {Q : Option Value × jW → Prop} {ls : jL} {w : jW} {a : Int32} : Wp d 66 52 ls (.int a :: st) w Q = ((a = nI 0 → Wp d 66 66 ls st w Q) ∧ (¬ a = nI 0 → Wp d 66 55 ls st w Q)) := Wp.if2 (c := a = nI 0) (off := 14) e66_52 rfl rfl rfl rfl rfl
theorem e66_55 : decode (j_co 66) 55 = .ok (.aload_n 0, 1) := by decide +kernel
set_option maxRecDepth 20000 in
theorem w66_55 {d : Nat} {st : List Value} {Q : Option Value × jW → Prop} {w : jW} {a1 a2 a3 a4 a5 : Option Value} {x : Nat} : Wp d 66 55 [some (.ref x), a1, a2, a3, a4, a5] (st) w Q = Wp d 66 56 [some (.ref x), a1, a2, a3, a4, a5] (.ref x :: st) w Q := Wp.loc e66_55 rfl rfl rfl
theorem e66_56 : decode (j_co 66) 56 = .ok (.getfield 27, 3) := by decide +kernel
set_option maxRecDepth 20000 in
theorem w66_56 {d : Nat} {st : List Value} {Q : Option Value × jW → Prop} {ls : jL} {xs : List Value} {I : fI} {L : fL} {o : Nat} (ht : f_tg o = 7) : Wp d 66 56 ls (.ref o :: st) (f_W xs I L) Q = Wp d 66 59 ls (.ref (f_rf o 4) :: st) (f_W xs I L) Q := Wp.getR (ci := 7) (k := 4) e66_56 rfl (by decide) (by decide) rfl ht
theorem e66_59 : decode (j_co 66) 59 = .ok (.iload 5, 2) := by decide +kernel
set_option maxRecDepth 20000 in
theorem w66_59 {d : Nat} {st : List Value} {Q : Option Value × jW → Prop} {w : jW} {a0 a1 a2 a3 a4 : Option Value} {x : Int32} : Wp d 66 59 [a0, a1, a2, a3, a4, some (.int x)] (st) w Q = Wp d 66 61 [a0, a1, a2, a3, a4, some (.int x)] (.int x :: st) w Q := Wp.loc e66_59 rfl rfl rfl
theorem e66_61 : decode (j_co 66) 61 = .ok (.dup2, 1) := by decide +kernel
set_option maxRecDepth 20000 in
theorem w66_61 {d : Nat} {st : List Value} {Q : Option Value × jW → Prop} {ls : jL} {w : jW} {a : Int32} {b : Nat} : Wp d 66 61 ls (.int a :: .ref b :: st) w Q = Wp d 66 62 ls (.int a :: .ref b :: .int a :: .ref b :: st) w Q := Wp.alu e66_61 rfl rfl
theorem e66_62 : decode (j_co 66) 62 = .ok (.laload, 1) := by decide +kernel
set_option maxRecDepth 20000 in
theorem w66_62 {d : Nat} {st : List Value} {Q : Option Value × jW → Prop} {ls : jL} {xs : List Value} {I : fI} {L : fL} {o : Nat} {i : Int32} (ht : f_tg o = 102) (hi : ¬ (i < 0 ∨ f_ln o ≤ i.toNatClampNeg)) : Wp d 66 62 ls (.int i :: .ref o :: st) (f_W xs I L) Q = Wp d 66 63 ls (.long (L i.toNatClampNeg) :: st) (f_W xs I L) Q := Wp.lald e66_62 ht hi
theorem e66_63 : decode (j_co 66) 63 = .ok (.lload_n 3, 1) := by decide +kernel
set_option maxRecDepth 20000 in
theorem w66_63 {d : Nat} {st : List Value} {Q : Option Value × jW → Prop} {w : jW} {a0 a1 a2 a4 a5 : Option Value} {x : Int64} : Wp d 66 63 [a0, a1, a2, some (.long x), a4, a5] (st) w Q = Wp d 66 64 [a0, a1, a2, some (.long x), a4, a5] (.long x :: st) w Q := Wp.loc e66_63 rfl rfl rfl
theorem e66_64 : decode (j_co 66) 64 = .ok (.lor, 1) := by decide +kernel
set_option maxRecDepth 20000 in
theorem w66_64 {d : Nat} {st : List Value} {Q : Option Value × jW → Prop} {ls : jL} {w : jW} {a b : Int64} : Wp d 66 64 ls (.long b :: .long a :: st) w Q = Wp d 66 65 ls (.long (a ||| b) :: st) w Q := Wp.alu e66_64 rfl rfl
theorem e66_65 : decode (j_co 66) 65 = .ok (.lastore, 1) := by decide +kernel
set_option maxRecDepth 20000 in
theorem w66_65 {d : Nat} {st : List Value} {Q : Option Value × jW → Prop} {ls : jL} {xs : List Value} {I : fI} {L : fL} {o : Nat} {i : Int32} {x : Int64} (ht : f_tg o = 102) (hi : ¬ (i < 0 ∨ f_ln o ≤ i.toNatClampNeg)) : Wp d 66 65 ls (.long x :: .int i :: .ref o :: st) (f_W xs I L) Q = Wp d 66 66 ls (st) (f_W xs I (f_uL L i.toNatClampNeg x)) Q := Wp.last e66_65 ht hi
theorem e66_66 : decode (j_co 66) 66 = .ok (.iinc 5 1, 3) := by decide +kernel
set_option maxRecDepth 20000 in
theorem w66_66 {d : Nat} {st : List Value} {Q : Option Value × jW → Prop} {w : jW} {a0 a1 a2 a3 a4 : Option Value} {x : Int32} (h : j_cp a4) : Wp d 66 66 [a0, a1, a2, a3, a4, some (.int x)] (st) w Q = Wp d 66 69 [a0, a1, a2, a3, a4, some (.int (x + nI 1))] (st) w Q := Wp.loc e66_66 rfl rfl (v_inc (ls := [a0, a1, a2, a3, a4, some (.int x)]) (k := 5) (n := 1) rfl (show 5 < 6 by decide) h)
theorem e66_69 : decode (j_co 66) 69 = .ok (.goto (-37), 3) := by decide +kernel
set_option maxRecDepth 20000 in
theorem w66_69 {d : Nat} {st : List Value} {Q : Option Value × jW → Prop} {ls : jL} {w : jW} : Wp d 66 69 ls (st) w Q = Wp d 66 32 ls (st) w Q := Wp.br e66_69 (Or.inl rfl) rfl rfl rfl rfl
theorem e66_72 : decode (j_co 66) 72 = .ok (.return_, 1) := by decide +kernel
set_option maxRecDepth 20000 in
theorem w66_72 {d : Nat} {Q : Option Value × jW → Prop} {ls : jL} {w : jW} : Wp d 66 72 ls [] w Q = Q (none, w) := Wp.ret e66_72 rfl
/-! Search.firstProof -/
theorem e70_0 : decode (j_co 70) 0 = .ok (.iconst 0, 1) := by decide +kernel
set_option maxRecDepth 20000 in
theorem w70_0 {d : Nat} {st : List Value} {Q : Option Value × jW → Prop} {ls : jL} {w : jW} : Wp d 70 0 ls (st) w Q = Wp d 70 1 ls (.int (nI 0) :: st) w Q := Wp.alu e70_0 rfl rfl
theorem e70_1 : decode (j_co 70) 1 = .ok (.istore_n 1, 1) := by decide +kernel
set_option maxRecDepth 20000 in
theorem w70_1 {d : Nat} {st : List Value} {Q : Option Value × jW → Prop} {w : jW} {a0 a1 : Option Value} {x : Int32} (h : j_cp a0) : Wp d 70 1 [a0, a1] (.int x :: st) w Q = Wp d 70 2 [a0, some (.int x)] (st) w Q := Wp.loc e70_1 rfl rfl (v_stI (ls := [a0, a1]) (k := 1) (show 1 < 2 by decide) h)
theorem e70_2 : decode (j_co 70) 2 = .ok (.iload_n 1, 1) := by decide +kernel
set_option maxRecDepth 20000 in
theorem w70_2 {d : Nat} {st : List Value} {Q : Option Value × jW → Prop} {w : jW} {a0 : Option Value} {x : Int32} : Wp d 70 2 [a0, some (.int x)] (st) w Q = Wp d 70 3 [a0, some (.int x)] (.int x :: st) w Q := Wp.loc e70_2 rfl rfl rfl
theorem e70_3 : decode (j_co 70) 3 = .ok (.aload_n 0, 1) := by decide +kernel
set_option maxRecDepth 20000 in
theorem w70_3 {d : Nat} {st : List Value} {Q : Option Value × jW → Prop} {w : jW} {a1 : Option Value} {x : Nat} : Wp d 70 3 [some (.ref x), a1] (st) w Q = Wp d 70 4 [some (.ref x), a1] (.ref x :: st) w Q := Wp.loc e70_3 rfl rfl rfl
theorem e70_4 : decode (j_co 70) 4 = .ok (.getfield 44, 3) := by decide +kernel
set_option maxRecDepth 20000 in
theorem w70_4 {d : Nat} {st : List Value} {Q : Option Value × jW → Prop} {ls : jL} {xs : List Value} {I : fI} {L : fL} {o : Nat} (ht : f_tg o = 7) : Wp d 70 4 ls (.ref o :: st) (f_W xs I L) Q = Wp d 70 7 ls (.int (I o 6) :: st) (f_W xs I L) Q := Wp.getI (ci := 7) (k := 6) e70_4 rfl (by decide) (by decide) (by decide) ht
theorem e70_7 : decode (j_co 70) 7 = .ok (.if_icmp .ge 51, 3) := by decide +kernel
set_option maxRecDepth 20000 in
theorem w70_7 {d : Nat} {st : List Value} {Q : Option Value × jW → Prop} {ls : jL} {w : jW} {a b : Int32} : Wp d 70 7 ls (.int b :: .int a :: st) w Q = ((b ≤ a → Wp d 70 58 ls st w Q) ∧ (¬ b ≤ a → Wp d 70 10 ls st w Q)) := Wp.if2 (c := b ≤ a) (off := 51) e70_7 rfl rfl rfl rfl rfl
theorem e70_10 : decode (j_co 70) 10 = .ok (.aload_n 0, 1) := by decide +kernel
set_option maxRecDepth 20000 in
theorem w70_10 {d : Nat} {st : List Value} {Q : Option Value × jW → Prop} {w : jW} {a1 : Option Value} {x : Nat} : Wp d 70 10 [some (.ref x), a1] (st) w Q = Wp d 70 11 [some (.ref x), a1] (.ref x :: st) w Q := Wp.loc e70_10 rfl rfl rfl
theorem e70_11 : decode (j_co 70) 11 = .ok (.getfield 11, 3) := by decide +kernel
set_option maxRecDepth 20000 in
theorem w70_11 {d : Nat} {st : List Value} {Q : Option Value × jW → Prop} {ls : jL} {xs : List Value} {I : fI} {L : fL} {o : Nat} (ht : f_tg o = 7) : Wp d 70 11 ls (.ref o :: st) (f_W xs I L) Q = Wp d 70 14 ls (.ref (f_rf o 1) :: st) (f_W xs I L) Q := Wp.getR (ci := 7) (k := 1) e70_11 rfl (by decide) (by decide) rfl ht
theorem e70_14 : decode (j_co 70) 14 = .ok (.iload_n 1, 1) := by decide +kernel
set_option maxRecDepth 20000 in
theorem w70_14 {d : Nat} {st : List Value} {Q : Option Value × jW → Prop} {w : jW} {a0 : Option Value} {x : Int32} : Wp d 70 14 [a0, some (.int x)] (st) w Q = Wp d 70 15 [a0, some (.int x)] (.int x :: st) w Q := Wp.loc e70_14 rfl rfl rfl
theorem e70_15 : decode (j_co 70) 15 = .ok (.aaload, 1) := by decide +kernel
set_option maxRecDepth 20000 in
theorem w70_15 {d : Nat} {st : List Value} {Q : Option Value × jW → Prop} {ls : jL} {xs : List Value} {I : fI} {L : fL} {o : Nat} {i : Int32} (ht : 103 ≤ f_tg o ∧ f_tg o ≤ 106) (hi : ¬ (i < 0 ∨ f_ln o ≤ i.toNatClampNeg)) : Wp d 70 15 ls (.int i :: .ref o :: st) (f_W xs I L) Q = Wp d 70 16 ls (.ref (f_rf o i.toNatClampNeg) :: st) (f_W xs I L) Q := Wp.aald e70_15 rfl ht hi
theorem e70_16 : decode (j_co 70) 16 = .ok (.getfield 86, 3) := by decide +kernel
set_option maxRecDepth 20000 in
theorem w70_16 {d : Nat} {st : List Value} {Q : Option Value × jW → Prop} {ls : jL} {xs : List Value} {I : fI} {L : fL} {o : Nat} (ht : f_tg o = 3) : Wp d 70 16 ls (.ref o :: st) (f_W xs I L) Q = Wp d 70 19 ls (.int (I o 6) :: st) (f_W xs I L) Q := Wp.getI (ci := 3) (k := 6) e70_16 rfl (by decide) (by decide) (by decide) ht
theorem e70_19 : decode (j_co 70) 19 = .ok (.ifCond .eq 33, 3) := by decide +kernel
set_option maxRecDepth 20000 in
theorem w70_19 {d : Nat} {st : List Value} {Q : Option Value × jW → Prop} {ls : jL} {w : jW} {a : Int32} : Wp d 70 19 ls (.int a :: st) w Q = ((a = nI 0 → Wp d 70 52 ls st w Q) ∧ (¬ a = nI 0 → Wp d 70 22 ls st w Q)) := Wp.if2 (c := a = nI 0) (off := 33) e70_19 rfl rfl rfl rfl rfl
theorem e70_22 : decode (j_co 70) 22 = .ok (.aload_n 0, 1) := by decide +kernel
set_option maxRecDepth 20000 in
theorem w70_22 {d : Nat} {st : List Value} {Q : Option Value × jW → Prop} {w : jW} {a1 : Option Value} {x : Nat} : Wp d 70 22 [some (.ref x), a1] (st) w Q = Wp d 70 23 [some (.ref x), a1] (.ref x :: st) w Q := Wp.loc e70_22 rfl rfl rfl
theorem e70_23 : decode (j_co 70) 23 = .ok (.getfield 35, 3) := by decide +kernel
set_option maxRecDepth 20000 in
theorem w70_23 {d : Nat} {st : List Value} {Q : Option Value × jW → Prop} {ls : jL} {xs : List Value} {I : fI} {L : fL} {o : Nat} (ht : f_tg o = 7) : Wp d 70 23 ls (.ref o :: st) (f_W xs I L) Q = Wp d 70 26 ls (.ref (f_rf o 0) :: st) (f_W xs I L) Q := Wp.getR (ci := 7) (k := 0) e70_23 rfl (by decide) (by decide) rfl ht
theorem e70_26 : decode (j_co 70) 26 = .ok (.aload_n 0, 1) := by decide +kernel
set_option maxRecDepth 20000 in
theorem w70_26 {d : Nat} {st : List Value} {Q : Option Value × jW → Prop} {w : jW} {a1 : Option Value} {x : Nat} : Wp d 70 26 [some (.ref x), a1] (st) w Q = Wp d 70 27 [some (.ref x), a1] (.ref x :: st) w Q := Wp.loc e70_26 rfl rfl rfl
theorem e70_27 : decode (j_co 70) 27 = .ok (.getfield 11, 3) := by decide +kernel
set_option maxRecDepth 20000 in
theorem w70_27 {d : Nat} {st : List Value} {Q : Option Value × jW → Prop} {ls : jL} {xs : List Value} {I : fI} {L : fL} {o : Nat} (ht : f_tg o = 7) : Wp d 70 27 ls (.ref o :: st) (f_W xs I L) Q = Wp d 70 30 ls (.ref (f_rf o 1) :: st) (f_W xs I L) Q := Wp.getR (ci := 7) (k := 1) e70_27 rfl (by decide) (by decide) rfl ht
theorem e70_30 : decode (j_co 70) 30 = .ok (.iload_n 1, 1) := by decide +kernel
set_option maxRecDepth 20000 in
theorem w70_30 {d : Nat} {st : List Value} {Q : Option Value × jW → Prop} {w : jW} {a0 : Option Value} {x : Int32} : Wp d 70 30 [a0, some (.int x)] (st) w Q = Wp d 70 31 [a0, some (.int x)] (.int x :: st) w Q := Wp.loc e70_30 rfl rfl rfl
theorem e70_31 : decode (j_co 70) 31 = .ok (.aaload, 1) := by decide +kernel
set_option maxRecDepth 20000 in
theorem w70_31 {d : Nat} {st : List Value} {Q : Option Value × jW → Prop} {ls : jL} {xs : List Value} {I : fI} {L : fL} {o : Nat} {i : Int32} (ht : 103 ≤ f_tg o ∧ f_tg o ≤ 106) (hi : ¬ (i < 0 ∨ f_ln o ≤ i.toNatClampNeg)) : Wp d 70 31 ls (.int i :: .ref o :: st) (f_W xs I L) Q = Wp d 70 32 ls (.ref (f_rf o i.toNatClampNeg) :: st) (f_W xs I L) Q := Wp.aald e70_31 rfl ht hi
theorem e70_32 : decode (j_co 70) 32 = .ok (.getfield 76, 3) := by decide +kernel
set_option maxRecDepth 20000 in
theorem w70_32 {d : Nat} {st : List Value} {Q : Option Value × jW → Prop} {ls : jL} {xs : List Value} {I : fI} {L : fL} {o : Nat} (ht : f_tg o = 3) : Wp d 70 32 ls (.ref o :: st) (f_W xs I L) Q = Wp d 70 35 ls (.int (I o 1) :: st) (f_W xs I L) Q := Wp.getI (ci := 3) (k := 1) e70_32 rfl (by decide) (by decide) (by decide) ht
theorem e70_35 : decode (j_co 70) 35 = .ok (.aload_n 0, 1) := by decide +kernel
set_option maxRecDepth 20000 in
theorem w70_35 {d : Nat} {st : List Value} {Q : Option Value × jW → Prop} {w : jW} {a1 : Option Value} {x : Nat} : Wp d 70 35 [some (.ref x), a1] (st) w Q = Wp d 70 36 [some (.ref x), a1] (.ref x :: st) w Q := Wp.loc e70_35 rfl rfl rfl
theorem e70_36 : decode (j_co 70) 36 = .ok (.getfield 11, 3) := by decide +kernel
set_option maxRecDepth 20000 in
theorem w70_36 {d : Nat} {st : List Value} {Q : Option Value × jW → Prop} {ls : jL} {xs : List Value} {I : fI} {L : fL} {o : Nat} (ht : f_tg o = 7) : Wp d 70 36 ls (.ref o :: st) (f_W xs I L) Q = Wp d 70 39 ls (.ref (f_rf o 1) :: st) (f_W xs I L) Q := Wp.getR (ci := 7) (k := 1) e70_36 rfl (by decide) (by decide) rfl ht
theorem e70_39 : decode (j_co 70) 39 = .ok (.iload_n 1, 1) := by decide +kernel
set_option maxRecDepth 20000 in
theorem w70_39 {d : Nat} {st : List Value} {Q : Option Value × jW → Prop} {w : jW} {a0 : Option Value} {x : Int32} : Wp d 70 39 [a0, some (.int x)] (st) w Q = Wp d 70 40 [a0, some (.int x)] (.int x :: st) w Q := Wp.loc e70_39 rfl rfl rfl
theorem e70_40 : decode (j_co 70) 40 = .ok (.aaload, 1) := by decide +kernel
set_option maxRecDepth 20000 in
theorem w70_40 {d : Nat} {st : List Value} {Q : Option Value × jW → Prop} {ls : jL} {xs : List Value} {I : fI} {L : fL} {o : Nat} {i : Int32} (ht : 103 ≤ f_tg o ∧ f_tg o ≤ 106) (hi : ¬ (i < 0 ∨ f_ln o ≤ i.toNatClampNeg)) : Wp d 70 40 ls (.int i :: .ref o :: st) (f_W xs I L) Q = Wp d 70 41 ls (.ref (f_rf o i.toNatClampNeg) :: st) (f_W xs I L) Q := Wp.aald e70_40 rfl ht hi
theorem e70_41 : decode (j_co 70) 41 = .ok (.getfield 79, 3) := by decide +kernel
set_option maxRecDepth 20000 in
theorem w70_41 {d : Nat} {st : List Value} {Q : Option Value × jW → Prop} {ls : jL} {xs : List Value} {I : fI} {L : fL} {o : Nat} (ht : f_tg o = 3) : Wp d 70 41 ls (.ref o :: st) (f_W xs I L) Q = Wp d 70 44 ls (.ref (f_rf o 0) :: st) (f_W xs I L) Q := Wp.getR (ci := 3) (k := 0) e70_41 rfl (by decide) (by decide) rfl ht
theorem e70_44 : decode (j_co 70) 44 = .ok (.invokevirtual 82, 3) := by decide +kernel
set_option maxRecDepth 20000 in
theorem w70_44 {d : Nat} {st : List Value} {Q : Option Value × jW → Prop} {ls : jL} {xs : List Value} {I : fI} {L : fL} {r : Nat} {x0 : Int32} {x1 : Nat} (hs : j_sumc st ≤ 8) (ht : f_tg r = 5) : Wp (d + 1) 70 44 ls (.ref x1 :: .int x0 :: .ref r :: st) (f_W xs I L) Q = Wp d 52 0 [some (.ref r), some (.int x0), some (.ref x1)] [] (f_W xs I L) (fun r1 => Wp (d + 1) 70 47 ls (r1.1.toList ++ st) r1.2 Q) := Wp.cv (y' := 52) (as := [.int x0, .ref x1]) e70_44 rfl (by decide) rfl (show 3 ≤ 3 by decide) (by decide) hs ht
theorem e70_47 : decode (j_co 70) 47 = .ok (.ifCond .eq 5, 3) := by decide +kernel
set_option maxRecDepth 20000 in
theorem w70_47 {d : Nat} {st : List Value} {Q : Option Value × jW → Prop} {ls : jL} {w : jW} {a : Int32} : Wp d 70 47 ls (.int a :: st) w Q = ((a = nI 0 → Wp d 70 52 ls st w Q) ∧ (¬ a = nI 0 → Wp d 70 50 ls st w Q)) := Wp.if2 (c := a = nI 0) (off := 5) e70_47 rfl rfl rfl rfl rfl
theorem e70_50 : decode (j_co 70) 50 = .ok (.iload_n 1, 1) := by decide +kernel
set_option maxRecDepth 20000 in
theorem w70_50 {d : Nat} {st : List Value} {Q : Option Value × jW → Prop} {w : jW} {a0 : Option Value} {x : Int32} : Wp d 70 50 [a0, some (.int x)] (st) w Q = Wp d 70 51 [a0, some (.int x)] (.int x :: st) w Q := Wp.loc e70_50 rfl rfl rfl
theorem e70_51 : decode (j_co 70) 51 = .ok (.ireturn, 1) := by decide +kernel
set_option maxRecDepth 20000 in
theorem w70_51 {d : Nat} {Q : Option Value × jW → Prop} {ls : jL} {w : jW} {x : Int32} : Wp d 70 51 ls [.int x] w Q = Q (some (.int x), w) := Wp.ret e70_51 rfl
theorem e70_52 : decode (j_co 70) 52 = .ok (.iinc 1 1, 3) := by decide +kernel
set_option maxRecDepth 20000 in
theorem w70_52 {d : Nat} {st : List Value} {Q : Option Value × jW → Prop} {w : jW} {a0 : Option Value} {x : Int32} (h : j_cp a0) : Wp d 70 52 [a0, some (.int x)] (st) w Q = Wp d 70 55 [a0, some (.int (x + nI 1))] (st) w Q := Wp.loc e70_52 rfl rfl (v_inc (ls := [a0, some (.int x)]) (k := 1) (n := 1) rfl (show 1 < 2 by decide) h)
theorem e70_55 : decode (j_co 70) 55 = .ok (.goto (-53), 3) := by decide +kernel
set_option maxRecDepth 20000 in
theorem w70_55 {d : Nat} {st : List Value} {Q : Option Value × jW → Prop} {ls : jL} {w : jW} : Wp d 70 55 ls (st) w Q = Wp d 70 2 ls (st) w Q := Wp.br e70_55 (Or.inl rfl) rfl rfl rfl rfl
theorem e70_58 : decode (j_co 70) 58 = .ok (.bipush (-4), 2) := by decide +kernel
set_option maxRecDepth 20000 in
theorem w70_58 {d : Nat} {st : List Value} {Q : Option Value × jW → Prop} {ls : jL} {w : jW} : Wp d 70 58 ls (st) w Q = Wp d 70 60 ls (.int (-4) :: st) w Q := Wp.alu e70_58 rfl rfl
theorem e70_60 : decode (j_co 70) 60 = .ok (.ireturn, 1) := by decide +kernel
set_option maxRecDepth 20000 in
theorem w70_60 {d : Nat} {Q : Option Value × jW → Prop} {ls : jL} {w : jW} {x : Int32} : Wp d 70 60 ls [.int x] w Q = Q (some (.int x), w) := Wp.ret e70_60 rfl
/-! Search.heapAt -/
theorem e170_0 : decode (j_co 170) 0 = .ok (.aload_n 0, 1) := by decide +kernel
set_option maxRecDepth 20000 in
theorem w170_0 {d : Nat} {st : List Value} {Q : Option Value × jW → Prop} {w : jW} {a1 : Option Value} {x : Nat} : Wp d 170 0 [some (.ref x), a1] (st) w Q = Wp d 170 1 [some (.ref x), a1] (.ref x :: st) w Q := Wp.loc e170_0 rfl rfl rfl
theorem e170_1 : decode (j_co 170) 1 = .ok (.getfield 11, 3) := by decide +kernel
set_option maxRecDepth 20000 in
theorem w170_1 {d : Nat} {st : List Value} {Q : Option Value × jW → Prop} {ls : jL} {xs : List Value} {I : fI} {L : fL} {o : Nat} (ht : f_tg o = 7) : Wp d 170 1 ls (.ref o :: st) (f_W xs I L) Q = Wp d 170 4 ls (.ref (f_rf o 1) :: st) (f_W xs I L) Q := Wp.getR (ci := 7) (k := 1) e170_1 rfl (by decide) (by decide) rfl ht
theorem e170_4 : decode (j_co 170) 4 = .ok (.aload_n 0, 1) := by decide +kernel
set_option maxRecDepth 20000 in
theorem w170_4 {d : Nat} {st : List Value} {Q : Option Value × jW → Prop} {w : jW} {a1 : Option Value} {x : Nat} : Wp d 170 4 [some (.ref x), a1] (st) w Q = Wp d 170 5 [some (.ref x), a1] (.ref x :: st) w Q := Wp.loc e170_4 rfl rfl rfl
theorem e170_5 : decode (j_co 170) 5 = .ok (.iload_n 1, 1) := by decide +kernel
set_option maxRecDepth 20000 in
theorem w170_5 {d : Nat} {st : List Value} {Q : Option Value × jW → Prop} {w : jW} {a0 : Option Value} {x : Int32} : Wp d 170 5 [a0, some (.int x)] (st) w Q = Wp d 170 6 [a0, some (.int x)] (.int x :: st) w Q := Wp.loc e170_5 rfl rfl rfl
theorem e170_6 : decode (j_co 170) 6 = .ok (.invokevirtual 72, 3) := by decide +kernel
set_option maxRecDepth 20000 in
theorem w170_6 {d : Nat} {st : List Value} {Q : Option Value × jW → Prop} {ls : jL} {xs : List Value} {I : fI} {L : fL} {r : Nat} {x0 : Int32} (hs : j_sumc st ≤ 8) (ht : f_tg r = 7) : Wp (d + 1) 170 6 ls (.int x0 :: .ref r :: st) (f_W xs I L) Q = Wp d 50 0 [some (.ref r), some (.int x0)] [] (f_W xs I L) (fun r1 => Wp (d + 1) 170 9 ls (r1.1.toList ++ st) r1.2 Q) := Wp.cv (y' := 50) (as := [.int x0]) e170_6 rfl (by decide) rfl (show 2 ≤ 2 by decide) (by decide) hs ht
theorem e170_9 : decode (j_co 170) 9 = .ok (.ifCond .eq 7, 3) := by decide +kernel
set_option maxRecDepth 20000 in
theorem w170_9 {d : Nat} {st : List Value} {Q : Option Value × jW → Prop} {ls : jL} {w : jW} {a : Int32} : Wp d 170 9 ls (.int a :: st) w Q = ((a = nI 0 → Wp d 170 16 ls st w Q) ∧ (¬ a = nI 0 → Wp d 170 12 ls st w Q)) := Wp.if2 (c := a = nI 0) (off := 7) e170_9 rfl rfl rfl rfl rfl
theorem e170_12 : decode (j_co 170) 12 = .ok (.iload_n 1, 1) := by decide +kernel
set_option maxRecDepth 20000 in
theorem w170_12 {d : Nat} {st : List Value} {Q : Option Value × jW → Prop} {w : jW} {a0 : Option Value} {x : Int32} : Wp d 170 12 [a0, some (.int x)] (st) w Q = Wp d 170 13 [a0, some (.int x)] (.int x :: st) w Q := Wp.loc e170_12 rfl rfl rfl
theorem e170_13 : decode (j_co 170) 13 = .ok (.goto 4, 3) := by decide +kernel
set_option maxRecDepth 20000 in
theorem w170_13 {d : Nat} {st : List Value} {Q : Option Value × jW → Prop} {ls : jL} {w : jW} : Wp d 170 13 ls (st) w Q = Wp d 170 17 ls (st) w Q := Wp.br e170_13 (Or.inl rfl) rfl rfl rfl rfl
theorem e170_16 : decode (j_co 170) 16 = .ok (.iconst 0, 1) := by decide +kernel
set_option maxRecDepth 20000 in
theorem w170_16 {d : Nat} {st : List Value} {Q : Option Value × jW → Prop} {ls : jL} {w : jW} : Wp d 170 16 ls (st) w Q = Wp d 170 17 ls (.int (nI 0) :: st) w Q := Wp.alu e170_16 rfl rfl
theorem e170_17 : decode (j_co 170) 17 = .ok (.aaload, 1) := by decide +kernel
set_option maxRecDepth 20000 in
theorem w170_17 {d : Nat} {st : List Value} {Q : Option Value × jW → Prop} {ls : jL} {xs : List Value} {I : fI} {L : fL} {o : Nat} {i : Int32} (ht : 103 ≤ f_tg o ∧ f_tg o ≤ 106) (hi : ¬ (i < 0 ∨ f_ln o ≤ i.toNatClampNeg)) : Wp d 170 17 ls (.int i :: .ref o :: st) (f_W xs I L) Q = Wp d 170 18 ls (.ref (f_rf o i.toNatClampNeg) :: st) (f_W xs I L) Q := Wp.aald e170_17 rfl ht hi
theorem e170_18 : decode (j_co 170) 18 = .ok (.areturn, 1) := by decide +kernel
set_option maxRecDepth 20000 in
theorem w170_18 {d : Nat} {Q : Option Value × jW → Prop} {ls : jL} {w : jW} {x : Nat} : Wp d 170 18 ls [.ref x] w Q = Q (some (.ref x), w) := Wp.ret e170_18 rfl
set_option maxRecDepth 20000 in
theorem w170_18n {d : Nat} {Q : Option Value × jW → Prop} {ls : jL} {w : jW} : Wp d 170 18 ls [.null] w Q = Q (some .null, w) := Wp.ret e170_18 rfl
/-! Machine.modeAt -/
theorem e171_0 : decode (j_co 171) 0 = .ok (.aload_n 0, 1) := by decide +kernel
set_option maxRecDepth 20000 in
theorem w171_0 {d : Nat} {st : List Value} {Q : Option Value × jW → Prop} {w : jW} {a1 : Option Value} {x : Nat} : Wp d 171 0 [some (.ref x), a1] (st) w Q = Wp d 171 1 [some (.ref x), a1] (.ref x :: st) w Q := Wp.loc e171_0 rfl rfl rfl
theorem e171_1 : decode (j_co 171) 1 = .ok (.getfield 11, 3) := by decide +kernel
set_option maxRecDepth 20000 in
theorem w171_1 {d : Nat} {st : List Value} {Q : Option Value × jW → Prop} {ls : jL} {xs : List Value} {I : fI} {L : fL} {o : Nat} (ht : f_tg o = 5) : Wp d 171 1 ls (.ref o :: st) (f_W xs I L) Q = Wp d 171 4 ls (.ref (f_rf o 0) :: st) (f_W xs I L) Q := Wp.getR (ci := 5) (k := 0) e171_1 rfl (by decide) (by decide) rfl ht
theorem e171_4 : decode (j_co 171) 4 = .ok (.aload_n 0, 1) := by decide +kernel
set_option maxRecDepth 20000 in
theorem w171_4 {d : Nat} {st : List Value} {Q : Option Value × jW → Prop} {w : jW} {a1 : Option Value} {x : Nat} : Wp d 171 4 [some (.ref x), a1] (st) w Q = Wp d 171 5 [some (.ref x), a1] (.ref x :: st) w Q := Wp.loc e171_4 rfl rfl rfl
theorem e171_5 : decode (j_co 171) 5 = .ok (.iload_n 1, 1) := by decide +kernel
set_option maxRecDepth 20000 in
theorem w171_5 {d : Nat} {st : List Value} {Q : Option Value × jW → Prop} {w : jW} {a0 : Option Value} {x : Int32} : Wp d 171 5 [a0, some (.int x)] (st) w Q = Wp d 171 6 [a0, some (.int x)] (.int x :: st) w Q := Wp.loc e171_5 rfl rfl rfl
theorem e171_6 : decode (j_co 171) 6 = .ok (.invokevirtual 49, 3) := by decide +kernel
set_option maxRecDepth 20000 in
theorem w171_6 {d : Nat} {st : List Value} {Q : Option Value × jW → Prop} {ls : jL} {xs : List Value} {I : fI} {L : fL} {r : Nat} {x0 : Int32} (hs : j_sumc st ≤ 8) (ht : f_tg r = 5) : Wp (d + 1) 171 6 ls (.int x0 :: .ref r :: st) (f_W xs I L) Q = Wp d 16 0 [some (.ref r), some (.int x0)] [] (f_W xs I L) (fun r1 => Wp (d + 1) 171 9 ls (r1.1.toList ++ st) r1.2 Q) := Wp.cv (y' := 16) (as := [.int x0]) e171_6 rfl (by decide) rfl (show 2 ≤ 2 by decide) (by decide) hs ht
theorem e171_9 : decode (j_co 171) 9 = .ok (.ifCond .eq 7, 3) := by decide +kernel
set_option maxRecDepth 20000 in
theorem w171_9 {d : Nat} {st : List Value} {Q : Option Value × jW → Prop} {ls : jL} {w : jW} {a : Int32} : Wp d 171 9 ls (.int a :: st) w Q = ((a = nI 0 → Wp d 171 16 ls st w Q) ∧ (¬ a = nI 0 → Wp d 171 12 ls st w Q)) := Wp.if2 (c := a = nI 0) (off := 7) e171_9 rfl rfl rfl rfl rfl
theorem e171_12 : decode (j_co 171) 12 = .ok (.iload_n 1, 1) := by decide +kernel
set_option maxRecDepth 20000 in
theorem w171_12 {d : Nat} {st : List Value} {Q : Option Value × jW → Prop} {w : jW} {a0 : Option Value} {x : Int32} : Wp d 171 12 [a0, some (.int x)] (st) w Q = Wp d 171 13 [a0, some (.int x)] (.int x :: st) w Q := Wp.loc e171_12 rfl rfl rfl
theorem e171_13 : decode (j_co 171) 13 = .ok (.goto 4, 3) := by decide +kernel
set_option maxRecDepth 20000 in
theorem w171_13 {d : Nat} {st : List Value} {Q : Option Value × jW → Prop} {ls : jL} {w : jW} : Wp d 171 13 ls (st) w Q = Wp d 171 17 ls (st) w Q := Wp.br e171_13 (Or.inl rfl) rfl rfl rfl rfl
theorem e171_16 : decode (j_co 171) 16 = .ok (.iconst 0, 1) := by decide +kernel
set_option maxRecDepth 20000 in
theorem w171_16 {d : Nat} {st : List Value} {Q : Option Value × jW → Prop} {ls : jL} {w : jW} : Wp d 171 16 ls (st) w Q = Wp d 171 17 ls (.int (nI 0) :: st) w Q := Wp.alu e171_16 rfl rfl
theorem e171_17 : decode (j_co 171) 17 = .ok (.aaload, 1) := by decide +kernel
set_option maxRecDepth 20000 in
theorem w171_17 {d : Nat} {st : List Value} {Q : Option Value × jW → Prop} {ls : jL} {xs : List Value} {I : fI} {L : fL} {o : Nat} {i : Int32} (ht : 103 ≤ f_tg o ∧ f_tg o ≤ 106) (hi : ¬ (i < 0 ∨ f_ln o ≤ i.toNatClampNeg)) : Wp d 171 17 ls (.int i :: .ref o :: st) (f_W xs I L) Q = Wp d 171 18 ls (.ref (f_rf o i.toNatClampNeg) :: st) (f_W xs I L) Q := Wp.aald e171_17 rfl ht hi
theorem e171_18 : decode (j_co 171) 18 = .ok (.areturn, 1) := by decide +kernel
set_option maxRecDepth 20000 in
theorem w171_18 {d : Nat} {Q : Option Value × jW → Prop} {ls : jL} {w : jW} {x : Nat} : Wp d 171 18 ls [.ref x] w Q = Q (some (.ref x), w) := Wp.ret e171_18 rfl
set_option maxRecDepth 20000 in
theorem w171_18n {d : Nat} {Q : Option Value × jW → Prop} {ls : jL} {w : jW} : Wp d 171 18 ls [.null] w Q = Q (some .null, w) := Wp.ret e171_18 rfl
