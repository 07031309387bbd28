/-! Long.bitCount -/
theorem e67_0 : decode (j_co 67) 0 = .ok (.lload_n 0, 1) := by decide +kernel
set_option maxRecDepth 20000 in
theorem w67_0 {d : Nat} {st : List Value} {Q : Option Value × jW → Prop} {w : jW} {a1 : Option Value} {x : Int64} : Wp d 67 0 [some (.long x), a1] (st) w Q = Wp d 67 1 [some (.long x), a1] (.long x :: st) w Q := Wp.loc e67_0 rfl rfl rfl
theorem e67_1 : decode (j_co 67) 1 = .ok (.lload_n 0, 1) := by decide +kernel
set_option maxRecDepth 20000 in
theorem w67_1 {d : Nat} {st : List Value} {Q : Option Value × jW → Prop} {w : jW} {a1 : Option Value} {x : Int64} : Wp d 67 1 [some (.long x), a1] (st) w Q = Wp d 67 2 [some (.long x), a1] (.long x :: st) w Q := Wp.loc e67_1 rfl rfl rfl
theorem e67_2 : decode (j_co 67) 2 = .ok (.iconst 1, 1) := by decide +kernel
set_option maxRecDepth 20000 in
theorem w67_2 {d : Nat} {st : List Value} {Q : Option Value × jW → Prop} {ls : jL} {w : jW} : Wp d 67 2 ls (st) w Q = Wp d 67 3 ls (.int (nI 1) :: st) w Q := Wp.alu e67_2 rfl rfl
theorem e67_3 : decode (j_co 67) 3 = .ok (.lushr, 1) := by decide +kernel
set_option maxRecDepth 20000 in
theorem w67_3 {d : Nat} {st : List Value} {Q : Option Value × jW → Prop} {ls : jL} {w : jW} {a : Int64} {b : Int32} : Wp d 67 3 ls (.int b :: .long a :: st) w Q = Wp d 67 4 ls (.long (a.toUInt64 >>> (b.toInt64.toUInt64 &&& Int64.toUInt64 63)).toInt64 :: st) w Q := Wp.alu e67_3 rfl rfl
theorem e67_4 : decode (j_co 67) 4 = .ok (.ldc2_w 314, 3) := by decide +kernel
set_option maxRecDepth 20000 in
theorem w67_4 {d : Nat} {st : List Value} {Q : Option Value × jW → Prop} {ls : jL} {w : jW} : Wp d 67 4 ls (st) w Q = Wp d 67 7 ls (.long (lN 6148914691236517205) :: st) w Q := Wp.ldc2 e67_4 rfl
theorem e67_7 : decode (j_co 67) 7 = .ok (.land, 1) := by decide +kernel
set_option maxRecDepth 20000 in
theorem w67_7 {d : Nat} {st : List Value} {Q : Option Value × jW → Prop} {ls : jL} {w : jW} {a b : Int64} : Wp d 67 7 ls (.long b :: .long a :: st) w Q = Wp d 67 8 ls (.long (a &&& b) :: st) w Q := Wp.alu e67_7 rfl rfl
theorem e67_8 : decode (j_co 67) 8 = .ok (.lsub, 1) := by decide +kernel
set_option maxRecDepth 20000 in
theorem w67_8 {d : Nat} {st : List Value} {Q : Option Value × jW → Prop} {ls : jL} {w : jW} {a b : Int64} : Wp d 67 8 ls (.long b :: .long a :: st) w Q = Wp d 67 9 ls (.long (a - b) :: st) w Q := Wp.alu e67_8 rfl rfl
theorem e67_9 : decode (j_co 67) 9 = .ok (.lstore_n 0, 1) := by decide +kernel
set_option maxRecDepth 20000 in
theorem w67_9 {d : Nat} {st : List Value} {Q : Option Value × jW → Prop} {w : jW} {a0 a1 : Option Value} {x : Int64} : Wp d 67 9 [a0, a1] (.long x :: st) w Q = Wp d 67 10 [some (.long x), none] (st) w Q := Wp.loc e67_9 rfl rfl (v_stL (ls := [a0, a1]) (k := 0) (show 1 < 2 by decide) rfl)
theorem e67_10 : decode (j_co 67) 10 = .ok (.lload_n 0, 1) := by decide +kernel
set_option maxRecDepth 20000 in
theorem w67_10 {d : Nat} {st : List Value} {Q : Option Value × jW → Prop} {w : jW} {a1 : Option Value} {x : Int64} : Wp d 67 10 [some (.long x), a1] (st) w Q = Wp d 67 11 [some (.long x), a1] (.long x :: st) w Q := Wp.loc e67_10 rfl rfl rfl
theorem e67_11 : decode (j_co 67) 11 = .ok (.ldc2_w 316, 3) := by decide +kernel
set_option maxRecDepth 20000 in
theorem w67_11 {d : Nat} {st : List Value} {Q : Option Value × jW → Prop} {ls : jL} {w : jW} : Wp d 67 11 ls (st) w Q = Wp d 67 14 ls (.long (lN 3689348814741910323) :: st) w Q := Wp.ldc2 e67_11 rfl
theorem e67_14 : decode (j_co 67) 14 = .ok (.land, 1) := by decide +kernel
set_option maxRecDepth 20000 in
theorem w67_14 {d : Nat} {st : List Value} {Q : Option Value × jW → Prop} {ls : jL} {w : jW} {a b : Int64} : Wp d 67 14 ls (.long b :: .long a :: st) w Q = Wp d 67 15 ls (.long (a &&& b) :: st) w Q := Wp.alu e67_14 rfl rfl
theorem e67_15 : decode (j_co 67) 15 = .ok (.lload_n 0, 1) := by decide +kernel
set_option maxRecDepth 20000 in
theorem w67_15 {d : Nat} {st : List Value} {Q : Option Value × jW → Prop} {w : jW} {a1 : Option Value} {x : Int64} : Wp d 67 15 [some (.long x), a1] (st) w Q = Wp d 67 16 [some (.long x), a1] (.long x :: st) w Q := Wp.loc e67_15 rfl rfl rfl
theorem e67_16 : decode (j_co 67) 16 = .ok (.iconst 2, 1) := by decide +kernel
set_option maxRecDepth 20000 in
theorem w67_16 {d : Nat} {st : List Value} {Q : Option Value × jW → Prop} {ls : jL} {w : jW} : Wp d 67 16 ls (st) w Q = Wp d 67 17 ls (.int (nI 2) :: st) w Q := Wp.alu e67_16 rfl rfl
theorem e67_17 : decode (j_co 67) 17 = .ok (.lushr, 1) := by decide +kernel
set_option maxRecDepth 20000 in
theorem w67_17 {d : Nat} {st : List Value} {Q : Option Value × jW → Prop} {ls : jL} {w : jW} {a : Int64} {b : Int32} : Wp d 67 17 ls (.int b :: .long a :: st) w Q = Wp d 67 18 ls (.long (a.toUInt64 >>> (b.toInt64.toUInt64 &&& Int64.toUInt64 63)).toInt64 :: st) w Q := Wp.alu e67_17 rfl rfl
theorem e67_18 : decode (j_co 67) 18 = .ok (.ldc2_w 316, 3) := by decide +kernel
set_option maxRecDepth 20000 in
theorem w67_18 {d : Nat} {st : List Value} {Q : Option Value × jW → Prop} {ls : jL} {w : jW} : Wp d 67 18 ls (st) w Q = Wp d 67 21 ls (.long (lN 3689348814741910323) :: st) w Q := Wp.ldc2 e67_18 rfl
theorem e67_21 : decode (j_co 67) 21 = .ok (.land, 1) := by decide +kernel
set_option maxRecDepth 20000 in
theorem w67_21 {d : Nat} {st : List Value} {Q : Option Value × jW → Prop} {ls : jL} {w : jW} {a b : Int64} : Wp d 67 21 ls (.long b :: .long a :: st) w Q = Wp d 67 22 ls (.long (a &&& b) :: st) w Q := Wp.alu e67_21 rfl rfl
theorem e67_22 : decode (j_co 67) 22 = .ok (.ladd, 1) := by decide +kernel
set_option maxRecDepth 20000 in
theorem w67_22 {d : Nat} {st : List Value} {Q : Option Value × jW → Prop} {ls : jL} {w : jW} {a b : Int64} : Wp d 67 22 ls (.long b :: .long a :: st) w Q = Wp d 67 23 ls (.long (a + b) :: st) w Q := Wp.alu e67_22 rfl rfl
theorem e67_23 : decode (j_co 67) 23 = .ok (.lstore_n 0, 1) := by decide +kernel
set_option maxRecDepth 20000 in
theorem w67_23 {d : Nat} {st : List Value} {Q : Option Value × jW → Prop} {w : jW} {a0 a1 : Option Value} {x : Int64} : Wp d 67 23 [a0, a1] (.long x :: st) w Q = Wp d 67 24 [some (.long x), none] (st) w Q := Wp.loc e67_23 rfl rfl (v_stL (ls := [a0, a1]) (k := 0) (show 1 < 2 by decide) rfl)
theorem e67_24 : decode (j_co 67) 24 = .ok (.lload_n 0, 1) := by decide +kernel
set_option maxRecDepth 20000 in
theorem w67_24 {d : Nat} {st : List Value} {Q : Option Value × jW → Prop} {w : jW} {a1 : Option Value} {x : Int64} : Wp d 67 24 [some (.long x), a1] (st) w Q = Wp d 67 25 [some (.long x), a1] (.long x :: st) w Q := Wp.loc e67_24 rfl rfl rfl
theorem e67_25 : decode (j_co 67) 25 = .ok (.lload_n 0, 1) := by decide +kernel
set_option maxRecDepth 20000 in
theorem w67_25 {d : Nat} {st : List Value} {Q : Option Value × jW → Prop} {w : jW} {a1 : Option Value} {x : Int64} : Wp d 67 25 [some (.long x), a1] (st) w Q = Wp d 67 26 [some (.long x), a1] (.long x :: st) w Q := Wp.loc e67_25 rfl rfl rfl
theorem e67_26 : decode (j_co 67) 26 = .ok (.iconst 4, 1) := by decide +kernel
set_option maxRecDepth 20000 in
theorem w67_26 {d : Nat} {st : List Value} {Q : Option Value × jW → Prop} {ls : jL} {w : jW} : Wp d 67 26 ls (st) w Q = Wp d 67 27 ls (.int (nI 4) :: st) w Q := Wp.alu e67_26 rfl rfl
theorem e67_27 : decode (j_co 67) 27 = .ok (.lushr, 1) := by decide +kernel
set_option maxRecDepth 20000 in
theorem w67_27 {d : Nat} {st : List Value} {Q : Option Value × jW → Prop} {ls : jL} {w : jW} {a : Int64} {b : Int32} : Wp d 67 27 ls (.int b :: .long a :: st) w Q = Wp d 67 28 ls (.long (a.toUInt64 >>> (b.toInt64.toUInt64 &&& Int64.toUInt64 63)).toInt64 :: st) w Q := Wp.alu e67_27 rfl rfl
theorem e67_28 : decode (j_co 67) 28 = .ok (.ladd, 1) := by decide +kernel
set_option maxRecDepth 20000 in
theorem w67_28 {d : Nat} {st : List Value} {Q : Option Value × jW → Prop} {ls : jL} {w : jW} {a b : Int64} : Wp d 67 28 ls (.long b :: .long a :: st) w Q = Wp d 67 29 ls (.long (a + b) :: st) w Q := Wp.alu e67_28 rfl rfl
theorem e67_29 : decode (j_co 67) 29 = .ok (.ldc2_w 318, 3) := by decide +kernel
set_option maxRecDepth 20000 in
theorem w67_29 {d : Nat} {st : List Value} {Q : Option Value × jW → Prop} {ls : jL} {w : jW} : Wp d 67 29 ls (st) w Q = Wp d 67 32 ls (.long (lN 1085102592571150095) :: st) w Q := Wp.ldc2 e67_29 rfl
theorem e67_32 : decode (j_co 67) 32 = .ok (.land, 1) := by decide +kernel
set_option maxRecDepth 20000 in
theorem w67_32 {d : Nat} {st : List Value} {Q : Option Value × jW → Prop} {ls : jL} {w : jW} {a b : Int64} : Wp d 67 32 ls (.long b :: .long a :: st) w Q = Wp d 67 33 ls (.long (a &&& b) :: st) w Q := Wp.alu e67_32 rfl rfl
theorem e67_33 : decode (j_co 67) 33 = .ok (.lstore_n 0, 1) := by decide +kernel
set_option maxRecDepth 20000 in
theorem w67_33 {d : Nat} {st : List Value} {Q : Option Value × jW → Prop} {w : jW} {a0 a1 : Option Value} {x : Int64} : Wp d 67 33 [a0, a1] (.long x :: st) w Q = Wp d 67 34 [some (.long x), none] (st) w Q := Wp.loc e67_33 rfl rfl (v_stL (ls := [a0, a1]) (k := 0) (show 1 < 2 by decide) rfl)
theorem e67_34 : decode (j_co 67) 34 = .ok (.lload_n 0, 1) := by decide +kernel
set_option maxRecDepth 20000 in
theorem w67_34 {d : Nat} {st : List Value} {Q : Option Value × jW → Prop} {w : jW} {a1 : Option Value} {x : Int64} : Wp d 67 34 [some (.long x), a1] (st) w Q = Wp d 67 35 [some (.long x), a1] (.long x :: st) w Q := Wp.loc e67_34 rfl rfl rfl
theorem e67_35 : decode (j_co 67) 35 = .ok (.lload_n 0, 1) := by decide +kernel
set_option maxRecDepth 20000 in
theorem w67_35 {d : Nat} {st : List Value} {Q : Option Value × jW → Prop} {w : jW} {a1 : Option Value} {x : Int64} : Wp d 67 35 [some (.long x), a1] (st) w Q = Wp d 67 36 [some (.long x), a1] (.long x :: st) w Q := Wp.loc e67_35 rfl rfl rfl
theorem e67_36 : decode (j_co 67) 36 = .ok (.bipush 8, 2) := by decide +kernel
set_option maxRecDepth 20000 in
theorem w67_36 {d : Nat} {st : List Value} {Q : Option Value × jW → Prop} {ls : jL} {w : jW} : Wp d 67 36 ls (st) w Q = Wp d 67 38 ls (.int (nI 8) :: st) w Q := Wp.alu e67_36 rfl rfl
theorem e67_38 : decode (j_co 67) 38 = .ok (.lushr, 1) := by decide +kernel
set_option maxRecDepth 20000 in
theorem w67_38 {d : Nat} {st : List Value} {Q : Option Value × jW → Prop} {ls : jL} {w : jW} {a : Int64} {b : Int32} : Wp d 67 38 ls (.int b :: .long a :: st) w Q = Wp d 67 39 ls (.long (a.toUInt64 >>> (b.toInt64.toUInt64 &&& Int64.toUInt64 63)).toInt64 :: st) w Q := Wp.alu e67_38 rfl rfl
theorem e67_39 : decode (j_co 67) 39 = .ok (.ladd, 1) := by decide +kernel
set_option maxRecDepth 20000 in
theorem w67_39 {d : Nat} {st : List Value} {Q : Option Value × jW → Prop} {ls : jL} {w : jW} {a b : Int64} : Wp d 67 39 ls (.long b :: .long a :: st) w Q = Wp d 67 40 ls (.long (a + b) :: st) w Q := Wp.alu e67_39 rfl rfl
theorem e67_40 : decode (j_co 67) 40 = .ok (.lstore_n 0, 1) := by decide +kernel
set_option maxRecDepth 20000 in
theorem w67_40 {d : Nat} {st : List Value} {Q : Option Value × jW → Prop} {w : jW} {a0 a1 : Option Value} {x : Int64} : Wp d 67 40 [a0, a1] (.long x :: st) w Q = Wp d 67 41 [some (.long x), none] (st) w Q := Wp.loc e67_40 rfl rfl (v_stL (ls := [a0, a1]) (k := 0) (show 1 < 2 by decide) rfl)
theorem e67_41 : decode (j_co 67) 41 = .ok (.lload_n 0, 1) := by decide +kernel
set_option maxRecDepth 20000 in
theorem w67_41 {d : Nat} {st : List Value} {Q : Option Value × jW → Prop} {w : jW} {a1 : Option Value} {x : Int64} : Wp d 67 41 [some (.long x), a1] (st) w Q = Wp d 67 42 [some (.long x), a1] (.long x :: st) w Q := Wp.loc e67_41 rfl rfl rfl
theorem e67_42 : decode (j_co 67) 42 = .ok (.lload_n 0, 1) := by decide +kernel
set_option maxRecDepth 20000 in
theorem w67_42 {d : Nat} {st : List Value} {Q : Option Value × jW → Prop} {w : jW} {a1 : Option Value} {x : Int64} : Wp d 67 42 [some (.long x), a1] (st) w Q = Wp d 67 43 [some (.long x), a1] (.long x :: st) w Q := Wp.loc e67_42 rfl rfl rfl
theorem e67_43 : decode (j_co 67) 43 = .ok (.bipush 16, 2) := by decide +kernel
set_option maxRecDepth 20000 in
theorem w67_43 {d : Nat} {st : List Value} {Q : Option Value × jW → Prop} {ls : jL} {w : jW} : Wp d 67 43 ls (st) w Q = Wp d 67 45 ls (.int (nI 16) :: st) w Q := Wp.alu e67_43 rfl rfl
theorem e67_45 : decode (j_co 67) 45 = .ok (.lushr, 1) := by decide +kernel
set_option maxRecDepth 20000 in
theorem w67_45 {d : Nat} {st : List Value} {Q : Option Value × jW → Prop} {ls : jL} {w : jW} {a : Int64} {b : Int32} : Wp d 67 45 ls (.int b :: .long a :: st) w Q = Wp d 67 46 ls (.long (a.toUInt64 >>> (b.toInt64.toUInt64 &&& Int64.toUInt64 63)).toInt64 :: st) w Q := Wp.alu e67_45 rfl rfl
theorem e67_46 : decode (j_co 67) 46 = .ok (.ladd, 1) := by decide +kernel
set_option maxRecDepth 20000 in
theorem w67_46 {d : Nat} {st : List Value} {Q : Option Value × jW → Prop} {ls : jL} {w : jW} {a b : Int64} : Wp d 67 46 ls (.long b :: .long a :: st) w Q = Wp d 67 47 ls (.long (a + b) :: st) w Q := Wp.alu e67_46 rfl rfl
theorem e67_47 : decode (j_co 67) 47 = .ok (.lstore_n 0, 1) := by decide +kernel
set_option maxRecDepth 20000 in
theorem w67_47 {d : Nat} {st : List Value} {Q : Option Value × jW → Prop} {w : jW} {a0 a1 : Option Value} {x : Int64} : Wp d 67 47 [a0, a1] (.long x :: st) w Q = Wp d 67 48 [some (.long x), none] (st) w Q := Wp.loc e67_47 rfl rfl (v_stL (ls := [a0, a1]) (k := 0) (show 1 < 2 by decide) rfl)
theorem e67_48 : decode (j_co 67) 48 = .ok (.lload_n 0, 1) := by decide +kernel
set_option maxRecDepth 20000 in
theorem w67_48 {d : Nat} {st : List Value} {Q : Option Value × jW → Prop} {w : jW} {a1 : Option Value} {x : Int64} : Wp d 67 48 [some (.long x), a1] (st) w Q = Wp d 67 49 [some (.long x), a1] (.long x :: st) w Q := Wp.loc e67_48 rfl rfl rfl
theorem e67_49 : decode (j_co 67) 49 = .ok (.lload_n 0, 1) := by decide +kernel
set_option maxRecDepth 20000 in
theorem w67_49 {d : Nat} {st : List Value} {Q : Option Value × jW → Prop} {w : jW} {a1 : Option Value} {x : Int64} : Wp d 67 49 [some (.long x), a1] (st) w Q = Wp d 67 50 [some (.long x), a1] (.long x :: st) w Q := Wp.loc e67_49 rfl rfl rfl
theorem e67_50 : decode (j_co 67) 50 = .ok (.bipush 32, 2) := by decide +kernel
set_option maxRecDepth 20000 in
theorem w67_50 {d : Nat} {st : List Value} {Q : Option Value × jW → Prop} {ls : jL} {w : jW} : Wp d 67 50 ls (st) w Q = Wp d 67 52 ls (.int (nI 32) :: st) w Q := Wp.alu e67_50 rfl rfl
theorem e67_52 : decode (j_co 67) 52 = .ok (.lushr, 1) := by decide +kernel
set_option maxRecDepth 20000 in
theorem w67_52 {d : Nat} {st : List Value} {Q : Option Value × jW → Prop} {ls : jL} {w : jW} {a : Int64} {b : Int32} : Wp d 67 52 ls (.int b :: .long a :: st) w Q = Wp d 67 53 ls (.long (a.toUInt64 >>> (b.toInt64.toUInt64 &&& Int64.toUInt64 63)).toInt64 :: st) w Q := Wp.alu e67_52 rfl rfl
theorem e67_53 : decode (j_co 67) 53 = .ok (.ladd, 1) := by decide +kernel
set_option maxRecDepth 20000 in
theorem w67_53 {d : Nat} {st : List Value} {Q : Option Value × jW → Prop} {ls : jL} {w : jW} {a b : Int64} : Wp d 67 53 ls (.long b :: .long a :: st) w Q = Wp d 67 54 ls (.long (a + b) :: st) w Q := Wp.alu e67_53 rfl rfl
theorem e67_54 : decode (j_co 67) 54 = .ok (.lstore_n 0, 1) := by decide +kernel
set_option maxRecDepth 20000 in
theorem w67_54 {d : Nat} {st : List Value} {Q : Option Value × jW → Prop} {w : jW} {a0 a1 : Option Value} {x : Int64} : Wp d 67 54 [a0, a1] (.long x :: st) w Q = Wp d 67 55 [some (.long x), none] (st) w Q := Wp.loc e67_54 rfl rfl (v_stL (ls := [a0, a1]) (k := 0) (show 1 < 2 by decide) rfl)
theorem e67_55 : decode (j_co 67) 55 = .ok (.lload_n 0, 1) := by decide +kernel
set_option maxRecDepth 20000 in
theorem w67_55 {d : Nat} {st : List Value} {Q : Option Value × jW → Prop} {w : jW} {a1 : Option Value} {x : Int64} : Wp d 67 55 [some (.long x), a1] (st) w Q = Wp d 67 56 [some (.long x), a1] (.long x :: st) w Q := Wp.loc e67_55 rfl rfl rfl
theorem e67_56 : decode (j_co 67) 56 = .ok (.l2i, 1) := by decide +kernel
set_option maxRecDepth 20000 in
theorem w67_56 {d : Nat} {st : List Value} {Q : Option Value × jW → Prop} {ls : jL} {w : jW} {a : Int64} : Wp d 67 56 ls (.long a :: st) w Q = Wp d 67 57 ls (.int a.toInt32 :: st) w Q := Wp.alu e67_56 rfl rfl
theorem e67_57 : decode (j_co 67) 57 = .ok (.bipush 127, 2) := by decide +kernel
set_option maxRecDepth 20000 in
theorem w67_57 {d : Nat} {st : List Value} {Q : Option Value × jW → Prop} {ls : jL} {w : jW} : Wp d 67 57 ls (st) w Q = Wp d 67 59 ls (.int (nI 127) :: st) w Q := Wp.alu e67_57 rfl rfl
theorem e67_59 : decode (j_co 67) 59 = .ok (.iand, 1) := by decide +kernel
set_option maxRecDepth 20000 in
theorem w67_59 {d : Nat} {st : List Value} {Q : Option Value × jW → Prop} {ls : jL} {w : jW} {a b : Int32} : Wp d 67 59 ls (.int b :: .int a :: st) w Q = Wp d 67 60 ls (.int (a &&& b) :: st) w Q := Wp.alu e67_59 rfl rfl
theorem e67_60 : decode (j_co 67) 60 = .ok (.ireturn, 1) := by decide +kernel
set_option maxRecDepth 20000 in
theorem w67_60 {d : Nat} {Q : Option Value × jW → Prop} {ls : jL} {w : jW} {x : Int32} : Wp d 67 60 ls [.int x] w Q = Q (some (.int x), w) := Wp.ret e67_60 rfl
/-! Trail.trace -/
theorem e69_0 : decode (j_co 69) 0 = .ok (.aload_n 0, 1) := by decide +kernel
set_option maxRecDepth 20000 in
theorem w69_0 {d : Nat} {st : List Value} {Q : Option Value × jW → Prop} {w : jW} {a1 a2 a3 a4 : Option Value} {x : Nat} : Wp d 69 0 [some (.ref x), a1, a2, a3, a4] (st) w Q = Wp d 69 1 [some (.ref x), a1, a2, a3, a4] (.ref x :: st) w Q := Wp.loc e69_0 rfl rfl rfl
theorem e69_1 : decode (j_co 69) 1 = .ok (.getfield 22, 3) := by decide +kernel
set_option maxRecDepth 20000 in
theorem w69_1 {d : Nat} {st : List Value} {Q : Option Value × jW → Prop} {ls : jL} {xs : List Value} {I : fI} {L : fL} {o : Nat} (ht : f_tg o = 9) : Wp d 69 1 ls (.ref o :: st) (f_W xs I L) Q = Wp d 69 4 ls (.ref (f_rf o 1) :: st) (f_W xs I L) Q := Wp.getR (ci := 9) (k := 1) e69_1 rfl (by decide) (by decide) rfl ht
theorem e69_4 : decode (j_co 69) 4 = .ok (.invokevirtual 26, 3) := by decide +kernel
set_option maxRecDepth 20000 in
theorem w69_4 {d : Nat} {st : List Value} {Q : Option Value × jW → Prop} {ls : jL} {xs : List Value} {I : fI} {L : fL} {r : Nat} (hs : j_sumc st ≤ 8) (ht : f_tg r = 7) : Wp (d + 1) 69 4 ls (.ref r :: st) (f_W xs I L) Q = Wp d 70 0 [some (.ref r), none] [] (f_W xs I L) (fun r1 => Wp (d + 1) 69 7 ls (r1.1.toList ++ st) r1.2 Q) := Wp.cv (y' := 70) (as := []) e69_4 rfl (by decide) rfl (show 1 ≤ 2 by decide) (by decide) hs ht
theorem e69_7 : decode (j_co 69) 7 = .ok (.istore_n 1, 1) := by decide +kernel
set_option maxRecDepth 20000 in
theorem w69_7 {d : Nat} {st : List Value} {Q : Option Value × jW → Prop} {w : jW} {a0 a1 a2 a3 a4 : Option Value} {x : Int32} (h : j_cp a0) : Wp d 69 7 [a0, a1, a2, a3, a4] (.int x :: st) w Q = Wp d 69 8 [a0, some (.int x), a2, a3, a4] (st) w Q := Wp.loc e69_7 rfl rfl (v_stI (ls := [a0, a1, a2, a3, a4]) (k := 1) (show 1 < 5 by decide) h)
theorem e69_8 : decode (j_co 69) 8 = .ok (.iload_n 1, 1) := by decide +kernel
set_option maxRecDepth 20000 in
theorem w69_8 {d : Nat} {st : List Value} {Q : Option Value × jW → Prop} {w : jW} {a0 a2 a3 a4 : Option Value} {x : Int32} : Wp d 69 8 [a0, some (.int x), a2, a3, a4] (st) w Q = Wp d 69 9 [a0, some (.int x), a2, a3, a4] (.int x :: st) w Q := Wp.loc e69_8 rfl rfl rfl
theorem e69_9 : decode (j_co 69) 9 = .ok (.bipush (-4), 2) := by decide +kernel
set_option maxRecDepth 20000 in
theorem w69_9 {d : Nat} {st : List Value} {Q : Option Value × jW → Prop} {ls : jL} {w : jW} : Wp d 69 9 ls (st) w Q = Wp d 69 11 ls (.int (-4) :: st) w Q := Wp.alu e69_9 rfl rfl
theorem e69_11 : decode (j_co 69) 11 = .ok (.if_icmp .ne 5, 3) := by decide +kernel
set_option maxRecDepth 20000 in
theorem w69_11 {d : Nat} {st : List Value} {Q : Option Value × jW → Prop} {ls : jL} {w : jW} {a b : Int32} : Wp d 69 11 ls (.int b :: .int a :: st) w Q = ((a = b → Wp d 69 14 ls st w Q) ∧ (¬ a = b → Wp d 69 16 ls st w Q)) := Wp.if2n (c := a = b) (off := 5) e69_11 rfl rfl rfl rfl rfl
theorem e69_14 : decode (j_co 69) 14 = .ok (.iconst 0, 1) := by decide +kernel
set_option maxRecDepth 20000 in
theorem w69_14 {d : Nat} {st : List Value} {Q : Option Value × jW → Prop} {ls : jL} {w : jW} : Wp d 69 14 ls (st) w Q = Wp d 69 15 ls (.int (nI 0) :: st) w Q := Wp.alu e69_14 rfl rfl
theorem e69_15 : decode (j_co 69) 15 = .ok (.ireturn, 1) := by decide +kernel
set_option maxRecDepth 20000 in
theorem w69_15 {d : Nat} {Q : Option Value × jW → Prop} {ls : jL} {w : jW} {x : Int32} (hx : x = 0 ∨ x = 1) : Wp d 69 15 ls [.int x] w Q = Q (some (.int x), w) := Wp.ret e69_15 (by rcases hx with rfl | rfl <;> rfl)
theorem e69_16 : decode (j_co 69) 16 = .ok (.aload_n 0, 1) := by decide +kernel
set_option maxRecDepth 20000 in
theorem w69_16 {d : Nat} {st : List Value} {Q : Option Value × jW → Prop} {w : jW} {a1 a2 a3 a4 : Option Value} {x : Nat} : Wp d 69 16 [some (.ref x), a1, a2, a3, a4] (st) w Q = Wp d 69 17 [some (.ref x), a1, a2, a3, a4] (.ref x :: st) w Q := Wp.loc e69_16 rfl rfl rfl
theorem e69_17 : decode (j_co 69) 17 = .ok (.iload_n 1, 1) := by decide +kernel
set_option maxRecDepth 20000 in
theorem w69_17 {d : Nat} {st : List Value} {Q : Option Value × jW → Prop} {w : jW} {a0 a2 a3 a4 : Option Value} {x : Int32} : Wp d 69 17 [a0, some (.int x), a2, a3, a4] (st) w Q = Wp d 69 18 [a0, some (.int x), a2, a3, a4] (.int x :: st) w Q := Wp.loc e69_17 rfl rfl rfl
theorem e69_18 : decode (j_co 69) 18 = .ok (.invokevirtual 32, 3) := by decide +kernel
set_option maxRecDepth 20000 in
theorem w69_18 {d : Nat} {st : List Value} {Q : Option Value × jW → Prop} {ls : jL} {xs : List Value} {I : fI} {L : fL} {r : Nat} {x0 : Int32} (hs : j_sumc st ≤ 8) (ht : f_tg r = 9) : Wp (d + 1) 69 18 ls (.int x0 :: .ref r :: st) (f_W xs I L) Q = Wp d 71 0 [some (.ref r), some (.int x0), none] [] (f_W xs I L) (fun r1 => Wp (d + 1) 69 21 ls (r1.1.toList ++ st) r1.2 Q) := Wp.cv (y' := 71) (as := [.int x0]) e69_18 rfl (by decide) rfl (show 2 ≤ 3 by decide) (by decide) hs ht
theorem e69_21 : decode (j_co 69) 21 = .ok (.iconst 0, 1) := by decide +kernel
set_option maxRecDepth 20000 in
theorem w69_21 {d : Nat} {st : List Value} {Q : Option Value × jW → Prop} {ls : jL} {w : jW} : Wp d 69 21 ls (st) w Q = Wp d 69 22 ls (.int (nI 0) :: st) w Q := Wp.alu e69_21 rfl rfl
theorem e69_22 : decode (j_co 69) 22 = .ok (.istore_n 2, 1) := by decide +kernel
set_option maxRecDepth 20000 in
theorem w69_22 {d : Nat} {st : List Value} {Q : Option Value × jW → Prop} {w : jW} {a0 a1 a2 a3 a4 : Option Value} {x : Int32} (h : j_cp a1) : Wp d 69 22 [a0, a1, a2, a3, a4] (.int x :: st) w Q = Wp d 69 23 [a0, a1, some (.int x), a3, a4] (st) w Q := Wp.loc e69_22 rfl rfl (v_stI (ls := [a0, a1, a2, a3, a4]) (k := 2) (show 2 < 5 by decide) h)
theorem e69_23 : decode (j_co 69) 23 = .ok (.iload_n 2, 1) := by decide +kernel
set_option maxRecDepth 20000 in
theorem w69_23 {d : Nat} {st : List Value} {Q : Option Value × jW → Prop} {w : jW} {a0 a1 a3 a4 : Option Value} {x : Int32} : Wp d 69 23 [a0, a1, some (.int x), a3, a4] (st) w Q = Wp d 69 24 [a0, a1, some (.int x), a3, a4] (.int x :: st) w Q := Wp.loc e69_23 rfl rfl rfl
theorem e69_24 : decode (j_co 69) 24 = .ok (.iconst 3, 1) := by decide +kernel
set_option maxRecDepth 20000 in
theorem w69_24 {d : Nat} {st : List Value} {Q : Option Value × jW → Prop} {ls : jL} {w : jW} : Wp d 69 24 ls (st) w Q = Wp d 69 25 ls (.int (nI 3) :: st) w Q := Wp.alu e69_24 rfl rfl
theorem e69_25 : decode (j_co 69) 25 = .ok (.if_icmp .ge 87, 3) := by decide +kernel
set_option maxRecDepth 20000 in
theorem w69_25 {d : Nat} {st : List Value} {Q : Option Value × jW → Prop} {ls : jL} {w : jW} {a b : Int32} : Wp d 69 25 ls (.int b :: .int a :: st) w Q = ((b ≤ a → Wp d 69 112 ls st w Q) ∧ (¬ b ≤ a → Wp d 69 28 ls st w Q)) := Wp.if2 (c := b ≤ a) (off := 87) e69_25 rfl rfl rfl rfl rfl
theorem e69_28 : decode (j_co 69) 28 = .ok (.aload_n 0, 1) := by decide +kernel
set_option maxRecDepth 20000 in
theorem w69_28 {d : Nat} {st : List Value} {Q : Option Value × jW → Prop} {w : jW} {a1 a2 a3 a4 : Option Value} {x : Nat} : Wp d 69 28 [some (.ref x), a1, a2, a3, a4] (st) w Q = Wp d 69 29 [some (.ref x), a1, a2, a3, a4] (.ref x :: st) w Q := Wp.loc e69_28 rfl rfl rfl
theorem e69_29 : decode (j_co 69) 29 = .ok (.getfield 22, 3) := by decide +kernel
set_option maxRecDepth 20000 in
theorem w69_29 {d : Nat} {st : List Value} {Q : Option Value × jW → Prop} {ls : jL} {xs : List Value} {I : fI} {L : fL} {o : Nat} (ht : f_tg o = 9) : Wp d 69 29 ls (.ref o :: st) (f_W xs I L) Q = Wp d 69 32 ls (.ref (f_rf o 1) :: st) (f_W xs I L) Q := Wp.getR (ci := 9) (k := 1) e69_29 rfl (by decide) (by decide) rfl ht
theorem e69_32 : decode (j_co 69) 32 = .ok (.iload_n 1, 1) := by decide +kernel
set_option maxRecDepth 20000 in
theorem w69_32 {d : Nat} {st : List Value} {Q : Option Value × jW → Prop} {w : jW} {a0 a2 a3 a4 : Option Value} {x : Int32} : Wp d 69 32 [a0, some (.int x), a2, a3, a4] (st) w Q = Wp d 69 33 [a0, some (.int x), a2, a3, a4] (.int x :: st) w Q := Wp.loc e69_32 rfl rfl rfl
theorem e69_33 : decode (j_co 69) 33 = .ok (.invokevirtual 36, 3) := by decide +kernel
set_option maxRecDepth 20000 in
theorem w69_33 {d : Nat} {st : List Value} {Q : Option Value × jW → Prop} {ls : jL} {xs : List Value} {I : fI} {L : fL} {r : Nat} {x0 : Int32} (hs : j_sumc st ≤ 8) (ht : f_tg r = 7) : Wp (d + 1) 69 33 ls (.int x0 :: .ref r :: st) (f_W xs I L) Q = Wp d 170 0 [some (.ref r), some (.int x0)] [] (f_W xs I L) (fun r1 => Wp (d + 1) 69 36 ls (r1.1.toList ++ st) r1.2 Q) := Wp.cv (y' := 170) (as := [.int x0]) e69_33 rfl (by decide) rfl (show 2 ≤ 2 by decide) (by decide) hs ht
theorem e69_36 : decode (j_co 69) 36 = .ok (.getfield 40, 3) := by decide +kernel
set_option maxRecDepth 20000 in
theorem w69_36 {d : Nat} {st : List Value} {Q : Option Value × jW → Prop} {ls : jL} {xs : List Value} {I : fI} {L : fL} {o : Nat} (ht : f_tg o = 3) : Wp d 69 36 ls (.ref o :: st) (f_W xs I L) Q = Wp d 69 39 ls (.ref (f_rf o 0) :: st) (f_W xs I L) Q := Wp.getR (ci := 3) (k := 0) e69_36 rfl (by decide) (by decide) rfl ht
theorem e69_39 : decode (j_co 69) 39 = .ok (.iload_n 2, 1) := by decide +kernel
set_option maxRecDepth 20000 in
theorem w69_39 {d : Nat} {st : List Value} {Q : Option Value × jW → Prop} {w : jW} {a0 a1 a3 a4 : Option Value} {x : Int32} : Wp d 69 39 [a0, a1, some (.int x), a3, a4] (st) w Q = Wp d 69 40 [a0, a1, some (.int x), a3, a4] (.int x :: st) w Q := Wp.loc e69_39 rfl rfl rfl
theorem e69_40 : decode (j_co 69) 40 = .ok (.invokevirtual 46, 3) := by decide +kernel
set_option maxRecDepth 20000 in
theorem w69_40 {d : Nat} {st : List Value} {Q : Option Value × jW → Prop} {ls : jL} {xs : List Value} {I : fI} {L : fL} {r : Nat} {x0 : Int32} (hs : j_sumc st ≤ 8) (ht : f_tg r = 0) : Wp (d + 1) 69 40 ls (.int x0 :: .ref r :: st) (f_W xs I L) Q = Wp d 33 0 [some (.ref r), some (.int x0)] [] (f_W xs I L) (fun r1 => Wp (d + 1) 69 43 ls (r1.1.toList ++ st) r1.2 Q) := Wp.cv (y' := 33) (as := [.int x0]) e69_40 rfl (by decide) rfl (show 2 ≤ 2 by decide) (by decide) hs ht
theorem e69_43 : decode (j_co 69) 43 = .ok (.aload_n 0, 1) := by decide +kernel
set_option maxRecDepth 20000 in
theorem w69_43 {d : Nat} {st : List Value} {Q : Option Value × jW → Prop} {w : jW} {a1 a2 a3 a4 : Option Value} {x : Nat} : Wp d 69 43 [some (.ref x), a1, a2, a3, a4] (st) w Q = Wp d 69 44 [some (.ref x), a1, a2, a3, a4] (.ref x :: st) w Q := Wp.loc e69_43 rfl rfl rfl
theorem e69_44 : decode (j_co 69) 44 = .ok (.getfield 18, 3) := by decide +kernel
set_option maxRecDepth 20000 in
theorem w69_44 {d : Nat} {st : List Value} {Q : Option Value × jW → Prop} {ls : jL} {xs : List Value} {I : fI} {L : fL} {o : Nat} (ht : f_tg o = 9) : Wp d 69 44 ls (.ref o :: st) (f_W xs I L) Q = Wp d 69 47 ls (.ref (f_rf o 0) :: st) (f_W xs I L) Q := Wp.getR (ci := 9) (k := 0) e69_44 rfl (by decide) (by decide) rfl ht
theorem e69_47 : decode (j_co 69) 47 = .ok (.getfield 52, 3) := by decide +kernel
set_option maxRecDepth 20000 in
theorem w69_47 {d : Nat} {st : List Value} {Q : Option Value × jW → Prop} {ls : jL} {xs : List Value} {I : fI} {L : fL} {o : Nat} (ht : f_tg o = 5) : Wp d 69 47 ls (.ref o :: st) (f_W xs I L) Q = Wp d 69 50 ls (.ref (f_rf o 3) :: st) (f_W xs I L) Q := Wp.getR (ci := 5) (k := 3) e69_47 rfl (by decide) (by decide) rfl ht
theorem e69_50 : decode (j_co 69) 50 = .ok (.iload_n 2, 1) := by decide +kernel
set_option maxRecDepth 20000 in
theorem w69_50 {d : Nat} {st : List Value} {Q : Option Value × jW → Prop} {w : jW} {a0 a1 a3 a4 : Option Value} {x : Int32} : Wp d 69 50 [a0, a1, some (.int x), a3, a4] (st) w Q = Wp d 69 51 [a0, a1, some (.int x), a3, a4] (.int x :: st) w Q := Wp.loc e69_50 rfl rfl rfl
theorem e69_51 : decode (j_co 69) 51 = .ok (.invokevirtual 46, 3) := by decide +kernel
set_option maxRecDepth 20000 in
theorem w69_51 {d : Nat} {st : List Value} {Q : Option Value × jW → Prop} {ls : jL} {xs : List Value} {I : fI} {L : fL} {r : Nat} {x0 : Int32} (hs : j_sumc st ≤ 8) (ht : f_tg r = 0) : Wp (d + 1) 69 51 ls (.int x0 :: .ref r :: st) (f_W xs I L) Q = Wp d 33 0 [some (.ref r), some (.int x0)] [] (f_W xs I L) (fun r1 => Wp (d + 1) 69 54 ls (r1.1.toList ++ st) r1.2 Q) := Wp.cv (y' := 33) (as := [.int x0]) e69_51 rfl (by decide) rfl (show 2 ≤ 2 by decide) (by decide) hs ht
theorem e69_54 : decode (j_co 69) 54 = .ok (.invokestatic 57, 3) := by decide +kernel
set_option maxRecDepth 20000 in
theorem w69_54 {d : Nat} {st : List Value} {Q : Option Value × jW → Prop} {ls : jL} {w : jW} {a b : Int32} (hs : j_sumc st ≤ 8) : Wp (d + 1) 69 54 ls (.int b :: .int a :: st) w Q = Wp (d + 1) 69 57 ls (.int (if a < b then b else a) :: st) w Q := Wp.mx e69_54 rfl hs
theorem e69_57 : decode (j_co 69) 57 = .ok (.istore_n 3, 1) := by decide +kernel
set_option maxRecDepth 20000 in
theorem w69_57 {d : Nat} {st : List Value} {Q : Option Value × jW → Prop} {w : jW} {a0 a1 a2 a3 a4 : Option Value} {x : Int32} (h : j_cp a2) : Wp d 69 57 [a0, a1, a2, a3, a4] (.int x :: st) w Q = Wp d 69 58 [a0, a1, a2, some (.int x), a4] (st) w Q := Wp.loc e69_57 rfl rfl (v_stI (ls := [a0, a1, a2, a3, a4]) (k := 3) (show 3 < 5 by decide) h)
theorem e69_58 : decode (j_co 69) 58 = .ok (.aload_n 0, 1) := by decide +kernel
set_option maxRecDepth 20000 in
theorem w69_58 {d : Nat} {st : List Value} {Q : Option Value × jW → Prop} {w : jW} {a1 a2 a3 a4 : Option Value} {x : Nat} : Wp d 69 58 [some (.ref x), a1, a2, a3, a4] (st) w Q = Wp d 69 59 [some (.ref x), a1, a2, a3, a4] (.ref x :: st) w Q := Wp.loc e69_58 rfl rfl rfl
theorem e69_59 : decode (j_co 69) 59 = .ok (.aload_n 0, 1) := by decide +kernel
set_option maxRecDepth 20000 in
theorem w69_59 {d : Nat} {st : List Value} {Q : Option Value × jW → Prop} {w : jW} {a1 a2 a3 a4 : Option Value} {x : Nat} : Wp d 69 59 [some (.ref x), a1, a2, a3, a4] (st) w Q = Wp d 69 60 [some (.ref x), a1, a2, a3, a4] (.ref x :: st) w Q := Wp.loc e69_59 rfl rfl rfl
theorem e69_60 : decode (j_co 69) 60 = .ok (.getfield 63, 3) := by decide +kernel
set_option maxRecDepth 20000 in
theorem w69_60 {d : Nat} {st : List Value} {Q : Option Value × jW → Prop} {ls : jL} {xs : List Value} {I : fI} {L : fL} {o : Nat} (ht : f_tg o = 9) : Wp d 69 60 ls (.ref o :: st) (f_W xs I L) Q = Wp d 69 63 ls (.int (I o 4) :: st) (f_W xs I L) Q := Wp.getI (ci := 9) (k := 4) e69_60 rfl (by decide) (by decide) (by decide) ht
theorem e69_63 : decode (j_co 69) 63 = .ok (.iconst 1, 1) := by decide +kernel
set_option maxRecDepth 20000 in
theorem w69_63 {d : Nat} {st : List Value} {Q : Option Value × jW → Prop} {ls : jL} {w : jW} : Wp d 69 63 ls (st) w Q = Wp d 69 64 ls (.int (nI 1) :: st) w Q := Wp.alu e69_63 rfl rfl
theorem e69_64 : decode (j_co 69) 64 = .ok (.isub, 1) := by decide +kernel
set_option maxRecDepth 20000 in
theorem w69_64 {d : Nat} {st : List Value} {Q : Option Value × jW → Prop} {ls : jL} {w : jW} {a b : Int32} : Wp d 69 64 ls (.int b :: .int a :: st) w Q = Wp d 69 65 ls (.int (a - b) :: st) w Q := Wp.alu e69_64 rfl rfl
theorem e69_65 : decode (j_co 69) 65 = .ok (.iload_n 2, 1) := by decide +kernel
set_option maxRecDepth 20000 in
theorem w69_65 {d : Nat} {st : List Value} {Q : Option Value × jW → Prop} {w : jW} {a0 a1 a3 a4 : Option Value} {x : Int32} : Wp d 69 65 [a0, a1, some (.int x), a3, a4] (st) w Q = Wp d 69 66 [a0, a1, some (.int x), a3, a4] (.int x :: st) w Q := Wp.loc e69_65 rfl rfl rfl
theorem e69_66 : decode (j_co 69) 66 = .ok (.iload_n 3, 1) := by decide +kernel
set_option maxRecDepth 20000 in
theorem w69_66 {d : Nat} {st : List Value} {Q : Option Value × jW → Prop} {w : jW} {a0 a1 a2 a4 : Option Value} {x : Int32} : Wp d 69 66 [a0, a1, a2, some (.int x), a4] (st) w Q = Wp d 69 67 [a0, a1, a2, some (.int x), a4] (.int x :: st) w Q := Wp.loc e69_66 rfl rfl rfl
theorem e69_67 : decode (j_co 69) 67 = .ok (.invokevirtual 67, 3) := by decide +kernel
set_option maxRecDepth 20000 in
theorem w69_67 {d : Nat} {st : List Value} {Q : Option Value × jW → Prop} {ls : jL} {xs : List Value} {I : fI} {L : fL} {r : Nat} {x0 : Int32} {x1 : Int32} {x2 : Int32} (hs : j_sumc st ≤ 8) (ht : f_tg r = 9) : Wp (d + 1) 69 67 ls (.int x2 :: .int x1 :: .int x0 :: .ref r :: st) (f_W xs I L) Q = Wp d 72 0 [some (.ref r), some (.int x0), some (.int x1), some (.int x2)] [] (f_W xs I L) (fun r1 => Wp (d + 1) 69 70 ls (r1.1.toList ++ st) r1.2 Q) := Wp.cv (y' := 72) (as := [.int x0, .int x1, .int x2]) e69_67 rfl (by decide) rfl (show 4 ≤ 4 by decide) (by decide) hs ht
theorem e69_70 : decode (j_co 69) 70 = .ok (.aload_n 0, 1) := by decide +kernel
set_option maxRecDepth 20000 in
theorem w69_70 {d : Nat} {st : List Value} {Q : Option Value × jW → Prop} {w : jW} {a1 a2 a3 a4 : Option Value} {x : Nat} : Wp d 69 70 [some (.ref x), a1, a2, a3, a4] (st) w Q = Wp d 69 71 [some (.ref x), a1, a2, a3, a4] (.ref x :: st) w Q := Wp.loc e69_70 rfl rfl rfl
theorem e69_71 : decode (j_co 69) 71 = .ok (.getfield 63, 3) := by decide +kernel
set_option maxRecDepth 20000 in
theorem w69_71 {d : Nat} {st : List Value} {Q : Option Value × jW → Prop} {ls : jL} {xs : List Value} {I : fI} {L : fL} {o : Nat} (ht : f_tg o = 9) : Wp d 69 71 ls (.ref o :: st) (f_W xs I L) Q = Wp d 69 74 ls (.int (I o 4) :: st) (f_W xs I L) Q := Wp.getI (ci := 9) (k := 4) e69_71 rfl (by decide) (by decide) (by decide) ht
theorem e69_74 : decode (j_co 69) 74 = .ok (.iconst 2, 1) := by decide +kernel
set_option maxRecDepth 20000 in
theorem w69_74 {d : Nat} {st : List Value} {Q : Option Value × jW → Prop} {ls : jL} {w : jW} : Wp d 69 74 ls (st) w Q = Wp d 69 75 ls (.int (nI 2) :: st) w Q := Wp.alu e69_74 rfl rfl
theorem e69_75 : decode (j_co 69) 75 = .ok (.isub, 1) := by decide +kernel
set_option maxRecDepth 20000 in
theorem w69_75 {d : Nat} {st : List Value} {Q : Option Value × jW → Prop} {ls : jL} {w : jW} {a b : Int32} : Wp d 69 75 ls (.int b :: .int a :: st) w Q = Wp d 69 76 ls (.int (a - b) :: st) w Q := Wp.alu e69_75 rfl rfl
theorem e69_76 : decode (j_co 69) 76 = .ok (.istore 4, 2) := by decide +kernel
set_option maxRecDepth 20000 in
theorem w69_76 {d : Nat} {st : List Value} {Q : Option Value × jW → Prop} {w : jW} {a0 a1 a2 a3 a4 : Option Value} {x : Int32} (h : j_cp a3) : Wp d 69 76 [a0, a1, a2, a3, a4] (.int x :: st) w Q = Wp d 69 78 [a0, a1, a2, a3, some (.int x)] (st) w Q := Wp.loc e69_76 rfl rfl (v_stI (ls := [a0, a1, a2, a3, a4]) (k := 4) (show 4 < 5 by decide) h)
theorem e69_78 : decode (j_co 69) 78 = .ok (.iload 4, 2) := by decide +kernel
set_option maxRecDepth 20000 in
theorem w69_78 {d : Nat} {st : List Value} {Q : Option Value × jW → Prop} {w : jW} {a0 a1 a2 a3 : Option Value} {x : Int32} : Wp d 69 78 [a0, a1, a2, a3, some (.int x)] (st) w Q = Wp d 69 80 [a0, a1, a2, a3, some (.int x)] (.int x :: st) w Q := Wp.loc e69_78 rfl rfl rfl
theorem e69_80 : decode (j_co 69) 80 = .ok (.ifCond .lt 26, 3) := by decide +kernel
set_option maxRecDepth 20000 in
theorem w69_80 {d : Nat} {st : List Value} {Q : Option Value × jW → Prop} {ls : jL} {w : jW} {a : Int32} : Wp d 69 80 ls (.int a :: st) w Q = ((a < nI 0 → Wp d 69 106 ls st w Q) ∧ (¬ a < nI 0 → Wp d 69 83 ls st w Q)) := Wp.if2 (c := a < nI 0) (off := 26) e69_80 rfl rfl rfl rfl rfl
theorem e69_83 : decode (j_co 69) 83 = .ok (.aload_n 0, 1) := by decide +kernel
set_option maxRecDepth 20000 in
theorem w69_83 {d : Nat} {st : List Value} {Q : Option Value × jW → Prop} {w : jW} {a1 a2 a3 a4 : Option Value} {x : Nat} : Wp d 69 83 [some (.ref x), a1, a2, a3, a4] (st) w Q = Wp d 69 84 [some (.ref x), a1, a2, a3, a4] (.ref x :: st) w Q := Wp.loc e69_83 rfl rfl rfl
theorem e69_84 : decode (j_co 69) 84 = .ok (.iload 4, 2) := by decide +kernel
set_option maxRecDepth 20000 in
theorem w69_84 {d : Nat} {st : List Value} {Q : Option Value × jW → Prop} {w : jW} {a0 a1 a2 a3 : Option Value} {x : Int32} : Wp d 69 84 [a0, a1, a2, a3, some (.int x)] (st) w Q = Wp d 69 86 [a0, a1, a2, a3, some (.int x)] (.int x :: st) w Q := Wp.loc e69_84 rfl rfl rfl
theorem e69_86 : decode (j_co 69) 86 = .ok (.iload_n 2, 1) := by decide +kernel
set_option maxRecDepth 20000 in
theorem w69_86 {d : Nat} {st : List Value} {Q : Option Value × jW → Prop} {w : jW} {a0 a1 a3 a4 : Option Value} {x : Int32} : Wp d 69 86 [a0, a1, some (.int x), a3, a4] (st) w Q = Wp d 69 87 [a0, a1, some (.int x), a3, a4] (.int x :: st) w Q := Wp.loc e69_86 rfl rfl rfl
theorem e69_87 : decode (j_co 69) 87 = .ok (.iload_n 3, 1) := by decide +kernel
set_option maxRecDepth 20000 in
theorem w69_87 {d : Nat} {st : List Value} {Q : Option Value × jW → Prop} {w : jW} {a0 a1 a2 a4 : Option Value} {x : Int32} : Wp d 69 87 [a0, a1, a2, some (.int x), a4] (st) w Q = Wp d 69 88 [a0, a1, a2, some (.int x), a4] (.int x :: st) w Q := Wp.loc e69_87 rfl rfl rfl
theorem e69_88 : decode (j_co 69) 88 = .ok (.invokevirtual 71, 3) := by decide +kernel
set_option maxRecDepth 20000 in
theorem w69_88 {d : Nat} {st : List Value} {Q : Option Value × jW → Prop} {ls : jL} {xs : List Value} {I : fI} {L : fL} {r : Nat} {x0 : Int32} {x1 : Int32} {x2 : Int32} (hs : j_sumc st ≤ 8) (ht : f_tg r = 9) : Wp (d + 1) 69 88 ls (.int x2 :: .int x1 :: .int x0 :: .ref r :: st) (f_W xs I L) Q = Wp d 73 0 [some (.ref r), some (.int x0), some (.int x1), some (.int x2), none, none, none] [] (f_W xs I L) (fun r1 => Wp (d + 1) 69 91 ls (r1.1.toList ++ st) r1.2 Q) := Wp.cv (y' := 73) (as := [.int x0, .int x1, .int x2]) e69_88 rfl (by decide) rfl (show 4 ≤ 7 by decide) (by decide) hs ht
theorem e69_91 : decode (j_co 69) 91 = .ok (.istore_n 3, 1) := by decide +kernel
set_option maxRecDepth 20000 in
theorem w69_91 {d : Nat} {st : List Value} {Q : Option Value × jW → Prop} {w : jW} {a0 a1 a2 a3 a4 : Option Value} {x : Int32} (h : j_cp a2) : Wp d 69 91 [a0, a1, a2, a3, a4] (.int x :: st) w Q = Wp d 69 92 [a0, a1, a2, some (.int x), a4] (st) w Q := Wp.loc e69_91 rfl rfl (v_stI (ls := [a0, a1, a2, a3, a4]) (k := 3) (show 3 < 5 by decide) h)
theorem e69_92 : decode (j_co 69) 92 = .ok (.aload_n 0, 1) := by decide +kernel
set_option maxRecDepth 20000 in
theorem w69_92 {d : Nat} {st : List Value} {Q : Option Value × jW → Prop} {w : jW} {a1 a2 a3 a4 : Option Value} {x : Nat} : Wp d 69 92 [some (.ref x), a1, a2, a3, a4] (st) w Q = Wp d 69 93 [some (.ref x), a1, a2, a3, a4] (.ref x :: st) w Q := Wp.loc e69_92 rfl rfl rfl
theorem e69_93 : decode (j_co 69) 93 = .ok (.iload 4, 2) := by decide +kernel
set_option maxRecDepth 20000 in
theorem w69_93 {d : Nat} {st : List Value} {Q : Option Value × jW → Prop} {w : jW} {a0 a1 a2 a3 : Option Value} {x : Int32} : Wp d 69 93 [a0, a1, a2, a3, some (.int x)] (st) w Q = Wp d 69 95 [a0, a1, a2, a3, some (.int x)] (.int x :: st) w Q := Wp.loc e69_93 rfl rfl rfl
theorem e69_95 : decode (j_co 69) 95 = .ok (.iload_n 2, 1) := by decide +kernel
set_option maxRecDepth 20000 in
theorem w69_95 {d : Nat} {st : List Value} {Q : Option Value × jW → Prop} {w : jW} {a0 a1 a3 a4 : Option Value} {x : Int32} : Wp d 69 95 [a0, a1, some (.int x), a3, a4] (st) w Q = Wp d 69 96 [a0, a1, some (.int x), a3, a4] (.int x :: st) w Q := Wp.loc e69_95 rfl rfl rfl
theorem e69_96 : decode (j_co 69) 96 = .ok (.iload_n 3, 1) := by decide +kernel
set_option maxRecDepth 20000 in
theorem w69_96 {d : Nat} {st : List Value} {Q : Option Value × jW → Prop} {w : jW} {a0 a1 a2 a4 : Option Value} {x : Int32} : Wp d 69 96 [a0, a1, a2, some (.int x), a4] (st) w Q = Wp d 69 97 [a0, a1, a2, some (.int x), a4] (.int x :: st) w Q := Wp.loc e69_96 rfl rfl rfl
theorem e69_97 : decode (j_co 69) 97 = .ok (.invokevirtual 67, 3) := by decide +kernel
set_option maxRecDepth 20000 in
theorem w69_97 {d : Nat} {st : List Value} {Q : Option Value × jW → Prop} {ls : jL} {xs : List Value} {I : fI} {L : fL} {r : Nat} {x0 : Int32} {x1 : Int32} {x2 : Int32} (hs : j_sumc st ≤ 8) (ht : f_tg r = 9) : Wp (d + 1) 69 97 ls (.int x2 :: .int x1 :: .int x0 :: .ref r :: st) (f_W xs I L) Q = Wp d 72 0 [some (.ref r), some (.int x0), some (.int x1), some (.int x2)] [] (f_W xs I L) (fun r1 => Wp (d + 1) 69 100 ls (r1.1.toList ++ st) r1.2 Q) := Wp.cv (y' := 72) (as := [.int x0, .int x1, .int x2]) e69_97 rfl (by decide) rfl (show 4 ≤ 4 by decide) (by decide) hs ht
theorem e69_100 : decode (j_co 69) 100 = .ok (.iinc 4 (-1), 3) := by decide +kernel
set_option maxRecDepth 20000 in
theorem w69_100 {d : Nat} {st : List Value} {Q : Option Value × jW → Prop} {w : jW} {a0 a1 a2 a3 : Option Value} {x : Int32} (h : j_cp a3) : Wp d 69 100 [a0, a1, a2, a3, some (.int x)] (st) w Q = Wp d 69 103 [a0, a1, a2, a3, some (.int (x + -1))] (st) w Q := Wp.loc e69_100 rfl rfl (v_inc (ls := [a0, a1, a2, a3, some (.int x)]) (k := 4) (n := -1) rfl (show 4 < 5 by decide) h)
theorem e69_103 : decode (j_co 69) 103 = .ok (.goto (-25), 3) := by decide +kernel
set_option maxRecDepth 20000 in
theorem w69_103 {d : Nat} {st : List Value} {Q : Option Value × jW → Prop} {ls : jL} {w : jW} : Wp d 69 103 ls (st) w Q = Wp d 69 78 ls (st) w Q := Wp.br e69_103 (Or.inl rfl) rfl rfl rfl rfl
theorem e69_106 : decode (j_co 69) 106 = .ok (.iinc 2 1, 3) := by decide +kernel
set_option maxRecDepth 20000 in
theorem w69_106 {d : Nat} {st : List Value} {Q : Option Value × jW → Prop} {w : jW} {a0 a1 a3 a4 : Option Value} {x : Int32} (h : j_cp a1) : Wp d 69 106 [a0, a1, some (.int x), a3, a4] (st) w Q = Wp d 69 109 [a0, a1, some (.int (x + nI 1)), a3, a4] (st) w Q := Wp.loc e69_106 rfl rfl (v_inc (ls := [a0, a1, some (.int x), a3, a4]) (k := 2) (n := 1) rfl (show 2 < 5 by decide) h)
theorem e69_109 : decode (j_co 69) 109 = .ok (.goto (-86), 3) := by decide +kernel
set_option maxRecDepth 20000 in
theorem w69_109 {d : Nat} {st : List Value} {Q : Option Value × jW → Prop} {ls : jL} {w : jW} : Wp d 69 109 ls (st) w Q = Wp d 69 23 ls (st) w Q := Wp.br e69_109 (Or.inl rfl) rfl rfl rfl rfl
theorem e69_112 : decode (j_co 69) 112 = .ok (.iconst 1, 1) := by decide +kernel
set_option maxRecDepth 20000 in
theorem w69_112 {d : Nat} {st : List Value} {Q : Option Value × jW → Prop} {ls : jL} {w : jW} : Wp d 69 112 ls (st) w Q = Wp d 69 113 ls (.int (nI 1) :: st) w Q := Wp.alu e69_112 rfl rfl
theorem e69_113 : decode (j_co 69) 113 = .ok (.ireturn, 1) := by decide +kernel
set_option maxRecDepth 20000 in
theorem w69_113 {d : Nat} {Q : Option Value × jW → Prop} {ls : jL} {w : jW} {x : Int32} (hx : x = 0 ∨ x = 1) : Wp d 69 113 ls [.int x] w Q = Q (some (.int x), w) := Wp.ret e69_113 (by rcases hx with rfl | rfl <;> rfl)
/-! Trail.layPath -/
theorem e71_0 : decode (j_co 71) 0 = .ok (.aload_n 0, 1) := by decide +kernel
set_option maxRecDepth 20000 in
theorem w71_0 {d : Nat} {st : List Value} {Q : Option Value × jW → Prop} {w : jW} {a1 a2 : Option Value} {x : Nat} : Wp d 71 0 [some (.ref x), a1, a2] (st) w Q = Wp d 71 1 [some (.ref x), a1, a2] (.ref x :: st) w Q := Wp.loc e71_0 rfl rfl rfl
theorem e71_1 : decode (j_co 71) 1 = .ok (.iconst 0, 1) := by decide +kernel
set_option maxRecDepth 20000 in
theorem w71_1 {d : Nat} {st : List Value} {Q : Option Value × jW → Prop} {ls : jL} {w : jW} : Wp d 71 1 ls (st) w Q = Wp d 71 2 ls (.int (nI 0) :: st) w Q := Wp.alu e71_1 rfl rfl
theorem e71_2 : decode (j_co 71) 2 = .ok (.putfield 63, 3) := by decide +kernel
set_option maxRecDepth 20000 in
theorem w71_2 {d : Nat} {st : List Value} {Q : Option Value × jW → Prop} {ls : jL} {xs : List Value} {I : fI} {L : fL} {o : Nat} {x : Int32} (ht : f_tg o = 9) : Wp d 71 2 ls (.int x :: .ref o :: st) (f_W xs I L) Q = Wp d 71 5 ls (st) (f_W xs (f_up I o 4 x) L) Q := Wp.putI (ci := 9) (k := 4) e71_2 rfl (by decide) (by decide) rfl (by decide) ht
theorem e71_5 : decode (j_co 71) 5 = .ok (.iload_n 1, 1) := by decide +kernel
set_option maxRecDepth 20000 in
theorem w71_5 {d : Nat} {st : List Value} {Q : Option Value × jW → Prop} {w : jW} {a0 a2 : Option Value} {x : Int32} : Wp d 71 5 [a0, some (.int x), a2] (st) w Q = Wp d 71 6 [a0, some (.int x), a2] (.int x :: st) w Q := Wp.loc e71_5 rfl rfl rfl
theorem e71_6 : decode (j_co 71) 6 = .ok (.istore_n 2, 1) := by decide +kernel
set_option maxRecDepth 20000 in
theorem w71_6 {d : Nat} {st : List Value} {Q : Option Value × jW → Prop} {w : jW} {a0 a1 a2 : Option Value} {x : Int32} (h : j_cp a1) : Wp d 71 6 [a0, a1, a2] (.int x :: st) w Q = Wp d 71 7 [a0, a1, some (.int x)] (st) w Q := Wp.loc e71_6 rfl rfl (v_stI (ls := [a0, a1, a2]) (k := 2) (show 2 < 3 by decide) h)
theorem e71_7 : decode (j_co 71) 7 = .ok (.aload_n 0, 1) := by decide +kernel
set_option maxRecDepth 20000 in
theorem w71_7 {d : Nat} {st : List Value} {Q : Option Value × jW → Prop} {w : jW} {a1 a2 : Option Value} {x : Nat} : Wp d 71 7 [some (.ref x), a1, a2] (st) w Q = Wp d 71 8 [some (.ref x), a1, a2] (.ref x :: st) w Q := Wp.loc e71_7 rfl rfl rfl
theorem e71_8 : decode (j_co 71) 8 = .ok (.getfield 22, 3) := by decide +kernel
set_option maxRecDepth 20000 in
theorem w71_8 {d : Nat} {st : List Value} {Q : Option Value × jW → Prop} {ls : jL} {xs : List Value} {I : fI} {L : fL} {o : Nat} (ht : f_tg o = 9) : Wp d 71 8 ls (.ref o :: st) (f_W xs I L) Q = Wp d 71 11 ls (.ref (f_rf o 1) :: st) (f_W xs I L) Q := Wp.getR (ci := 9) (k := 1) e71_8 rfl (by decide) (by decide) rfl ht
theorem e71_11 : decode (j_co 71) 11 = .ok (.iload_n 2, 1) := by decide +kernel
set_option maxRecDepth 20000 in
theorem w71_11 {d : Nat} {st : List Value} {Q : Option Value × jW → Prop} {w : jW} {a0 a1 : Option Value} {x : Int32} : Wp d 71 11 [a0, a1, some (.int x)] (st) w Q = Wp d 71 12 [a0, a1, some (.int x)] (.int x :: st) w Q := Wp.loc e71_11 rfl rfl rfl
theorem e71_12 : decode (j_co 71) 12 = .ok (.invokevirtual 88, 3) := by decide +kernel
set_option maxRecDepth 20000 in
theorem w71_12 {d : Nat} {st : List Value} {Q : Option Value × jW → Prop} {ls : jL} {xs : List Value} {I : fI} {L : fL} {r : Nat} {x0 : Int32} (hs : j_sumc st ≤ 8) (ht : f_tg r = 7) : Wp (d + 1) 71 12 ls (.int x0 :: .ref r :: st) (f_W xs I L) Q = Wp d 50 0 [some (.ref r), some (.int x0)] [] (f_W xs I L) (fun r1 => Wp (d + 1) 71 15 ls (r1.1.toList ++ st) r1.2 Q) := Wp.cv (y' := 50) (as := [.int x0]) e71_12 rfl (by decide) rfl (show 2 ≤ 2 by decide) (by decide) hs ht
theorem e71_15 : decode (j_co 71) 15 = .ok (.ifCond .eq 48, 3) := by decide +kernel
set_option maxRecDepth 20000 in
theorem w71_15 {d : Nat} {st : List Value} {Q : Option Value × jW → Prop} {ls : jL} {w : jW} {a : Int32} : Wp d 71 15 ls (.int a :: st) w Q = ((a = nI 0 → Wp d 71 63 ls st w Q) ∧ (¬ a = nI 0 → Wp d 71 18 ls st w Q)) := Wp.if2 (c := a = nI 0) (off := 48) e71_15 rfl rfl rfl rfl rfl
theorem e71_18 : decode (j_co 71) 18 = .ok (.aload_n 0, 1) := by decide +kernel
set_option maxRecDepth 20000 in
theorem w71_18 {d : Nat} {st : List Value} {Q : Option Value × jW → Prop} {w : jW} {a1 a2 : Option Value} {x : Nat} : Wp d 71 18 [some (.ref x), a1, a2] (st) w Q = Wp d 71 19 [some (.ref x), a1, a2] (.ref x :: st) w Q := Wp.loc e71_18 rfl rfl rfl
theorem e71_19 : decode (j_co 71) 19 = .ok (.getfield 63, 3) := by decide +kernel
set_option maxRecDepth 20000 in
theorem w71_19 {d : Nat} {st : List Value} {Q : Option Value × jW → Prop} {ls : jL} {xs : List Value} {I : fI} {L : fL} {o : Nat} (ht : f_tg o = 9) : Wp d 71 19 ls (.ref o :: st) (f_W xs I L) Q = Wp d 71 22 ls (.int (I o 4) :: st) (f_W xs I L) Q := Wp.getI (ci := 9) (k := 4) e71_19 rfl (by decide) (by decide) (by decide) ht
theorem e71_22 : decode (j_co 71) 22 = .ok (.bipush 64, 2) := by decide +kernel
set_option maxRecDepth 20000 in
theorem w71_22 {d : Nat} {st : List Value} {Q : Option Value × jW → Prop} {ls : jL} {w : jW} : Wp d 71 22 ls (st) w Q = Wp d 71 24 ls (.int (nI 64) :: st) w Q := Wp.alu e71_22 rfl rfl
theorem e71_24 : decode (j_co 71) 24 = .ok (.if_icmp .ge 39, 3) := by decide +kernel
set_option maxRecDepth 20000 in
theorem w71_24 {d : Nat} {st : List Value} {Q : Option Value × jW → Prop} {ls : jL} {w : jW} {a b : Int32} : Wp d 71 24 ls (.int b :: .int a :: st) w Q = ((b ≤ a → Wp d 71 63 ls st w Q) ∧ (¬ b ≤ a → Wp d 71 27 ls st w Q)) := Wp.if2 (c := b ≤ a) (off := 39) e71_24 rfl rfl rfl rfl rfl
theorem e71_27 : decode (j_co 71) 27 = .ok (.aload_n 0, 1) := by decide +kernel
set_option maxRecDepth 20000 in
theorem w71_27 {d : Nat} {st : List Value} {Q : Option Value × jW → Prop} {w : jW} {a1 a2 : Option Value} {x : Nat} : Wp d 71 27 [some (.ref x), a1, a2] (st) w Q = Wp d 71 28 [some (.ref x), a1, a2] (.ref x :: st) w Q := Wp.loc e71_27 rfl rfl rfl
theorem e71_28 : decode (j_co 71) 28 = .ok (.getfield 9, 3) := by decide +kernel
set_option maxRecDepth 20000 in
theorem w71_28 {d : Nat} {st : List Value} {Q : Option Value × jW → Prop} {ls : jL} {xs : List Value} {I : fI} {L : fL} {o : Nat} (ht : f_tg o = 9) : Wp d 71 28 ls (.ref o :: st) (f_W xs I L) Q = Wp d 71 31 ls (.ref (f_rf o 2) :: st) (f_W xs I L) Q := Wp.getR (ci := 9) (k := 2) e71_28 rfl (by decide) (by decide) rfl ht
theorem e71_31 : decode (j_co 71) 31 = .ok (.aload_n 0, 1) := by decide +kernel
set_option maxRecDepth 20000 in
theorem w71_31 {d : Nat} {st : List Value} {Q : Option Value × jW → Prop} {w : jW} {a1 a2 : Option Value} {x : Nat} : Wp d 71 31 [some (.ref x), a1, a2] (st) w Q = Wp d 71 32 [some (.ref x), a1, a2] (.ref x :: st) w Q := Wp.loc e71_31 rfl rfl rfl
theorem e71_32 : decode (j_co 71) 32 = .ok (.getfield 63, 3) := by decide +kernel
set_option maxRecDepth 20000 in
theorem w71_32 {d : Nat} {st : List Value} {Q : Option Value × jW → Prop} {ls : jL} {xs : List Value} {I : fI} {L : fL} {o : Nat} (ht : f_tg o = 9) : Wp d 71 32 ls (.ref o :: st) (f_W xs I L) Q = Wp d 71 35 ls (.int (I o 4) :: st) (f_W xs I L) Q := Wp.getI (ci := 9) (k := 4) e71_32 rfl (by decide) (by decide) (by decide) ht
theorem e71_35 : decode (j_co 71) 35 = .ok (.iload_n 2, 1) := by decide +kernel
set_option maxRecDepth 20000 in
theorem w71_35 {d : Nat} {st : List Value} {Q : Option Value × jW → Prop} {w : jW} {a0 a1 : Option Value} {x : Int32} : Wp d 71 35 [a0, a1, some (.int x)] (st) w Q = Wp d 71 36 [a0, a1, some (.int x)] (.int x :: st) w Q := Wp.loc e71_35 rfl rfl rfl
theorem e71_36 : decode (j_co 71) 36 = .ok (.iastore, 1) := by decide +kernel
set_option maxRecDepth 20000 in
theorem w71_36 {d : Nat} {st : List Value} {Q : Option Value × jW → Prop} {ls : jL} {xs : List Value} {I : fI} {L : fL} {o : Nat} {i x : Int32} (ht : f_tg o = 100) (hi : ¬ (i < 0 ∨ f_ln o ≤ i.toNatClampNeg)) : Wp d 71 36 ls (.int x :: .int i :: .ref o :: st) (f_W xs I L) Q = Wp d 71 37 ls (st) (f_W xs (f_up I o i.toNatClampNeg x) L) Q := Wp.iast e71_36 ht hi
theorem e71_37 : decode (j_co 71) 37 = .ok (.aload_n 0, 1) := by decide +kernel
set_option maxRecDepth 20000 in
theorem w71_37 {d : Nat} {st : List Value} {Q : Option Value × jW → Prop} {w : jW} {a1 a2 : Option Value} {x : Nat} : Wp d 71 37 [some (.ref x), a1, a2] (st) w Q = Wp d 71 38 [some (.ref x), a1, a2] (.ref x :: st) w Q := Wp.loc e71_37 rfl rfl rfl
theorem e71_38 : decode (j_co 71) 38 = .ok (.dup, 1) := by decide +kernel
set_option maxRecDepth 20000 in
theorem w71_38 {d : Nat} {st : List Value} {Q : Option Value × jW → Prop} {ls : jL} {w : jW} {a : Int32} : Wp d 71 38 ls (.int a :: st) w Q = Wp d 71 39 ls (.int a :: .int a :: st) w Q := Wp.alu e71_38 rfl rfl
set_option maxRecDepth 20000 in
theorem w71_38r {d : Nat} {st : List Value} {Q : Option Value × jW → Prop} {ls : jL} {w : jW} {a : Nat} : Wp d 71 38 ls (.ref a :: st) w Q = Wp d 71 39 ls (.ref a :: .ref a :: st) w Q := Wp.alu e71_38 rfl rfl
theorem e71_39 : decode (j_co 71) 39 = .ok (.getfield 63, 3) := by decide +kernel
set_option maxRecDepth 20000 in
theorem w71_39 {d : Nat} {st : List Value} {Q : Option Value × jW → Prop} {ls : jL} {xs : List Value} {I : fI} {L : fL} {o : Nat} (ht : f_tg o = 9) : Wp d 71 39 ls (.ref o :: st) (f_W xs I L) Q = Wp d 71 42 ls (.int (I o 4) :: st) (f_W xs I L) Q := Wp.getI (ci := 9) (k := 4) e71_39 rfl (by decide) (by decide) (by decide) ht
theorem e71_42 : decode (j_co 71) 42 = .ok (.iconst 1, 1) := by decide +kernel
set_option maxRecDepth 20000 in
theorem w71_42 {d : Nat} {st : List Value} {Q : Option Value × jW → Prop} {ls : jL} {w : jW} : Wp d 71 42 ls (st) w Q = Wp d 71 43 ls (.int (nI 1) :: st) w Q := Wp.alu e71_42 rfl rfl
theorem e71_43 : decode (j_co 71) 43 = .ok (.iadd, 1) := by decide +kernel
set_option maxRecDepth 20000 in
theorem w71_43 {d : Nat} {st : List Value} {Q : Option Value × jW → Prop} {ls : jL} {w : jW} {a b : Int32} : Wp d 71 43 ls (.int b :: .int a :: st) w Q = Wp d 71 44 ls (.int (a + b) :: st) w Q := Wp.alu e71_43 rfl rfl
theorem e71_44 : decode (j_co 71) 44 = .ok (.putfield 63, 3) := by decide +kernel
set_option maxRecDepth 20000 in
theorem w71_44 {d : Nat} {st : List Value} {Q : Option Value × jW → Prop} {ls : jL} {xs : List Value} {I : fI} {L : fL} {o : Nat} {x : Int32} (ht : f_tg o = 9) : Wp d 71 44 ls (.int x :: .ref o :: st) (f_W xs I L) Q = Wp d 71 47 ls (st) (f_W xs (f_up I o 4 x) L) Q := Wp.putI (ci := 9) (k := 4) e71_44 rfl (by decide) (by decide) rfl (by decide) ht
theorem e71_47 : decode (j_co 71) 47 = .ok (.aload_n 0, 1) := by decide +kernel
set_option maxRecDepth 20000 in
theorem w71_47 {d : Nat} {st : List Value} {Q : Option Value × jW → Prop} {w : jW} {a1 a2 : Option Value} {x : Nat} : Wp d 71 47 [some (.ref x), a1, a2] (st) w Q = Wp d 71 48 [some (.ref x), a1, a2] (.ref x :: st) w Q := Wp.loc e71_47 rfl rfl rfl
theorem e71_48 : decode (j_co 71) 48 = .ok (.getfield 22, 3) := by decide +kernel
set_option maxRecDepth 20000 in
theorem w71_48 {d : Nat} {st : List Value} {Q : Option Value × jW → Prop} {ls : jL} {xs : List Value} {I : fI} {L : fL} {o : Nat} (ht : f_tg o = 9) : Wp d 71 48 ls (.ref o :: st) (f_W xs I L) Q = Wp d 71 51 ls (.ref (f_rf o 1) :: st) (f_W xs I L) Q := Wp.getR (ci := 9) (k := 1) e71_48 rfl (by decide) (by decide) rfl ht
theorem e71_51 : decode (j_co 71) 51 = .ok (.getfield 91, 3) := by decide +kernel
set_option maxRecDepth 20000 in
theorem w71_51 {d : Nat} {st : List Value} {Q : Option Value × jW → Prop} {ls : jL} {xs : List Value} {I : fI} {L : fL} {o : Nat} (ht : f_tg o = 7) : Wp d 71 51 ls (.ref o :: st) (f_W xs I L) Q = Wp d 71 54 ls (.ref (f_rf o 1) :: st) (f_W xs I L) Q := Wp.getR (ci := 7) (k := 1) e71_51 rfl (by decide) (by decide) rfl ht
theorem e71_54 : decode (j_co 71) 54 = .ok (.iload_n 2, 1) := by decide +kernel
set_option maxRecDepth 20000 in
theorem w71_54 {d : Nat} {st : List Value} {Q : Option Value × jW → Prop} {w : jW} {a0 a1 : Option Value} {x : Int32} : Wp d 71 54 [a0, a1, some (.int x)] (st) w Q = Wp d 71 55 [a0, a1, some (.int x)] (.int x :: st) w Q := Wp.loc e71_54 rfl rfl rfl
theorem e71_55 : decode (j_co 71) 55 = .ok (.aaload, 1) := by decide +kernel
set_option maxRecDepth 20000 in
theorem w71_55 {d : Nat} {st : List Value} {Q : Option Value × jW → Prop} {ls : jL} {xs : List Value} {I : fI} {L : fL} {o : Nat} {i : Int32} (ht : 103 ≤ f_tg o ∧ f_tg o ≤ 106) (hi : ¬ (i < 0 ∨ f_ln o ≤ i.toNatClampNeg)) : Wp d 71 55 ls (.int i :: .ref o :: st) (f_W xs I L) Q = Wp d 71 56 ls (.ref (f_rf o i.toNatClampNeg) :: st) (f_W xs I L) Q := Wp.aald e71_55 rfl ht hi
theorem e71_56 : decode (j_co 71) 56 = .ok (.getfield 95, 3) := by decide +kernel
set_option maxRecDepth 20000 in
theorem w71_56 {d : Nat} {st : List Value} {Q : Option Value × jW → Prop} {ls : jL} {xs : List Value} {I : fI} {L : fL} {o : Nat} (ht : f_tg o = 3) : Wp d 71 56 ls (.ref o :: st) (f_W xs I L) Q = Wp d 71 59 ls (.int (I o 2) :: st) (f_W xs I L) Q := Wp.getI (ci := 3) (k := 2) e71_56 rfl (by decide) (by decide) (by decide) ht
theorem e71_59 : decode (j_co 71) 59 = .ok (.istore_n 2, 1) := by decide +kernel
set_option maxRecDepth 20000 in
theorem w71_59 {d : Nat} {st : List Value} {Q : Option Value × jW → Prop} {w : jW} {a0 a1 a2 : Option Value} {x : Int32} (h : j_cp a1) : Wp d 71 59 [a0, a1, a2] (.int x :: st) w Q = Wp d 71 60 [a0, a1, some (.int x)] (st) w Q := Wp.loc e71_59 rfl rfl (v_stI (ls := [a0, a1, a2]) (k := 2) (show 2 < 3 by decide) h)
theorem e71_60 : decode (j_co 71) 60 = .ok (.goto (-53), 3) := by decide +kernel
set_option maxRecDepth 20000 in
theorem w71_60 {d : Nat} {st : List Value} {Q : Option Value × jW → Prop} {ls : jL} {w : jW} : Wp d 71 60 ls (st) w Q = Wp d 71 7 ls (st) w Q := Wp.br e71_60 (Or.inl rfl) rfl rfl rfl rfl
theorem e71_63 : decode (j_co 71) 63 = .ok (.return_, 1) := by decide +kernel
set_option maxRecDepth 20000 in
theorem w71_63 {d : Nat} {Q : Option Value × jW → Prop} {ls : jL} {w : jW} : Wp d 71 63 ls [] w Q = Q (none, w) := Wp.ret e71_63 rfl
/-! Trail.put -/
theorem e72_0 : decode (j_co 72) 0 = .ok (.iload_n 1, 1) := by decide +kernel
set_option maxRecDepth 20000 in
theorem w72_0 {d : Nat} {st : List Value} {Q : Option Value × jW → Prop} {w : jW} {a0 a2 a3 : Option Value} {x : Int32} : Wp d 72 0 [a0, some (.int x), a2, a3] (st) w Q = Wp d 72 1 [a0, some (.int x), a2, a3] (.int x :: st) w Q := Wp.loc e72_0 rfl rfl rfl
theorem e72_1 : decode (j_co 72) 1 = .ok (.ifCond .lt 27, 3) := by decide +kernel
set_option maxRecDepth 20000 in
theorem w72_1 {d : Nat} {st : List Value} {Q : Option Value × jW → Prop} {ls : jL} {w : jW} {a : Int32} : Wp d 72 1 ls (.int a :: st) w Q = ((a < nI 0 → Wp d 72 28 ls st w Q) ∧ (¬ a < nI 0 → Wp d 72 4 ls st w Q)) := Wp.if2 (c := a < nI 0) (off := 27) e72_1 rfl rfl rfl rfl rfl
theorem e72_4 : decode (j_co 72) 4 = .ok (.iload_n 1, 1) := by decide +kernel
set_option maxRecDepth 20000 in
theorem w72_4 {d : Nat} {st : List Value} {Q : Option Value × jW → Prop} {w : jW} {a0 a2 a3 : Option Value} {x : Int32} : Wp d 72 4 [a0, some (.int x), a2, a3] (st) w Q = Wp d 72 5 [a0, some (.int x), a2, a3] (.int x :: st) w Q := Wp.loc e72_4 rfl rfl rfl
theorem e72_5 : decode (j_co 72) 5 = .ok (.bipush 64, 2) := by decide +kernel
set_option maxRecDepth 20000 in
theorem w72_5 {d : Nat} {st : List Value} {Q : Option Value × jW → Prop} {ls : jL} {w : jW} : Wp d 72 5 ls (st) w Q = Wp d 72 7 ls (.int (nI 64) :: st) w Q := Wp.alu e72_5 rfl rfl
theorem e72_7 : decode (j_co 72) 7 = .ok (.if_icmp .ge 21, 3) := by decide +kernel
set_option maxRecDepth 20000 in
theorem w72_7 {d : Nat} {st : List Value} {Q : Option Value × jW → Prop} {ls : jL} {w : jW} {a b : Int32} : Wp d 72 7 ls (.int b :: .int a :: st) w Q = ((b ≤ a → Wp d 72 28 ls st w Q) ∧ (¬ b ≤ a → Wp d 72 10 ls st w Q)) := Wp.if2 (c := b ≤ a) (off := 21) e72_7 rfl rfl rfl rfl rfl
theorem e72_10 : decode (j_co 72) 10 = .ok (.iload_n 2, 1) := by decide +kernel
set_option maxRecDepth 20000 in
theorem w72_10 {d : Nat} {st : List Value} {Q : Option Value × jW → Prop} {w : jW} {a0 a1 a3 : Option Value} {x : Int32} : Wp d 72 10 [a0, a1, some (.int x), a3] (st) w Q = Wp d 72 11 [a0, a1, some (.int x), a3] (.int x :: st) w Q := Wp.loc e72_10 rfl rfl rfl
theorem e72_11 : decode (j_co 72) 11 = .ok (.invokestatic 84, 3) := by decide +kernel
set_option maxRecDepth 20000 in
theorem w72_11 {d : Nat} {st : List Value} {Q : Option Value × jW → Prop} {ls : jL} {w : jW} {x0 : Int32} (hs : j_sumc st ≤ 8) : Wp (d + 1) 72 11 ls (.int x0 :: st) w Q = Wp d 18 0 [some (.int x0)] [] w (fun r1 => Wp (d + 1) 72 14 ls (r1.1.toList ++ st) r1.2 Q) := Wp.cs (kd := 4) (y' := 18) (as := [.int x0]) e72_11 rfl (by decide) (by decide) rfl (show 1 ≤ 1 by decide) hs
theorem e72_14 : decode (j_co 72) 14 = .ok (.ifCond .eq 14, 3) := by decide +kernel
set_option maxRecDepth 20000 in
theorem w72_14 {d : Nat} {st : List Value} {Q : Option Value × jW → Prop} {ls : jL} {w : jW} {a : Int32} : Wp d 72 14 ls (.int a :: st) w Q = ((a = nI 0 → Wp d 72 28 ls st w Q) ∧ (¬ a = nI 0 → Wp d 72 17 ls st w Q)) := Wp.if2 (c := a = nI 0) (off := 14) e72_14 rfl rfl rfl rfl rfl
theorem e72_17 : decode (j_co 72) 17 = .ok (.aload_n 0, 1) := by decide +kernel
set_option maxRecDepth 20000 in
theorem w72_17 {d : Nat} {st : List Value} {Q : Option Value × jW → Prop} {w : jW} {a1 a2 a3 : Option Value} {x : Nat} : Wp d 72 17 [some (.ref x), a1, a2, a3] (st) w Q = Wp d 72 18 [some (.ref x), a1, a2, a3] (.ref x :: st) w Q := Wp.loc e72_17 rfl rfl rfl
theorem e72_18 : decode (j_co 72) 18 = .ok (.getfield 15, 3) := by decide +kernel
set_option maxRecDepth 20000 in
theorem w72_18 {d : Nat} {st : List Value} {Q : Option Value × jW → Prop} {ls : jL} {xs : List Value} {I : fI} {L : fL} {o : Nat} (ht : f_tg o = 9) : Wp d 72 18 ls (.ref o :: st) (f_W xs I L) Q = Wp d 72 21 ls (.ref (f_rf o 3) :: st) (f_W xs I L) Q := Wp.getR (ci := 9) (k := 3) e72_18 rfl (by decide) (by decide) rfl ht
theorem e72_21 : decode (j_co 72) 21 = .ok (.iconst 3, 1) := by decide +kernel
set_option maxRecDepth 20000 in
theorem w72_21 {d : Nat} {st : List Value} {Q : Option Value × jW → Prop} {ls : jL} {w : jW} : Wp d 72 21 ls (st) w Q = Wp d 72 22 ls (.int (nI 3) :: st) w Q := Wp.alu e72_21 rfl rfl
theorem e72_22 : decode (j_co 72) 22 = .ok (.iload_n 1, 1) := by decide +kernel
set_option maxRecDepth 20000 in
theorem w72_22 {d : Nat} {st : List Value} {Q : Option Value × jW → Prop} {w : jW} {a0 a2 a3 : Option Value} {x : Int32} : Wp d 72 22 [a0, some (.int x), a2, a3] (st) w Q = Wp d 72 23 [a0, some (.int x), a2, a3] (.int x :: st) w Q := Wp.loc e72_22 rfl rfl rfl
theorem e72_23 : decode (j_co 72) 23 = .ok (.imul, 1) := by decide +kernel
set_option maxRecDepth 20000 in
theorem w72_23 {d : Nat} {st : List Value} {Q : Option Value × jW → Prop} {ls : jL} {w : jW} {a b : Int32} : Wp d 72 23 ls (.int b :: .int a :: st) w Q = Wp d 72 24 ls (.int (a * b) :: st) w Q := Wp.alu e72_23 rfl rfl
theorem e72_24 : decode (j_co 72) 24 = .ok (.iload_n 2, 1) := by decide +kernel
set_option maxRecDepth 20000 in
theorem w72_24 {d : Nat} {st : List Value} {Q : Option Value × jW → Prop} {w : jW} {a0 a1 a3 : Option Value} {x : Int32} : Wp d 72 24 [a0, a1, some (.int x), a3] (st) w Q = Wp d 72 25 [a0, a1, some (.int x), a3] (.int x :: st) w Q := Wp.loc e72_24 rfl rfl rfl
theorem e72_25 : decode (j_co 72) 25 = .ok (.iadd, 1) := by decide +kernel
set_option maxRecDepth 20000 in
theorem w72_25 {d : Nat} {st : List Value} {Q : Option Value × jW → Prop} {ls : jL} {w : jW} {a b : Int32} : Wp d 72 25 ls (.int b :: .int a :: st) w Q = Wp d 72 26 ls (.int (a + b) :: st) w Q := Wp.alu e72_25 rfl rfl
theorem e72_26 : decode (j_co 72) 26 = .ok (.iload_n 3, 1) := by decide +kernel
set_option maxRecDepth 20000 in
theorem w72_26 {d : Nat} {st : List Value} {Q : Option Value × jW → Prop} {w : jW} {a0 a1 a2 : Option Value} {x : Int32} : Wp d 72 26 [a0, a1, a2, some (.int x)] (st) w Q = Wp d 72 27 [a0, a1, a2, some (.int x)] (.int x :: st) w Q := Wp.loc e72_26 rfl rfl rfl
theorem e72_27 : decode (j_co 72) 27 = .ok (.iastore, 1) := by decide +kernel
set_option maxRecDepth 20000 in
theorem w72_27 {d : Nat} {st : List Value} {Q : Option Value × jW → Prop} {ls : jL} {xs : List Value} {I : fI} {L : fL} {o : Nat} {i x : Int32} (ht : f_tg o = 100) (hi : ¬ (i < 0 ∨ f_ln o ≤ i.toNatClampNeg)) : Wp d 72 27 ls (.int x :: .int i :: .ref o :: st) (f_W xs I L) Q = Wp d 72 28 ls (st) (f_W xs (f_up I o i.toNatClampNeg x) L) Q := Wp.iast e72_27 ht hi
theorem e72_28 : decode (j_co 72) 28 = .ok (.return_, 1) := by decide +kernel
set_option maxRecDepth 20000 in
theorem w72_28 {d : Nat} {Q : Option Value × jW → Prop} {ls : jL} {w : jW} : Wp d 72 28 ls [] w Q = Q (none, w) := Wp.ret e72_28 rfl
/-! Trail.leastBefore -/
theorem e73_0 : decode (j_co 73) 0 = .ok (.aload_n 0, 1) := by decide +kernel
set_option maxRecDepth 20000 in
theorem w73_0 {d : Nat} {st : List Value} {Q : Option Value × jW → Prop} {w : jW} {a1 a2 a3 a4 a5 a6 : Option Value} {x : Nat} : Wp d 73 0 [some (.ref x), a1, a2, a3, a4, a5, a6] (st) w Q = Wp d 73 1 [some (.ref x), a1, a2, a3, a4, a5, a6] (.ref x :: st) w Q := Wp.loc e73_0 rfl rfl rfl
theorem e73_1 : decode (j_co 73) 1 = .ok (.iload_n 1, 1) := by decide +kernel
set_option maxRecDepth 20000 in
theorem w73_1 {d : Nat} {st : List Value} {Q : Option Value × jW → Prop} {w : jW} {a0 a2 a3 a4 a5 a6 : Option Value} {x : Int32} : Wp d 73 1 [a0, some (.int x), a2, a3, a4, a5, a6] (st) w Q = Wp d 73 2 [a0, some (.int x), a2, a3, a4, a5, a6] (.int x :: st) w Q := Wp.loc e73_1 rfl rfl rfl
theorem e73_2 : decode (j_co 73) 2 = .ok (.invokevirtual 75, 3) := by decide +kernel
set_option maxRecDepth 20000 in
theorem w73_2 {d : Nat} {st : List Value} {Q : Option Value × jW → Prop} {ls : jL} {xs : List Value} {I : fI} {L : fL} {r : Nat} {x0 : Int32} (hs : j_sumc st ≤ 8) (ht : f_tg r = 9) : Wp (d + 1) 73 2 ls (.int x0 :: .ref r :: st) (f_W xs I L) Q = Wp d 172 0 [some (.ref r), some (.int x0)] [] (f_W xs I L) (fun r1 => Wp (d + 1) 73 5 ls (r1.1.toList ++ st) r1.2 Q) := Wp.cv (y' := 172) (as := [.int x0]) e73_2 rfl (by decide) rfl (show 2 ≤ 2 by decide) (by decide) hs ht
theorem e73_5 : decode (j_co 73) 5 = .ok (.astore 4, 2) := by decide +kernel
set_option maxRecDepth 20000 in
theorem w73_5 {d : Nat} {st : List Value} {Q : Option Value × jW → Prop} {w : jW} {a0 a1 a2 a3 a4 a5 a6 : Option Value} {x : Nat} (h : j_cp a3) : Wp d 73 5 [a0, a1, a2, a3, a4, a5, a6] (.ref x :: st) w Q = Wp d 73 7 [a0, a1, a2, a3, some (.ref x), a5, a6] (st) w Q := Wp.loc e73_5 rfl rfl (v_stA (ls := [a0, a1, a2, a3, a4, a5, a6]) (k := 4) (show 4 < 7 by decide) h)
theorem e73_7 : decode (j_co 73) 7 = .ok (.aload_n 0, 1) := by decide +kernel
set_option maxRecDepth 20000 in
theorem w73_7 {d : Nat} {st : List Value} {Q : Option Value × jW → Prop} {w : jW} {a1 a2 a3 a4 a5 a6 : Option Value} {x : Nat} : Wp d 73 7 [some (.ref x), a1, a2, a3, a4, a5, a6] (st) w Q = Wp d 73 8 [some (.ref x), a1, a2, a3, a4, a5, a6] (.ref x :: st) w Q := Wp.loc e73_7 rfl rfl rfl
theorem e73_8 : decode (j_co 73) 8 = .ok (.iload_n 1, 1) := by decide +kernel
set_option maxRecDepth 20000 in
theorem w73_8 {d : Nat} {st : List Value} {Q : Option Value × jW → Prop} {w : jW} {a0 a2 a3 a4 a5 a6 : Option Value} {x : Int32} : Wp d 73 8 [a0, some (.int x), a2, a3, a4, a5, a6] (st) w Q = Wp d 73 9 [a0, some (.int x), a2, a3, a4, a5, a6] (.int x :: st) w Q := Wp.loc e73_8 rfl rfl rfl
theorem e73_9 : decode (j_co 73) 9 = .ok (.iconst 1, 1) := by decide +kernel
set_option maxRecDepth 20000 in
theorem w73_9 {d : Nat} {st : List Value} {Q : Option Value × jW → Prop} {ls : jL} {w : jW} : Wp d 73 9 ls (st) w Q = Wp d 73 10 ls (.int (nI 1) :: st) w Q := Wp.alu e73_9 rfl rfl
theorem e73_10 : decode (j_co 73) 10 = .ok (.iadd, 1) := by decide +kernel
set_option maxRecDepth 20000 in
theorem w73_10 {d : Nat} {st : List Value} {Q : Option Value × jW → Prop} {ls : jL} {w : jW} {a b : Int32} : Wp d 73 10 ls (.int b :: .int a :: st) w Q = Wp d 73 11 ls (.int (a + b) :: st) w Q := Wp.alu e73_10 rfl rfl
theorem e73_11 : decode (j_co 73) 11 = .ok (.invokevirtual 75, 3) := by decide +kernel
set_option maxRecDepth 20000 in
theorem w73_11 {d : Nat} {st : List Value} {Q : Option Value × jW → Prop} {ls : jL} {xs : List Value} {I : fI} {L : fL} {r : Nat} {x0 : Int32} (hs : j_sumc st ≤ 8) (ht : f_tg r = 9) : Wp (d + 1) 73 11 ls (.int x0 :: .ref r :: st) (f_W xs I L) Q = Wp d 172 0 [some (.ref r), some (.int x0)] [] (f_W xs I L) (fun r1 => Wp (d + 1) 73 14 ls (r1.1.toList ++ st) r1.2 Q) := Wp.cv (y' := 172) (as := [.int x0]) e73_11 rfl (by decide) rfl (show 2 ≤ 2 by decide) (by decide) hs ht
theorem e73_14 : decode (j_co 73) 14 = .ok (.getfield 81, 3) := by decide +kernel
set_option maxRecDepth 20000 in
theorem w73_14 {d : Nat} {st : List Value} {Q : Option Value × jW → Prop} {ls : jL} {xs : List Value} {I : fI} {L : fL} {o : Nat} (ht : f_tg o = 3) : Wp d 73 14 ls (.ref o :: st) (f_W xs I L) Q = Wp d 73 17 ls (.int (I o 3) :: st) (f_W xs I L) Q := Wp.getI (ci := 3) (k := 3) e73_14 rfl (by decide) (by decide) (by decide) ht
theorem e73_17 : decode (j_co 73) 17 = .ok (.istore 5, 2) := by decide +kernel
set_option maxRecDepth 20000 in
theorem w73_17 {d : Nat} {st : List Value} {Q : Option Value × jW → Prop} {w : jW} {a0 a1 a2 a3 a4 a5 a6 : Option Value} {x : Int32} (h : j_cp a4) : Wp d 73 17 [a0, a1, a2, a3, a4, a5, a6] (.int x :: st) w Q = Wp d 73 19 [a0, a1, a2, a3, a4, some (.int x), a6] (st) w Q := Wp.loc e73_17 rfl rfl (v_stI (ls := [a0, a1, a2, a3, a4, a5, a6]) (k := 5) (show 5 < 7 by decide) h)
theorem e73_19 : decode (j_co 73) 19 = .ok (.iload 5, 2) := by decide +kernel
set_option maxRecDepth 20000 in
theorem w73_19 {d : Nat} {st : List Value} {Q : Option Value × jW → Prop} {w : jW} {a0 a1 a2 a3 a4 a6 : Option Value} {x : Int32} : Wp d 73 19 [a0, a1, a2, a3, a4, some (.int x), a6] (st) w Q = Wp d 73 21 [a0, a1, a2, a3, a4, some (.int x), a6] (.int x :: st) w Q := Wp.loc e73_19 rfl rfl rfl
theorem e73_21 : decode (j_co 73) 21 = .ok (.ifCond .ne 41, 3) := by decide +kernel
set_option maxRecDepth 20000 in
theorem w73_21 {d : Nat} {st : List Value} {Q : Option Value × jW → Prop} {ls : jL} {w : jW} {a : Int32} : Wp d 73 21 ls (.int a :: st) w Q = ((a = nI 0 → Wp d 73 24 ls st w Q) ∧ (¬ a = nI 0 → Wp d 73 62 ls st w Q)) := Wp.if2n (c := a = nI 0) (off := 41) e73_21 rfl rfl rfl rfl rfl
theorem e73_24 : decode (j_co 73) 24 = .ok (.aload_n 0, 1) := by decide +kernel
set_option maxRecDepth 20000 in
theorem w73_24 {d : Nat} {st : List Value} {Q : Option Value × jW → Prop} {w : jW} {a1 a2 a3 a4 a5 a6 : Option Value} {x : Nat} : Wp d 73 24 [some (.ref x), a1, a2, a3, a4, a5, a6] (st) w Q = Wp d 73 25 [some (.ref x), a1, a2, a3, a4, a5, a6] (.ref x :: st) w Q := Wp.loc e73_24 rfl rfl rfl
theorem e73_25 : decode (j_co 73) 25 = .ok (.getfield 18, 3) := by decide +kernel
set_option maxRecDepth 20000 in
theorem w73_25 {d : Nat} {st : List Value} {Q : Option Value × jW → Prop} {ls : jL} {xs : List Value} {I : fI} {L : fL} {o : Nat} (ht : f_tg o = 9) : Wp d 73 25 ls (.ref o :: st) (f_W xs I L) Q = Wp d 73 28 ls (.ref (f_rf o 0) :: st) (f_W xs I L) Q := Wp.getR (ci := 9) (k := 0) e73_25 rfl (by decide) (by decide) rfl ht
theorem e73_28 : decode (j_co 73) 28 = .ok (.aload 4, 2) := by decide +kernel
set_option maxRecDepth 20000 in
theorem w73_28 {d : Nat} {st : List Value} {Q : Option Value × jW → Prop} {w : jW} {a0 a1 a2 a3 a5 a6 : Option Value} {x : Nat} : Wp d 73 28 [a0, a1, a2, a3, some (.ref x), a5, a6] (st) w Q = Wp d 73 30 [a0, a1, a2, a3, some (.ref x), a5, a6] (.ref x :: st) w Q := Wp.loc e73_28 rfl rfl rfl
theorem e73_30 : decode (j_co 73) 30 = .ok (.getfield 78, 3) := by decide +kernel
set_option maxRecDepth 20000 in
theorem w73_30 {d : Nat} {st : List Value} {Q : Option Value × jW → Prop} {ls : jL} {xs : List Value} {I : fI} {L : fL} {o : Nat} (ht : f_tg o = 3) : Wp d 73 30 ls (.ref o :: st) (f_W xs I L) Q = Wp d 73 33 ls (.int (I o 1) :: st) (f_W xs I L) Q := Wp.getI (ci := 3) (k := 1) e73_30 rfl (by decide) (by decide) (by decide) ht
theorem e73_33 : decode (j_co 73) 33 = .ok (.invokevirtual 98, 3) := by decide +kernel
set_option maxRecDepth 20000 in
theorem w73_33 {d : Nat} {st : List Value} {Q : Option Value × jW → Prop} {ls : jL} {xs : List Value} {I : fI} {L : fL} {r : Nat} {x0 : Int32} (hs : j_sumc st ≤ 8) (ht : f_tg r = 5) : Wp (d + 1) 73 33 ls (.int x0 :: .ref r :: st) (f_W xs I L) Q = Wp d 171 0 [some (.ref r), some (.int x0)] [] (f_W xs I L) (fun r1 => Wp (d + 1) 73 36 ls (r1.1.toList ++ st) r1.2 Q) := Wp.cv (y' := 171) (as := [.int x0]) e73_33 rfl (by decide) rfl (show 2 ≤ 2 by decide) (by decide) hs ht
theorem e73_36 : decode (j_co 73) 36 = .ok (.getfield 102, 3) := by decide +kernel
set_option maxRecDepth 20000 in
theorem w73_36 {d : Nat} {st : List Value} {Q : Option Value × jW → Prop} {ls : jL} {xs : List Value} {I : fI} {L : fL} {o : Nat} (ht : f_tg o = 6) : Wp d 73 36 ls (.ref o :: st) (f_W xs I L) Q = Wp d 73 39 ls (.ref (f_rf o 1) :: st) (f_W xs I L) Q := Wp.getR (ci := 6) (k := 1) e73_36 rfl (by decide) (by decide) rfl ht
theorem e73_39 : decode (j_co 73) 39 = .ok (.iload_n 2, 1) := by decide +kernel
set_option maxRecDepth 20000 in
theorem w73_39 {d : Nat} {st : List Value} {Q : Option Value × jW → Prop} {w : jW} {a0 a1 a3 a4 a5 a6 : Option Value} {x : Int32} : Wp d 73 39 [a0, a1, some (.int x), a3, a4, a5, a6] (st) w Q = Wp d 73 40 [a0, a1, some (.int x), a3, a4, a5, a6] (.int x :: st) w Q := Wp.loc e73_39 rfl rfl rfl
theorem e73_40 : decode (j_co 73) 40 = .ok (.invokevirtual 107, 3) := by decide +kernel
set_option maxRecDepth 20000 in
theorem w73_40 {d : Nat} {st : List Value} {Q : Option Value × jW → Prop} {ls : jL} {xs : List Value} {I : fI} {L : fL} {r : Nat} {x0 : Int32} (hs : j_sumc st ≤ 8) (ht : f_tg r = 0) : Wp (d + 1) 73 40 ls (.int x0 :: .ref r :: st) (f_W xs I L) Q = Wp d 35 0 [some (.ref r), some (.int x0)] [] (f_W xs I L) (fun r1 => Wp (d + 1) 73 43 ls (r1.1.toList ++ st) r1.2 Q) := Wp.cv (y' := 35) (as := [.int x0]) e73_40 rfl (by decide) rfl (show 2 ≤ 2 by decide) (by decide) hs ht
theorem e73_43 : decode (j_co 73) 43 = .ok (.istore 6, 2) := by decide +kernel
set_option maxRecDepth 20000 in
theorem w73_43 {d : Nat} {st : List Value} {Q : Option Value × jW → Prop} {w : jW} {a0 a1 a2 a3 a4 a5 a6 : Option Value} {x : Int32} (h : j_cp a5) : Wp d 73 43 [a0, a1, a2, a3, a4, a5, a6] (.int x :: st) w Q = Wp d 73 45 [a0, a1, a2, a3, a4, a5, some (.int x)] (st) w Q := Wp.loc e73_43 rfl rfl (v_stI (ls := [a0, a1, a2, a3, a4, a5, a6]) (k := 6) (show 6 < 7 by decide) h)
theorem e73_45 : decode (j_co 73) 45 = .ok (.aload 4, 2) := by decide +kernel
set_option maxRecDepth 20000 in
theorem w73_45 {d : Nat} {st : List Value} {Q : Option Value × jW → Prop} {w : jW} {a0 a1 a2 a3 a5 a6 : Option Value} {x : Nat} : Wp d 73 45 [a0, a1, a2, a3, some (.ref x), a5, a6] (st) w Q = Wp d 73 47 [a0, a1, a2, a3, some (.ref x), a5, a6] (.ref x :: st) w Q := Wp.loc e73_45 rfl rfl rfl
theorem e73_47 : decode (j_co 73) 47 = .ok (.getfield 40, 3) := by decide +kernel
set_option maxRecDepth 20000 in
theorem w73_47 {d : Nat} {st : List Value} {Q : Option Value × jW → Prop} {ls : jL} {xs : List Value} {I : fI} {L : fL} {o : Nat} (ht : f_tg o = 3) : Wp d 73 47 ls (.ref o :: st) (f_W xs I L) Q = Wp d 73 50 ls (.ref (f_rf o 0) :: st) (f_W xs I L) Q := Wp.getR (ci := 3) (k := 0) e73_47 rfl (by decide) (by decide) rfl ht
theorem e73_50 : decode (j_co 73) 50 = .ok (.iload_n 2, 1) := by decide +kernel
set_option maxRecDepth 20000 in
theorem w73_50 {d : Nat} {st : List Value} {Q : Option Value × jW → Prop} {w : jW} {a0 a1 a3 a4 a5 a6 : Option Value} {x : Int32} : Wp d 73 50 [a0, a1, some (.int x), a3, a4, a5, a6] (st) w Q = Wp d 73 51 [a0, a1, some (.int x), a3, a4, a5, a6] (.int x :: st) w Q := Wp.loc e73_50 rfl rfl rfl
theorem e73_51 : decode (j_co 73) 51 = .ok (.invokevirtual 46, 3) := by decide +kernel
set_option maxRecDepth 20000 in
theorem w73_51 {d : Nat} {st : List Value} {Q : Option Value × jW → Prop} {ls : jL} {xs : List Value} {I : fI} {L : fL} {r : Nat} {x0 : Int32} (hs : j_sumc st ≤ 8) (ht : f_tg r = 0) : Wp (d + 1) 73 51 ls (.int x0 :: .ref r :: st) (f_W xs I L) Q = Wp d 33 0 [some (.ref r), some (.int x0)] [] (f_W xs I L) (fun r1 => Wp (d + 1) 73 54 ls (r1.1.toList ++ st) r1.2 Q) := Wp.cv (y' := 33) (as := [.int x0]) e73_51 rfl (by decide) rfl (show 2 ≤ 2 by decide) (by decide) hs ht
theorem e73_54 : decode (j_co 73) 54 = .ok (.iload_n 3, 1) := by decide +kernel
set_option maxRecDepth 20000 in
theorem w73_54 {d : Nat} {st : List Value} {Q : Option Value × jW → Prop} {w : jW} {a0 a1 a2 a4 a5 a6 : Option Value} {x : Int32} : Wp d 73 54 [a0, a1, a2, some (.int x), a4, a5, a6] (st) w Q = Wp d 73 55 [a0, a1, a2, some (.int x), a4, a5, a6] (.int x :: st) w Q := Wp.loc e73_54 rfl rfl rfl
theorem e73_55 : decode (j_co 73) 55 = .ok (.iload 6, 2) := by decide +kernel
set_option maxRecDepth 20000 in
theorem w73_55 {d : Nat} {st : List Value} {Q : Option Value × jW → Prop} {w : jW} {a0 a1 a2 a3 a4 a5 : Option Value} {x : Int32} : Wp d 73 55 [a0, a1, a2, a3, a4, a5, some (.int x)] (st) w Q = Wp d 73 57 [a0, a1, a2, a3, a4, a5, some (.int x)] (.int x :: st) w Q := Wp.loc e73_55 rfl rfl rfl
theorem e73_57 : decode (j_co 73) 57 = .ok (.isub, 1) := by decide +kernel
set_option maxRecDepth 20000 in
theorem w73_57 {d : Nat} {st : List Value} {Q : Option Value × jW → Prop} {ls : jL} {w : jW} {a b : Int32} : Wp d 73 57 ls (.int b :: .int a :: st) w Q = Wp d 73 58 ls (.int (a - b) :: st) w Q := Wp.alu e73_57 rfl rfl
theorem e73_58 : decode (j_co 73) 58 = .ok (.invokestatic 57, 3) := by decide +kernel
set_option maxRecDepth 20000 in
theorem w73_58 {d : Nat} {st : List Value} {Q : Option Value × jW → Prop} {ls : jL} {w : jW} {a b : Int32} (hs : j_sumc st ≤ 8) : Wp (d + 1) 73 58 ls (.int b :: .int a :: st) w Q = Wp (d + 1) 73 61 ls (.int (if a < b then b else a) :: st) w Q := Wp.mx e73_58 rfl hs
theorem e73_61 : decode (j_co 73) 61 = .ok (.ireturn, 1) := by decide +kernel
set_option maxRecDepth 20000 in
theorem w73_61 {d : Nat} {Q : Option Value × jW → Prop} {ls : jL} {w : jW} {x : Int32} : Wp d 73 61 ls [.int x] w Q = Q (some (.int x), w) := Wp.ret e73_61 rfl
theorem e73_62 : decode (j_co 73) 62 = .ok (.aload_n 0, 1) := by decide +kernel
set_option maxRecDepth 20000 in
theorem w73_62 {d : Nat} {st : List Value} {Q : Option Value × jW → Prop} {w : jW} {a1 a2 a3 a4 a5 a6 : Option Value} {x : Nat} : Wp d 73 62 [some (.ref x), a1, a2, a3, a4, a5, a6] (st) w Q = Wp d 73 63 [some (.ref x), a1, a2, a3, a4, a5, a6] (.ref x :: st) w Q := Wp.loc e73_62 rfl rfl rfl
theorem e73_63 : decode (j_co 73) 63 = .ok (.getfield 18, 3) := by decide +kernel
set_option maxRecDepth 20000 in
theorem w73_63 {d : Nat} {st : List Value} {Q : Option Value × jW → Prop} {ls : jL} {xs : List Value} {I : fI} {L : fL} {o : Nat} (ht : f_tg o = 9) : Wp d 73 63 ls (.ref o :: st) (f_W xs I L) Q = Wp d 73 66 ls (.ref (f_rf o 0) :: st) (f_W xs I L) Q := Wp.getR (ci := 9) (k := 0) e73_63 rfl (by decide) (by decide) rfl ht
theorem e73_66 : decode (j_co 73) 66 = .ok (.iload 5, 2) := by decide +kernel
set_option maxRecDepth 20000 in
theorem w73_66 {d : Nat} {st : List Value} {Q : Option Value × jW → Prop} {w : jW} {a0 a1 a2 a3 a4 a6 : Option Value} {x : Int32} : Wp d 73 66 [a0, a1, a2, a3, a4, some (.int x), a6] (st) w Q = Wp d 73 68 [a0, a1, a2, a3, a4, some (.int x), a6] (.int x :: st) w Q := Wp.loc e73_66 rfl rfl rfl
theorem e73_68 : decode (j_co 73) 68 = .ok (.iconst 1, 1) := by decide +kernel
set_option maxRecDepth 20000 in
theorem w73_68 {d : Nat} {st : List Value} {Q : Option Value × jW → Prop} {ls : jL} {w : jW} : Wp d 73 68 ls (st) w Q = Wp d 73 69 ls (.int (nI 1) :: st) w Q := Wp.alu e73_68 rfl rfl
theorem e73_69 : decode (j_co 73) 69 = .ok (.isub, 1) := by decide +kernel
set_option maxRecDepth 20000 in
theorem w73_69 {d : Nat} {st : List Value} {Q : Option Value × jW → Prop} {ls : jL} {w : jW} {a b : Int32} : Wp d 73 69 ls (.int b :: .int a :: st) w Q = Wp d 73 70 ls (.int (a - b) :: st) w Q := Wp.alu e73_69 rfl rfl
theorem e73_70 : decode (j_co 73) 70 = .ok (.invokevirtual 110, 3) := by decide +kernel
set_option maxRecDepth 20000 in
theorem w73_70 {d : Nat} {st : List Value} {Q : Option Value × jW → Prop} {ls : jL} {xs : List Value} {I : fI} {L : fL} {r : Nat} {x0 : Int32} (hs : j_sumc st ≤ 8) (ht : f_tg r = 5) : Wp (d + 1) 73 70 ls (.int x0 :: .ref r :: st) (f_W xs I L) Q = Wp d 22 0 [some (.ref r), some (.int x0)] [] (f_W xs I L) (fun r1 => Wp (d + 1) 73 73 ls (r1.1.toList ++ st) r1.2 Q) := Wp.cv (y' := 22) (as := [.int x0]) e73_70 rfl (by decide) rfl (show 2 ≤ 2 by decide) (by decide) hs ht
theorem e73_73 : decode (j_co 73) 73 = .ok (.ifCond .eq 54, 3) := by decide +kernel
set_option maxRecDepth 20000 in
theorem w73_73 {d : Nat} {st : List Value} {Q : Option Value × jW → Prop} {ls : jL} {w : jW} {a : Int32} : Wp d 73 73 ls (.int a :: st) w Q = ((a = nI 0 → Wp d 73 127 ls st w Q) ∧ (¬ a = nI 0 → Wp d 73 76 ls st w Q)) := Wp.if2 (c := a = nI 0) (off := 54) e73_73 rfl rfl rfl rfl rfl
theorem e73_76 : decode (j_co 73) 76 = .ok (.aload_n 0, 1) := by decide +kernel
set_option maxRecDepth 20000 in
theorem w73_76 {d : Nat} {st : List Value} {Q : Option Value × jW → Prop} {w : jW} {a1 a2 a3 a4 a5 a6 : Option Value} {x : Nat} : Wp d 73 76 [some (.ref x), a1, a2, a3, a4, a5, a6] (st) w Q = Wp d 73 77 [some (.ref x), a1, a2, a3, a4, a5, a6] (.ref x :: st) w Q := Wp.loc e73_76 rfl rfl rfl
theorem e73_77 : decode (j_co 73) 77 = .ok (.getfield 18, 3) := by decide +kernel
set_option maxRecDepth 20000 in
theorem w73_77 {d : Nat} {st : List Value} {Q : Option Value × jW → Prop} {ls : jL} {xs : List Value} {I : fI} {L : fL} {o : Nat} (ht : f_tg o = 9) : Wp d 73 77 ls (.ref o :: st) (f_W xs I L) Q = Wp d 73 80 ls (.ref (f_rf o 0) :: st) (f_W xs I L) Q := Wp.getR (ci := 9) (k := 0) e73_77 rfl (by decide) (by decide) rfl ht
theorem e73_80 : decode (j_co 73) 80 = .ok (.getfield 113, 3) := by decide +kernel
set_option maxRecDepth 20000 in
theorem w73_80 {d : Nat} {st : List Value} {Q : Option Value × jW → Prop} {ls : jL} {xs : List Value} {I : fI} {L : fL} {o : Nat} (ht : f_tg o = 5) : Wp d 73 80 ls (.ref o :: st) (f_W xs I L) Q = Wp d 73 83 ls (.ref (f_rf o 1) :: st) (f_W xs I L) Q := Wp.getR (ci := 5) (k := 1) e73_80 rfl (by decide) (by decide) rfl ht
theorem e73_83 : decode (j_co 73) 83 = .ok (.iload 5, 2) := by decide +kernel
set_option maxRecDepth 20000 in
theorem w73_83 {d : Nat} {st : List Value} {Q : Option Value × jW → Prop} {w : jW} {a0 a1 a2 a3 a4 a6 : Option Value} {x : Int32} : Wp d 73 83 [a0, a1, a2, a3, a4, some (.int x), a6] (st) w Q = Wp d 73 85 [a0, a1, a2, a3, a4, some (.int x), a6] (.int x :: st) w Q := Wp.loc e73_83 rfl rfl rfl
theorem e73_85 : decode (j_co 73) 85 = .ok (.iconst 1, 1) := by decide +kernel
set_option maxRecDepth 20000 in
theorem w73_85 {d : Nat} {st : List Value} {Q : Option Value × jW → Prop} {ls : jL} {w : jW} : Wp d 73 85 ls (st) w Q = Wp d 73 86 ls (.int (nI 1) :: st) w Q := Wp.alu e73_85 rfl rfl
theorem e73_86 : decode (j_co 73) 86 = .ok (.isub, 1) := by decide +kernel
set_option maxRecDepth 20000 in
theorem w73_86 {d : Nat} {st : List Value} {Q : Option Value × jW → Prop} {ls : jL} {w : jW} {a b : Int32} : Wp d 73 86 ls (.int b :: .int a :: st) w Q = Wp d 73 87 ls (.int (a - b) :: st) w Q := Wp.alu e73_86 rfl rfl
theorem e73_87 : decode (j_co 73) 87 = .ok (.aaload, 1) := by decide +kernel
set_option maxRecDepth 20000 in
theorem w73_87 {d : Nat} {st : List Value} {Q : Option Value × jW → Prop} {ls : jL} {xs : List Value} {I : fI} {L : fL} {o : Nat} {i : Int32} (ht : 103 ≤ f_tg o ∧ f_tg o ≤ 106) (hi : ¬ (i < 0 ∨ f_ln o ≤ i.toNatClampNeg)) : Wp d 73 87 ls (.int i :: .ref o :: st) (f_W xs I L) Q = Wp d 73 88 ls (.ref (f_rf o i.toNatClampNeg) :: st) (f_W xs I L) Q := Wp.aald e73_87 rfl ht hi
theorem e73_88 : decode (j_co 73) 88 = .ok (.iload_n 2, 1) := by decide +kernel
set_option maxRecDepth 20000 in
theorem w73_88 {d : Nat} {st : List Value} {Q : Option Value × jW → Prop} {w : jW} {a0 a1 a3 a4 a5 a6 : Option Value} {x : Int32} : Wp d 73 88 [a0, a1, some (.int x), a3, a4, a5, a6] (st) w Q = Wp d 73 89 [a0, a1, some (.int x), a3, a4, a5, a6] (.int x :: st) w Q := Wp.loc e73_88 rfl rfl rfl
theorem e73_89 : decode (j_co 73) 89 = .ok (.invokevirtual 117, 3) := by decide +kernel
set_option maxRecDepth 20000 in
theorem w73_89 {d : Nat} {st : List Value} {Q : Option Value × jW → Prop} {ls : jL} {xs : List Value} {I : fI} {L : fL} {r : Nat} {x0 : Int32} (hs : j_sumc st ≤ 8) (ht : f_tg r = 4) : Wp (d + 1) 73 89 ls (.int x0 :: .ref r :: st) (f_W xs I L) Q = Wp d 48 0 [some (.ref r), some (.int x0)] [] (f_W xs I L) (fun r1 => Wp (d + 1) 73 92 ls (r1.1.toList ++ st) r1.2 Q) := Wp.cv (y' := 48) (as := [.int x0]) e73_89 rfl (by decide) rfl (show 2 ≤ 2 by decide) (by decide) hs ht
theorem e73_92 : decode (j_co 73) 92 = .ok (.ifCond .eq 35, 3) := by decide +kernel
set_option maxRecDepth 20000 in
theorem w73_92 {d : Nat} {st : List Value} {Q : Option Value × jW → Prop} {ls : jL} {w : jW} {a : Int32} : Wp d 73 92 ls (.int a :: st) w Q = ((a = nI 0 → Wp d 73 127 ls st w Q) ∧ (¬ a = nI 0 → Wp d 73 95 ls st w Q)) := Wp.if2 (c := a = nI 0) (off := 35) e73_92 rfl rfl rfl rfl rfl
theorem e73_95 : decode (j_co 73) 95 = .ok (.aload 4, 2) := by decide +kernel
set_option maxRecDepth 20000 in
theorem w73_95 {d : Nat} {st : List Value} {Q : Option Value × jW → Prop} {w : jW} {a0 a1 a2 a3 a5 a6 : Option Value} {x : Nat} : Wp d 73 95 [a0, a1, a2, a3, some (.ref x), a5, a6] (st) w Q = Wp d 73 97 [a0, a1, a2, a3, some (.ref x), a5, a6] (.ref x :: st) w Q := Wp.loc e73_95 rfl rfl rfl
theorem e73_97 : decode (j_co 73) 97 = .ok (.getfield 40, 3) := by decide +kernel
set_option maxRecDepth 20000 in
theorem w73_97 {d : Nat} {st : List Value} {Q : Option Value × jW → Prop} {ls : jL} {xs : List Value} {I : fI} {L : fL} {o : Nat} (ht : f_tg o = 3) : Wp d 73 97 ls (.ref o :: st) (f_W xs I L) Q = Wp d 73 100 ls (.ref (f_rf o 0) :: st) (f_W xs I L) Q := Wp.getR (ci := 3) (k := 0) e73_97 rfl (by decide) (by decide) rfl ht
theorem e73_100 : decode (j_co 73) 100 = .ok (.iload_n 2, 1) := by decide +kernel
set_option maxRecDepth 20000 in
theorem w73_100 {d : Nat} {st : List Value} {Q : Option Value × jW → Prop} {w : jW} {a0 a1 a3 a4 a5 a6 : Option Value} {x : Int32} : Wp d 73 100 [a0, a1, some (.int x), a3, a4, a5, a6] (st) w Q = Wp d 73 101 [a0, a1, some (.int x), a3, a4, a5, a6] (.int x :: st) w Q := Wp.loc e73_100 rfl rfl rfl
theorem e73_101 : decode (j_co 73) 101 = .ok (.invokevirtual 46, 3) := by decide +kernel
set_option maxRecDepth 20000 in
theorem w73_101 {d : Nat} {st : List Value} {Q : Option Value × jW → Prop} {ls : jL} {xs : List Value} {I : fI} {L : fL} {r : Nat} {x0 : Int32} (hs : j_sumc st ≤ 8) (ht : f_tg r = 0) : Wp (d + 1) 73 101 ls (.int x0 :: .ref r :: st) (f_W xs I L) Q = Wp d 33 0 [some (.ref r), some (.int x0)] [] (f_W xs I L) (fun r1 => Wp (d + 1) 73 104 ls (r1.1.toList ++ st) r1.2 Q) := Wp.cv (y' := 33) (as := [.int x0]) e73_101 rfl (by decide) rfl (show 2 ≤ 2 by decide) (by decide) hs ht
theorem e73_104 : decode (j_co 73) 104 = .ok (.aload_n 0, 1) := by decide +kernel
set_option maxRecDepth 20000 in
theorem w73_104 {d : Nat} {st : List Value} {Q : Option Value × jW → Prop} {w : jW} {a1 a2 a3 a4 a5 a6 : Option Value} {x : Nat} : Wp d 73 104 [some (.ref x), a1, a2, a3, a4, a5, a6] (st) w Q = Wp d 73 105 [some (.ref x), a1, a2, a3, a4, a5, a6] (.ref x :: st) w Q := Wp.loc e73_104 rfl rfl rfl
theorem e73_105 : decode (j_co 73) 105 = .ok (.getfield 18, 3) := by decide +kernel
set_option maxRecDepth 20000 in
theorem w73_105 {d : Nat} {st : List Value} {Q : Option Value × jW → Prop} {ls : jL} {xs : List Value} {I : fI} {L : fL} {o : Nat} (ht : f_tg o = 9) : Wp d 73 105 ls (.ref o :: st) (f_W xs I L) Q = Wp d 73 108 ls (.ref (f_rf o 0) :: st) (f_W xs I L) Q := Wp.getR (ci := 9) (k := 0) e73_105 rfl (by decide) (by decide) rfl ht
theorem e73_108 : decode (j_co 73) 108 = .ok (.getfield 113, 3) := by decide +kernel
set_option maxRecDepth 20000 in
theorem w73_108 {d : Nat} {st : List Value} {Q : Option Value × jW → Prop} {ls : jL} {xs : List Value} {I : fI} {L : fL} {o : Nat} (ht : f_tg o = 5) : Wp d 73 108 ls (.ref o :: st) (f_W xs I L) Q = Wp d 73 111 ls (.ref (f_rf o 1) :: st) (f_W xs I L) Q := Wp.getR (ci := 5) (k := 1) e73_108 rfl (by decide) (by decide) rfl ht
theorem e73_111 : decode (j_co 73) 111 = .ok (.iload 5, 2) := by decide +kernel
set_option maxRecDepth 20000 in
theorem w73_111 {d : Nat} {st : List Value} {Q : Option Value × jW → Prop} {w : jW} {a0 a1 a2 a3 a4 a6 : Option Value} {x : Int32} : Wp d 73 111 [a0, a1, a2, a3, a4, some (.int x), a6] (st) w Q = Wp d 73 113 [a0, a1, a2, a3, a4, some (.int x), a6] (.int x :: st) w Q := Wp.loc e73_111 rfl rfl rfl
theorem e73_113 : decode (j_co 73) 113 = .ok (.iconst 1, 1) := by decide +kernel
set_option maxRecDepth 20000 in
theorem w73_113 {d : Nat} {st : List Value} {Q : Option Value × jW → Prop} {ls : jL} {w : jW} : Wp d 73 113 ls (st) w Q = Wp d 73 114 ls (.int (nI 1) :: st) w Q := Wp.alu e73_113 rfl rfl
theorem e73_114 : decode (j_co 73) 114 = .ok (.isub, 1) := by decide +kernel
set_option maxRecDepth 20000 in
theorem w73_114 {d : Nat} {st : List Value} {Q : Option Value × jW → Prop} {ls : jL} {w : jW} {a b : Int32} : Wp d 73 114 ls (.int b :: .int a :: st) w Q = Wp d 73 115 ls (.int (a - b) :: st) w Q := Wp.alu e73_114 rfl rfl
theorem e73_115 : decode (j_co 73) 115 = .ok (.aaload, 1) := by decide +kernel
set_option maxRecDepth 20000 in
theorem w73_115 {d : Nat} {st : List Value} {Q : Option Value × jW → Prop} {ls : jL} {xs : List Value} {I : fI} {L : fL} {o : Nat} {i : Int32} (ht : 103 ≤ f_tg o ∧ f_tg o ≤ 106) (hi : ¬ (i < 0 ∨ f_ln o ≤ i.toNatClampNeg)) : Wp d 73 115 ls (.int i :: .ref o :: st) (f_W xs I L) Q = Wp d 73 116 ls (.ref (f_rf o i.toNatClampNeg) :: st) (f_W xs I L) Q := Wp.aald e73_115 rfl ht hi
theorem e73_116 : decode (j_co 73) 116 = .ok (.getfield 122, 3) := by decide +kernel
set_option maxRecDepth 20000 in
theorem w73_116 {d : Nat} {st : List Value} {Q : Option Value × jW → Prop} {ls : jL} {xs : List Value} {I : fI} {L : fL} {o : Nat} (ht : f_tg o = 4) : Wp d 73 116 ls (.ref o :: st) (f_W xs I L) Q = Wp d 73 119 ls (.ref (f_rf o 0) :: st) (f_W xs I L) Q := Wp.getR (ci := 4) (k := 0) e73_116 rfl (by decide) (by decide) rfl ht
theorem e73_119 : decode (j_co 73) 119 = .ok (.iload_n 2, 1) := by decide +kernel
set_option maxRecDepth 20000 in
theorem w73_119 {d : Nat} {st : List Value} {Q : Option Value × jW → Prop} {w : jW} {a0 a1 a3 a4 a5 a6 : Option Value} {x : Int32} : Wp d 73 119 [a0, a1, some (.int x), a3, a4, a5, a6] (st) w Q = Wp d 73 120 [a0, a1, some (.int x), a3, a4, a5, a6] (.int x :: st) w Q := Wp.loc e73_119 rfl rfl rfl
theorem e73_120 : decode (j_co 73) 120 = .ok (.invokevirtual 46, 3) := by decide +kernel
set_option maxRecDepth 20000 in
theorem w73_120 {d : Nat} {st : List Value} {Q : Option Value × jW → Prop} {ls : jL} {xs : List Value} {I : fI} {L : fL} {r : Nat} {x0 : Int32} (hs : j_sumc st ≤ 8) (ht : f_tg r = 0) : Wp (d + 1) 73 120 ls (.int x0 :: .ref r :: st) (f_W xs I L) Q = Wp d 33 0 [some (.ref r), some (.int x0)] [] (f_W xs I L) (fun r1 => Wp (d + 1) 73 123 ls (r1.1.toList ++ st) r1.2 Q) := Wp.cv (y' := 33) (as := [.int x0]) e73_120 rfl (by decide) rfl (show 2 ≤ 2 by decide) (by decide) hs ht
theorem e73_123 : decode (j_co 73) 123 = .ok (.invokestatic 57, 3) := by decide +kernel
set_option maxRecDepth 20000 in
theorem w73_123 {d : Nat} {st : List Value} {Q : Option Value × jW → Prop} {ls : jL} {w : jW} {a b : Int32} (hs : j_sumc st ≤ 8) : Wp (d + 1) 73 123 ls (.int b :: .int a :: st) w Q = Wp (d + 1) 73 126 ls (.int (if a < b then b else a) :: st) w Q := Wp.mx e73_123 rfl hs
theorem e73_126 : decode (j_co 73) 126 = .ok (.ireturn, 1) := by decide +kernel
set_option maxRecDepth 20000 in
theorem w73_126 {d : Nat} {Q : Option Value × jW → Prop} {ls : jL} {w : jW} {x : Int32} : Wp d 73 126 ls [.int x] w Q = Q (some (.int x), w) := Wp.ret e73_126 rfl
theorem e73_127 : decode (j_co 73) 127 = .ok (.iload_n 3, 1) := by decide +kernel
set_option maxRecDepth 20000 in
theorem w73_127 {d : Nat} {st : List Value} {Q : Option Value × jW → Prop} {w : jW} {a0 a1 a2 a4 a5 a6 : Option Value} {x : Int32} : Wp d 73 127 [a0, a1, a2, some (.int x), a4, a5, a6] (st) w Q = Wp d 73 128 [a0, a1, a2, some (.int x), a4, a5, a6] (.int x :: st) w Q := Wp.loc e73_127 rfl rfl rfl
theorem e73_128 : decode (j_co 73) 128 = .ok (.ireturn, 1) := by decide +kernel
set_option maxRecDepth 20000 in
theorem w73_128 {d : Nat} {Q : Option Value × jW → Prop} {ls : jL} {w : jW} {x : Int32} : Wp d 73 128 ls [.int x] w Q = Q (some (.int x), w) := Wp.ret e73_128 rfl
/-! Trail.partOf -/
theorem e75_0 : decode (j_co 75) 0 = .ok (.iload_n 1, 1) := by decide +kernel
set_option maxRecDepth 20000 in
theorem w75_0 {d : Nat} {st : List Value} {Q : Option Value × jW → Prop} {w : jW} {a0 a2 : Option Value} {x : Int32} : Wp d 75 0 [a0, some (.int x), a2] (st) w Q = Wp d 75 1 [a0, some (.int x), a2] (.int x :: st) w Q := Wp.loc e75_0 rfl rfl rfl
theorem e75_1 : decode (j_co 75) 1 = .ok (.ifCond .lt 11, 3) := by decide +kernel
set_option maxRecDepth 20000 in
theorem w75_1 {d : Nat} {st : List Value} {Q : Option Value × jW → Prop} {ls : jL} {w : jW} {a : Int32} : Wp d 75 1 ls (.int a :: st) w Q = ((a < nI 0 → Wp d 75 12 ls st w Q) ∧ (¬ a < nI 0 → Wp d 75 4 ls st w Q)) := Wp.if2 (c := a < nI 0) (off := 11) e75_1 rfl rfl rfl rfl rfl
theorem e75_4 : decode (j_co 75) 4 = .ok (.iload_n 1, 1) := by decide +kernel
set_option maxRecDepth 20000 in
theorem w75_4 {d : Nat} {st : List Value} {Q : Option Value × jW → Prop} {w : jW} {a0 a2 : Option Value} {x : Int32} : Wp d 75 4 [a0, some (.int x), a2] (st) w Q = Wp d 75 5 [a0, some (.int x), a2] (.int x :: st) w Q := Wp.loc e75_4 rfl rfl rfl
theorem e75_5 : decode (j_co 75) 5 = .ok (.aload_n 0, 1) := by decide +kernel
set_option maxRecDepth 20000 in
theorem w75_5 {d : Nat} {st : List Value} {Q : Option Value × jW → Prop} {w : jW} {a1 a2 : Option Value} {x : Nat} : Wp d 75 5 [some (.ref x), a1, a2] (st) w Q = Wp d 75 6 [some (.ref x), a1, a2] (.ref x :: st) w Q := Wp.loc e75_5 rfl rfl rfl
theorem e75_6 : decode (j_co 75) 6 = .ok (.getfield 63, 3) := by decide +kernel
set_option maxRecDepth 20000 in
theorem w75_6 {d : Nat} {st : List Value} {Q : Option Value × jW → Prop} {ls : jL} {xs : List Value} {I : fI} {L : fL} {o : Nat} (ht : f_tg o = 9) : Wp d 75 6 ls (.ref o :: st) (f_W xs I L) Q = Wp d 75 9 ls (.int (I o 4) :: st) (f_W xs I L) Q := Wp.getI (ci := 9) (k := 4) e75_6 rfl (by decide) (by decide) (by decide) ht
theorem e75_9 : decode (j_co 75) 9 = .ok (.if_icmp .lt 6, 3) := by decide +kernel
set_option maxRecDepth 20000 in
theorem w75_9 {d : Nat} {st : List Value} {Q : Option Value × jW → Prop} {ls : jL} {w : jW} {a b : Int32} : Wp d 75 9 ls (.int b :: .int a :: st) w Q = ((a < b → Wp d 75 15 ls st w Q) ∧ (¬ a < b → Wp d 75 12 ls st w Q)) := Wp.if2 (c := a < b) (off := 6) e75_9 rfl rfl rfl rfl rfl
theorem e75_12 : decode (j_co 75) 12 = .ok (.bipush (-100), 2) := by decide +kernel
set_option maxRecDepth 20000 in
theorem w75_12 {d : Nat} {st : List Value} {Q : Option Value × jW → Prop} {ls : jL} {w : jW} : Wp d 75 12 ls (st) w Q = Wp d 75 14 ls (.int (-100) :: st) w Q := Wp.alu e75_12 rfl rfl
theorem e75_14 : decode (j_co 75) 14 = .ok (.ireturn, 1) := by decide +kernel
set_option maxRecDepth 20000 in
theorem w75_14 {d : Nat} {Q : Option Value × jW → Prop} {ls : jL} {w : jW} {x : Int32} : Wp d 75 14 ls [.int x] w Q = Q (some (.int x), w) := Wp.ret e75_14 rfl
theorem e75_15 : decode (j_co 75) 15 = .ok (.iload_n 2, 1) := by decide +kernel
set_option maxRecDepth 20000 in
theorem w75_15 {d : Nat} {st : List Value} {Q : Option Value × jW → Prop} {w : jW} {a0 a1 : Option Value} {x : Int32} : Wp d 75 15 [a0, a1, some (.int x)] (st) w Q = Wp d 75 16 [a0, a1, some (.int x)] (.int x :: st) w Q := Wp.loc e75_15 rfl rfl rfl
theorem e75_16 : decode (j_co 75) 16 = .ok (.lookupswitch 46 #[(0, 28), (4, 37)], 28) := by decide +kernel
theorem e75_44 : decode (j_co 75) 44 = .ok (.aload_n 0, 1) := by decide +kernel
set_option maxRecDepth 20000 in
theorem w75_44 {d : Nat} {st : List Value} {Q : Option Value × jW → Prop} {w : jW} {a1 a2 : Option Value} {x : Nat} : Wp d 75 44 [some (.ref x), a1, a2] (st) w Q = Wp d 75 45 [some (.ref x), a1, a2] (.ref x :: st) w Q := Wp.loc e75_44 rfl rfl rfl
theorem e75_45 : decode (j_co 75) 45 = .ok (.iload_n 1, 1) := by decide +kernel
set_option maxRecDepth 20000 in
theorem w75_45 {d : Nat} {st : List Value} {Q : Option Value × jW → Prop} {w : jW} {a0 a2 : Option Value} {x : Int32} : Wp d 75 45 [a0, some (.int x), a2] (st) w Q = Wp d 75 46 [a0, some (.int x), a2] (.int x :: st) w Q := Wp.loc e75_45 rfl rfl rfl
theorem e75_46 : decode (j_co 75) 46 = .ok (.invokevirtual 75, 3) := by decide +kernel
set_option maxRecDepth 20000 in
theorem w75_46 {d : Nat} {st : List Value} {Q : Option Value × jW → Prop} {ls : jL} {xs : List Value} {I : fI} {L : fL} {r : Nat} {x0 : Int32} (hs : j_sumc st ≤ 8) (ht : f_tg r = 9) : Wp (d + 1) 75 46 ls (.int x0 :: .ref r :: st) (f_W xs I L) Q = Wp d 172 0 [some (.ref r), some (.int x0)] [] (f_W xs I L) (fun r1 => Wp (d + 1) 75 49 ls (r1.1.toList ++ st) r1.2 Q) := Wp.cv (y' := 172) (as := [.int x0]) e75_46 rfl (by decide) rfl (show 2 ≤ 2 by decide) (by decide) hs ht
theorem e75_49 : decode (j_co 75) 49 = .ok (.getfield 78, 3) := by decide +kernel
set_option maxRecDepth 20000 in
theorem w75_49 {d : Nat} {st : List Value} {Q : Option Value × jW → Prop} {ls : jL} {xs : List Value} {I : fI} {L : fL} {o : Nat} (ht : f_tg o = 3) : Wp d 75 49 ls (.ref o :: st) (f_W xs I L) Q = Wp d 75 52 ls (.int (I o 1) :: st) (f_W xs I L) Q := Wp.getI (ci := 3) (k := 1) e75_49 rfl (by decide) (by decide) (by decide) ht
theorem e75_52 : decode (j_co 75) 52 = .ok (.ireturn, 1) := by decide +kernel
set_option maxRecDepth 20000 in
theorem w75_52 {d : Nat} {Q : Option Value × jW → Prop} {ls : jL} {w : jW} {x : Int32} : Wp d 75 52 ls [.int x] w Q = Q (some (.int x), w) := Wp.ret e75_52 rfl
theorem e75_53 : decode (j_co 75) 53 = .ok (.aload_n 0, 1) := by decide +kernel
set_option maxRecDepth 20000 in
theorem w75_53 {d : Nat} {st : List Value} {Q : Option Value × jW → Prop} {w : jW} {a1 a2 : Option Value} {x : Nat} : Wp d 75 53 [some (.ref x), a1, a2] (st) w Q = Wp d 75 54 [some (.ref x), a1, a2] (.ref x :: st) w Q := Wp.loc e75_53 rfl rfl rfl
theorem e75_54 : decode (j_co 75) 54 = .ok (.iload_n 1, 1) := by decide +kernel
set_option maxRecDepth 20000 in
theorem w75_54 {d : Nat} {st : List Value} {Q : Option Value × jW → Prop} {w : jW} {a0 a2 : Option Value} {x : Int32} : Wp d 75 54 [a0, some (.int x), a2] (st) w Q = Wp d 75 55 [a0, some (.int x), a2] (.int x :: st) w Q := Wp.loc e75_54 rfl rfl rfl
theorem e75_55 : decode (j_co 75) 55 = .ok (.invokevirtual 75, 3) := by decide +kernel
set_option maxRecDepth 20000 in
theorem w75_55 {d : Nat} {st : List Value} {Q : Option Value × jW → Prop} {ls : jL} {xs : List Value} {I : fI} {L : fL} {r : Nat} {x0 : Int32} (hs : j_sumc st ≤ 8) (ht : f_tg r = 9) : Wp (d + 1) 75 55 ls (.int x0 :: .ref r :: st) (f_W xs I L) Q = Wp d 172 0 [some (.ref r), some (.int x0)] [] (f_W xs I L) (fun r1 => Wp (d + 1) 75 58 ls (r1.1.toList ++ st) r1.2 Q) := Wp.cv (y' := 172) (as := [.int x0]) e75_55 rfl (by decide) rfl (show 2 ≤ 2 by decide) (by decide) hs ht
theorem e75_58 : decode (j_co 75) 58 = .ok (.getfield 81, 3) := by decide +kernel
set_option maxRecDepth 20000 in
theorem w75_58 {d : Nat} {st : List Value} {Q : Option Value × jW → Prop} {ls : jL} {xs : List Value} {I : fI} {L : fL} {o : Nat} (ht : f_tg o = 3) : Wp d 75 58 ls (.ref o :: st) (f_W xs I L) Q = Wp d 75 61 ls (.int (I o 3) :: st) (f_W xs I L) Q := Wp.getI (ci := 3) (k := 3) e75_58 rfl (by decide) (by decide) (by decide) ht
theorem e75_61 : decode (j_co 75) 61 = .ok (.ireturn, 1) := by decide +kernel
set_option maxRecDepth 20000 in
theorem w75_61 {d : Nat} {Q : Option Value × jW → Prop} {ls : jL} {w : jW} {x : Int32} : Wp d 75 61 ls [.int x] w Q = Q (some (.int x), w) := Wp.ret e75_61 rfl
theorem e75_62 : decode (j_co 75) 62 = .ok (.iload_n 2, 1) := by decide +kernel
set_option maxRecDepth 20000 in
theorem w75_62 {d : Nat} {st : List Value} {Q : Option Value × jW → Prop} {w : jW} {a0 a1 : Option Value} {x : Int32} : Wp d 75 62 [a0, a1, some (.int x)] (st) w Q = Wp d 75 63 [a0, a1, some (.int x)] (.int x :: st) w Q := Wp.loc e75_62 rfl rfl rfl
theorem e75_63 : decode (j_co 75) 63 = .ok (.iconst 1, 1) := by decide +kernel
set_option maxRecDepth 20000 in
theorem w75_63 {d : Nat} {st : List Value} {Q : Option Value × jW → Prop} {ls : jL} {w : jW} : Wp d 75 63 ls (st) w Q = Wp d 75 64 ls (.int (nI 1) :: st) w Q := Wp.alu e75_63 rfl rfl
theorem e75_64 : decode (j_co 75) 64 = .ok (.isub, 1) := by decide +kernel
set_option maxRecDepth 20000 in
theorem w75_64 {d : Nat} {st : List Value} {Q : Option Value × jW → Prop} {ls : jL} {w : jW} {a b : Int32} : Wp d 75 64 ls (.int b :: .int a :: st) w Q = Wp d 75 65 ls (.int (a - b) :: st) w Q := Wp.alu e75_64 rfl rfl
theorem e75_65 : decode (j_co 75) 65 = .ok (.invokestatic 84, 3) := by decide +kernel
set_option maxRecDepth 20000 in
theorem w75_65 {d : Nat} {st : List Value} {Q : Option Value × jW → Prop} {ls : jL} {w : jW} {x0 : Int32} (hs : j_sumc st ≤ 8) : Wp (d + 1) 75 65 ls (.int x0 :: st) w Q = Wp d 18 0 [some (.int x0)] [] w (fun r1 => Wp (d + 1) 75 68 ls (r1.1.toList ++ st) r1.2 Q) := Wp.cs (kd := 4) (y' := 18) (as := [.int x0]) e75_65 rfl (by decide) (by decide) rfl (show 1 ≤ 1 by decide) hs
theorem e75_68 : decode (j_co 75) 68 = .ok (.ifCond .eq 18, 3) := by decide +kernel
set_option maxRecDepth 20000 in
theorem w75_68 {d : Nat} {st : List Value} {Q : Option Value × jW → Prop} {ls : jL} {w : jW} {a : Int32} : Wp d 75 68 ls (.int a :: st) w Q = ((a = nI 0 → Wp d 75 86 ls st w Q) ∧ (¬ a = nI 0 → Wp d 75 71 ls st w Q)) := Wp.if2 (c := a = nI 0) (off := 18) e75_68 rfl rfl rfl rfl rfl
theorem e75_71 : decode (j_co 75) 71 = .ok (.aload_n 0, 1) := by decide +kernel
set_option maxRecDepth 20000 in
theorem w75_71 {d : Nat} {st : List Value} {Q : Option Value × jW → Prop} {w : jW} {a1 a2 : Option Value} {x : Nat} : Wp d 75 71 [some (.ref x), a1, a2] (st) w Q = Wp d 75 72 [some (.ref x), a1, a2] (.ref x :: st) w Q := Wp.loc e75_71 rfl rfl rfl
theorem e75_72 : decode (j_co 75) 72 = .ok (.getfield 15, 3) := by decide +kernel
set_option maxRecDepth 20000 in
theorem w75_72 {d : Nat} {st : List Value} {Q : Option Value × jW → Prop} {ls : jL} {xs : List Value} {I : fI} {L : fL} {o : Nat} (ht : f_tg o = 9) : Wp d 75 72 ls (.ref o :: st) (f_W xs I L) Q = Wp d 75 75 ls (.ref (f_rf o 3) :: st) (f_W xs I L) Q := Wp.getR (ci := 9) (k := 3) e75_72 rfl (by decide) (by decide) rfl ht
theorem e75_75 : decode (j_co 75) 75 = .ok (.iconst 3, 1) := by decide +kernel
set_option maxRecDepth 20000 in
theorem w75_75 {d : Nat} {st : List Value} {Q : Option Value × jW → Prop} {ls : jL} {w : jW} : Wp d 75 75 ls (st) w Q = Wp d 75 76 ls (.int (nI 3) :: st) w Q := Wp.alu e75_75 rfl rfl
theorem e75_76 : decode (j_co 75) 76 = .ok (.iload_n 1, 1) := by decide +kernel
set_option maxRecDepth 20000 in
theorem w75_76 {d : Nat} {st : List Value} {Q : Option Value × jW → Prop} {w : jW} {a0 a2 : Option Value} {x : Int32} : Wp d 75 76 [a0, some (.int x), a2] (st) w Q = Wp d 75 77 [a0, some (.int x), a2] (.int x :: st) w Q := Wp.loc e75_76 rfl rfl rfl
theorem e75_77 : decode (j_co 75) 77 = .ok (.imul, 1) := by decide +kernel
set_option maxRecDepth 20000 in
theorem w75_77 {d : Nat} {st : List Value} {Q : Option Value × jW → Prop} {ls : jL} {w : jW} {a b : Int32} : Wp d 75 77 ls (.int b :: .int a :: st) w Q = Wp d 75 78 ls (.int (a * b) :: st) w Q := Wp.alu e75_77 rfl rfl
theorem e75_78 : decode (j_co 75) 78 = .ok (.iload_n 2, 1) := by decide +kernel
set_option maxRecDepth 20000 in
theorem w75_78 {d : Nat} {st : List Value} {Q : Option Value × jW → Prop} {w : jW} {a0 a1 : Option Value} {x : Int32} : Wp d 75 78 [a0, a1, some (.int x)] (st) w Q = Wp d 75 79 [a0, a1, some (.int x)] (.int x :: st) w Q := Wp.loc e75_78 rfl rfl rfl
theorem e75_79 : decode (j_co 75) 79 = .ok (.iadd, 1) := by decide +kernel
set_option maxRecDepth 20000 in
theorem w75_79 {d : Nat} {st : List Value} {Q : Option Value × jW → Prop} {ls : jL} {w : jW} {a b : Int32} : Wp d 75 79 ls (.int b :: .int a :: st) w Q = Wp d 75 80 ls (.int (a + b) :: st) w Q := Wp.alu e75_79 rfl rfl
theorem e75_80 : decode (j_co 75) 80 = .ok (.iconst 1, 1) := by decide +kernel
set_option maxRecDepth 20000 in
theorem w75_80 {d : Nat} {st : List Value} {Q : Option Value × jW → Prop} {ls : jL} {w : jW} : Wp d 75 80 ls (st) w Q = Wp d 75 81 ls (.int (nI 1) :: st) w Q := Wp.alu e75_80 rfl rfl
theorem e75_81 : decode (j_co 75) 81 = .ok (.isub, 1) := by decide +kernel
set_option maxRecDepth 20000 in
theorem w75_81 {d : Nat} {st : List Value} {Q : Option Value × jW → Prop} {ls : jL} {w : jW} {a b : Int32} : Wp d 75 81 ls (.int b :: .int a :: st) w Q = Wp d 75 82 ls (.int (a - b) :: st) w Q := Wp.alu e75_81 rfl rfl
theorem e75_82 : decode (j_co 75) 82 = .ok (.iaload, 1) := by decide +kernel
set_option maxRecDepth 20000 in
theorem w75_82 {d : Nat} {st : List Value} {Q : Option Value × jW → Prop} {ls : jL} {xs : List Value} {I : fI} {L : fL} {o : Nat} {i : Int32} (ht : f_tg o = 100) (hi : ¬ (i < 0 ∨ f_ln o ≤ i.toNatClampNeg)) : Wp d 75 82 ls (.int i :: .ref o :: st) (f_W xs I L) Q = Wp d 75 83 ls (.int (I o i.toNatClampNeg) :: st) (f_W xs I L) Q := Wp.iald e75_82 ht hi
theorem e75_83 : decode (j_co 75) 83 = .ok (.goto 5, 3) := by decide +kernel
set_option maxRecDepth 20000 in
theorem w75_83 {d : Nat} {st : List Value} {Q : Option Value × jW → Prop} {ls : jL} {w : jW} : Wp d 75 83 ls (st) w Q = Wp d 75 88 ls (st) w Q := Wp.br e75_83 (Or.inl rfl) rfl rfl rfl rfl
theorem e75_86 : decode (j_co 75) 86 = .ok (.bipush (-100), 2) := by decide +kernel
set_option maxRecDepth 20000 in
theorem w75_86 {d : Nat} {st : List Value} {Q : Option Value × jW → Prop} {ls : jL} {w : jW} : Wp d 75 86 ls (st) w Q = Wp d 75 88 ls (.int (-100) :: st) w Q := Wp.alu e75_86 rfl rfl
theorem e75_88 : decode (j_co 75) 88 = .ok (.ireturn, 1) := by decide +kernel
set_option maxRecDepth 20000 in
theorem w75_88 {d : Nat} {Q : Option Value × jW → Prop} {ls : jL} {w : jW} {x : Int32} : Wp d 75 88 ls [.int x] w Q = Q (some (.int x), w) := Wp.ret e75_88 rfl
/-! Fences.tell -/
theorem e77_0 : decode (j_co 77) 0 = .ok (.aload_n 1, 1) := by decide +kernel
set_option maxRecDepth 20000 in
theorem w77_0 {d : Nat} {st : List Value} {Q : Option Value × jW → Prop} {w : jW} {a0 a2 a3 a4 : Option Value} {x : Nat} : Wp d 77 0 [a0, some (.ref x), a2, a3, a4] (st) w Q = Wp d 77 1 [a0, some (.ref x), a2, a3, a4] (.ref x :: st) w Q := Wp.loc e77_0 rfl rfl rfl
theorem e77_1 : decode (j_co 77) 1 = .ok (.getfield 25, 3) := by decide +kernel
set_option maxRecDepth 20000 in
theorem w77_1 {d : Nat} {st : List Value} {Q : Option Value × jW → Prop} {ls : jL} {xs : List Value} {I : fI} {L : fL} {o : Nat} (ht : f_tg o = 6) : Wp d 77 1 ls (.ref o :: st) (f_W xs I L) Q = Wp d 77 4 ls (.int (I o 3) :: st) (f_W xs I L) Q := Wp.getI (ci := 6) (k := 3) e77_1 rfl (by decide) (by decide) (by decide) ht
theorem e77_4 : decode (j_co 77) 4 = .ok (.ifCond .ne 19, 3) := by decide +kernel
set_option maxRecDepth 20000 in
theorem w77_4 {d : Nat} {st : List Value} {Q : Option Value × jW → Prop} {ls : jL} {w : jW} {a : Int32} : Wp d 77 4 ls (.int a :: st) w Q = ((a = nI 0 → Wp d 77 7 ls st w Q) ∧ (¬ a = nI 0 → Wp d 77 23 ls st w Q)) := Wp.if2n (c := a = nI 0) (off := 19) e77_4 rfl rfl rfl rfl rfl
theorem e77_7 : decode (j_co 77) 7 = .ok (.aload_n 1, 1) := by decide +kernel
set_option maxRecDepth 20000 in
theorem w77_7 {d : Nat} {st : List Value} {Q : Option Value × jW → Prop} {w : jW} {a0 a2 a3 a4 : Option Value} {x : Nat} : Wp d 77 7 [a0, some (.ref x), a2, a3, a4] (st) w Q = Wp d 77 8 [a0, some (.ref x), a2, a3, a4] (.ref x :: st) w Q := Wp.loc e77_7 rfl rfl rfl
theorem e77_8 : decode (j_co 77) 8 = .ok (.getfield 31, 3) := by decide +kernel
set_option maxRecDepth 20000 in
theorem w77_8 {d : Nat} {st : List Value} {Q : Option Value × jW → Prop} {ls : jL} {xs : List Value} {I : fI} {L : fL} {o : Nat} (ht : f_tg o = 6) : Wp d 77 8 ls (.ref o :: st) (f_W xs I L) Q = Wp d 77 11 ls (.ref (f_rf o 2) :: st) (f_W xs I L) Q := Wp.getR (ci := 6) (k := 2) e77_8 rfl (by decide) (by decide) rfl ht
theorem e77_11 : decode (j_co 77) 11 = .ok (.bipush (-20), 2) := by decide +kernel
set_option maxRecDepth 20000 in
theorem w77_11 {d : Nat} {st : List Value} {Q : Option Value × jW → Prop} {ls : jL} {w : jW} : Wp d 77 11 ls (st) w Q = Wp d 77 13 ls (.int (-20) :: st) w Q := Wp.alu e77_11 rfl rfl
theorem e77_13 : decode (j_co 77) 13 = .ok (.bipush 20, 2) := by decide +kernel
set_option maxRecDepth 20000 in
theorem w77_13 {d : Nat} {st : List Value} {Q : Option Value × jW → Prop} {ls : jL} {w : jW} : Wp d 77 13 ls (st) w Q = Wp d 77 15 ls (.int (nI 20) :: st) w Q := Wp.alu e77_13 rfl rfl
theorem e77_15 : decode (j_co 77) 15 = .ok (.invokevirtual 34, 3) := by decide +kernel
set_option maxRecDepth 20000 in
theorem w77_15 {d : Nat} {st : List Value} {Q : Option Value × jW → Prop} {ls : jL} {xs : List Value} {I : fI} {L : fL} {r : Nat} {x0 : Int32} {x1 : Int32} (hs : j_sumc st ≤ 8) (ht : f_tg r = 0) : Wp (d + 1) 77 15 ls (.int x1 :: .int x0 :: .ref r :: st) (f_W xs I L) Q = Wp d 4 0 [some (.ref r), some (.int x0), some (.int x1), none] [] (f_W xs I L) (fun r1 => Wp (d + 1) 77 18 ls (r1.1.toList ++ st) r1.2 Q) := Wp.cv (y' := 4) (as := [.int x0, .int x1]) e77_15 rfl (by decide) rfl (show 3 ≤ 4 by decide) (by decide) hs ht
theorem e77_18 : decode (j_co 77) 18 = .ok (.aload_n 1, 1) := by decide +kernel
set_option maxRecDepth 20000 in
theorem w77_18 {d : Nat} {st : List Value} {Q : Option Value × jW → Prop} {w : jW} {a0 a2 a3 a4 : Option Value} {x : Nat} : Wp d 77 18 [a0, some (.ref x), a2, a3, a4] (st) w Q = Wp d 77 19 [a0, some (.ref x), a2, a3, a4] (.ref x :: st) w Q := Wp.loc e77_18 rfl rfl rfl
theorem e77_19 : decode (j_co 77) 19 = .ok (.iconst 1, 1) := by decide +kernel
set_option maxRecDepth 20000 in
theorem w77_19 {d : Nat} {st : List Value} {Q : Option Value × jW → Prop} {ls : jL} {w : jW} : Wp d 77 19 ls (st) w Q = Wp d 77 20 ls (.int (nI 1) :: st) w Q := Wp.alu e77_19 rfl rfl
theorem e77_20 : decode (j_co 77) 20 = .ok (.putfield 25, 3) := by decide +kernel
set_option maxRecDepth 20000 in
theorem w77_20 {d : Nat} {st : List Value} {Q : Option Value × jW → Prop} {ls : jL} {xs : List Value} {I : fI} {L : fL} {o : Nat} {x : Int32} (ht : f_tg o = 6) (hx : x = 0 ∨ x = 1) : Wp d 77 20 ls (.int x :: .ref o :: st) (f_W xs I L) Q = Wp d 77 23 ls (st) (f_W xs (f_up I o 3 x) L) Q := Wp.putI (ci := 6) (k := 3) e77_20 rfl (by decide) (by decide) (by rcases hx with rfl | rfl <;> rfl) (by decide) ht
theorem e77_23 : decode (j_co 77) 23 = .ok (.aload_n 1, 1) := by decide +kernel
set_option maxRecDepth 20000 in
theorem w77_23 {d : Nat} {st : List Value} {Q : Option Value × jW → Prop} {w : jW} {a0 a2 a3 a4 : Option Value} {x : Nat} : Wp d 77 23 [a0, some (.ref x), a2, a3, a4] (st) w Q = Wp d 77 24 [a0, some (.ref x), a2, a3, a4] (.ref x :: st) w Q := Wp.loc e77_23 rfl rfl rfl
theorem e77_24 : decode (j_co 77) 24 = .ok (.getfield 31, 3) := by decide +kernel
set_option maxRecDepth 20000 in
theorem w77_24 {d : Nat} {st : List Value} {Q : Option Value × jW → Prop} {ls : jL} {xs : List Value} {I : fI} {L : fL} {o : Nat} (ht : f_tg o = 6) : Wp d 77 24 ls (.ref o :: st) (f_W xs I L) Q = Wp d 77 27 ls (.ref (f_rf o 2) :: st) (f_W xs I L) Q := Wp.getR (ci := 6) (k := 2) e77_24 rfl (by decide) (by decide) rfl ht
theorem e77_27 : decode (j_co 77) 27 = .ok (.iload_n 2, 1) := by decide +kernel
set_option maxRecDepth 20000 in
theorem w77_27 {d : Nat} {st : List Value} {Q : Option Value × jW → Prop} {w : jW} {a0 a1 a3 a4 : Option Value} {x : Int32} : Wp d 77 27 [a0, a1, some (.int x), a3, a4] (st) w Q = Wp d 77 28 [a0, a1, some (.int x), a3, a4] (.int x :: st) w Q := Wp.loc e77_27 rfl rfl rfl
theorem e77_28 : decode (j_co 77) 28 = .ok (.iload_n 3, 1) := by decide +kernel
set_option maxRecDepth 20000 in
theorem w77_28 {d : Nat} {st : List Value} {Q : Option Value × jW → Prop} {w : jW} {a0 a1 a2 a4 : Option Value} {x : Int32} : Wp d 77 28 [a0, a1, a2, some (.int x), a4] (st) w Q = Wp d 77 29 [a0, a1, a2, some (.int x), a4] (.int x :: st) w Q := Wp.loc e77_28 rfl rfl rfl
theorem e77_29 : decode (j_co 77) 29 = .ok (.iload 4, 2) := by decide +kernel
set_option maxRecDepth 20000 in
theorem w77_29 {d : Nat} {st : List Value} {Q : Option Value × jW → Prop} {w : jW} {a0 a1 a2 a3 : Option Value} {x : Int32} : Wp d 77 29 [a0, a1, a2, a3, some (.int x)] (st) w Q = Wp d 77 31 [a0, a1, a2, a3, some (.int x)] (.int x :: st) w Q := Wp.loc e77_29 rfl rfl rfl
theorem e77_31 : decode (j_co 77) 31 = .ok (.invokevirtual 38, 3) := by decide +kernel
set_option maxRecDepth 20000 in
theorem w77_31 {d : Nat} {st : List Value} {Q : Option Value × jW → Prop} {ls : jL} {xs : List Value} {I : fI} {L : fL} {r : Nat} {x0 : Int32} {x1 : Int32} {x2 : Int32} (hs : j_sumc st ≤ 8) (ht : f_tg r = 0) : Wp (d + 1) 77 31 ls (.int x2 :: .int x1 :: .int x0 :: .ref r :: st) (f_W xs I L) Q = Wp d 5 0 [some (.ref r), some (.int x0), some (.int x1), some (.int x2)] [] (f_W xs I L) (fun r1 => Wp (d + 1) 77 34 ls (r1.1.toList ++ st) r1.2 Q) := Wp.cv (y' := 5) (as := [.int x0, .int x1, .int x2]) e77_31 rfl (by decide) rfl (show 4 ≤ 4 by decide) (by decide) hs ht
theorem e77_34 : decode (j_co 77) 34 = .ok (.return_, 1) := by decide +kernel
set_option maxRecDepth 20000 in
theorem w77_34 {d : Nat} {Q : Option Value × jW → Prop} {ls : jL} {w : jW} : Wp d 77 34 ls [] w Q = Q (none, w) := Wp.ret e77_34 rfl
/-! Fences.clear -/
theorem e79_0 : decode (j_co 79) 0 = .ok (.iconst 0, 1) := by decide +kernel
set_option maxRecDepth 20000 in
theorem w79_0 {d : Nat} {st : List Value} {Q : Option Value × jW → Prop} {ls : jL} {w : jW} : Wp d 79 0 ls (st) w Q = Wp d 79 1 ls (.int (nI 0) :: st) w Q := Wp.alu e79_0 rfl rfl
theorem e79_1 : decode (j_co 79) 1 = .ok (.istore_n 1, 1) := by decide +kernel
set_option maxRecDepth 20000 in
theorem w79_1 {d : Nat} {st : List Value} {Q : Option Value × jW → Prop} {w : jW} {a0 a1 a2 : Option Value} {x : Int32} (h : j_cp a0) : Wp d 79 1 [a0, a1, a2] (.int x :: st) w Q = Wp d 79 2 [a0, some (.int x), a2] (st) w Q := Wp.loc e79_1 rfl rfl (v_stI (ls := [a0, a1, a2]) (k := 1) (show 1 < 3 by decide) h)
theorem e79_2 : decode (j_co 79) 2 = .ok (.iconst 0, 1) := by decide +kernel
set_option maxRecDepth 20000 in
theorem w79_2 {d : Nat} {st : List Value} {Q : Option Value × jW → Prop} {ls : jL} {w : jW} : Wp d 79 2 ls (st) w Q = Wp d 79 3 ls (.int (nI 0) :: st) w Q := Wp.alu e79_2 rfl rfl
theorem e79_3 : decode (j_co 79) 3 = .ok (.istore_n 2, 1) := by decide +kernel
set_option maxRecDepth 20000 in
theorem w79_3 {d : Nat} {st : List Value} {Q : Option Value × jW → Prop} {w : jW} {a0 a1 a2 : Option Value} {x : Int32} (h : j_cp a1) : Wp d 79 3 [a0, a1, a2] (.int x :: st) w Q = Wp d 79 4 [a0, a1, some (.int x)] (st) w Q := Wp.loc e79_3 rfl rfl (v_stI (ls := [a0, a1, a2]) (k := 2) (show 2 < 3 by decide) h)
theorem e79_4 : decode (j_co 79) 4 = .ok (.iload_n 2, 1) := by decide +kernel
set_option maxRecDepth 20000 in
theorem w79_4 {d : Nat} {st : List Value} {Q : Option Value × jW → Prop} {w : jW} {a0 a1 : Option Value} {x : Int32} : Wp d 79 4 [a0, a1, some (.int x)] (st) w Q = Wp d 79 5 [a0, a1, some (.int x)] (.int x :: st) w Q := Wp.loc e79_4 rfl rfl rfl
theorem e79_5 : decode (j_co 79) 5 = .ok (.aload_n 0, 1) := by decide +kernel
set_option maxRecDepth 20000 in
theorem w79_5 {d : Nat} {st : List Value} {Q : Option Value × jW → Prop} {w : jW} {a1 a2 : Option Value} {x : Nat} : Wp d 79 5 [some (.ref x), a1, a2] (st) w Q = Wp d 79 6 [some (.ref x), a1, a2] (.ref x :: st) w Q := Wp.loc e79_5 rfl rfl rfl
theorem e79_6 : decode (j_co 79) 6 = .ok (.getfield 21, 3) := by decide +kernel
set_option maxRecDepth 20000 in
theorem w79_6 {d : Nat} {st : List Value} {Q : Option Value × jW → Prop} {ls : jL} {xs : List Value} {I : fI} {L : fL} {o : Nat} (ht : f_tg o = 1) : Wp d 79 6 ls (.ref o :: st) (f_W xs I L) Q = Wp d 79 9 ls (.ref (f_rf o 0) :: st) (f_W xs I L) Q := Wp.getR (ci := 1) (k := 0) e79_6 rfl (by decide) (by decide) rfl ht
theorem e79_9 : decode (j_co 79) 9 = .ok (.getfield 42, 3) := by decide +kernel
set_option maxRecDepth 20000 in
theorem w79_9 {d : Nat} {st : List Value} {Q : Option Value × jW → Prop} {ls : jL} {xs : List Value} {I : fI} {L : fL} {o : Nat} (ht : f_tg o = 5) : Wp d 79 9 ls (.ref o :: st) (f_W xs I L) Q = Wp d 79 12 ls (.int (I o 4) :: st) (f_W xs I L) Q := Wp.getI (ci := 5) (k := 4) e79_9 rfl (by decide) (by decide) (by decide) ht
theorem e79_12 : decode (j_co 79) 12 = .ok (.if_icmp .ge 40, 3) := by decide +kernel
set_option maxRecDepth 20000 in
theorem w79_12 {d : Nat} {st : List Value} {Q : Option Value × jW → Prop} {ls : jL} {w : jW} {a b : Int32} : Wp d 79 12 ls (.int b :: .int a :: st) w Q = ((b ≤ a → Wp d 79 52 ls st w Q) ∧ (¬ b ≤ a → Wp d 79 15 ls st w Q)) := Wp.if2 (c := b ≤ a) (off := 40) e79_12 rfl rfl rfl rfl rfl
theorem e79_15 : decode (j_co 79) 15 = .ok (.aload_n 0, 1) := by decide +kernel
set_option maxRecDepth 20000 in
theorem w79_15 {d : Nat} {st : List Value} {Q : Option Value × jW → Prop} {w : jW} {a1 a2 : Option Value} {x : Nat} : Wp d 79 15 [some (.ref x), a1, a2] (st) w Q = Wp d 79 16 [some (.ref x), a1, a2] (.ref x :: st) w Q := Wp.loc e79_15 rfl rfl rfl
theorem e79_16 : decode (j_co 79) 16 = .ok (.getfield 21, 3) := by decide +kernel
set_option maxRecDepth 20000 in
theorem w79_16 {d : Nat} {st : List Value} {Q : Option Value × jW → Prop} {ls : jL} {xs : List Value} {I : fI} {L : fL} {o : Nat} (ht : f_tg o = 1) : Wp d 79 16 ls (.ref o :: st) (f_W xs I L) Q = Wp d 79 19 ls (.ref (f_rf o 0) :: st) (f_W xs I L) Q := Wp.getR (ci := 1) (k := 0) e79_16 rfl (by decide) (by decide) rfl ht
theorem e79_19 : decode (j_co 79) 19 = .ok (.getfield 48, 3) := by decide +kernel
set_option maxRecDepth 20000 in
theorem w79_19 {d : Nat} {st : List Value} {Q : Option Value × jW → Prop} {ls : jL} {xs : List Value} {I : fI} {L : fL} {o : Nat} (ht : f_tg o = 5) : Wp d 79 19 ls (.ref o :: st) (f_W xs I L) Q = Wp d 79 22 ls (.ref (f_rf o 0) :: st) (f_W xs I L) Q := Wp.getR (ci := 5) (k := 0) e79_19 rfl (by decide) (by decide) rfl ht
theorem e79_22 : decode (j_co 79) 22 = .ok (.iload_n 2, 1) := by decide +kernel
set_option maxRecDepth 20000 in
theorem w79_22 {d : Nat} {st : List Value} {Q : Option Value × jW → Prop} {w : jW} {a0 a1 : Option Value} {x : Int32} : Wp d 79 22 [a0, a1, some (.int x)] (st) w Q = Wp d 79 23 [a0, a1, some (.int x)] (.int x :: st) w Q := Wp.loc e79_22 rfl rfl rfl
theorem e79_23 : decode (j_co 79) 23 = .ok (.aaload, 1) := by decide +kernel
set_option maxRecDepth 20000 in
theorem w79_23 {d : Nat} {st : List Value} {Q : Option Value × jW → Prop} {ls : jL} {xs : List Value} {I : fI} {L : fL} {o : Nat} {i : Int32} (ht : 103 ≤ f_tg o ∧ f_tg o ≤ 106) (hi : ¬ (i < 0 ∨ f_ln o ≤ i.toNatClampNeg)) : Wp d 79 23 ls (.int i :: .ref o :: st) (f_W xs I L) Q = Wp d 79 24 ls (.ref (f_rf o i.toNatClampNeg) :: st) (f_W xs I L) Q := Wp.aald e79_23 rfl ht hi
theorem e79_24 : decode (j_co 79) 24 = .ok (.getfield 25, 3) := by decide +kernel
set_option maxRecDepth 20000 in
theorem w79_24 {d : Nat} {st : List Value} {Q : Option Value × jW → Prop} {ls : jL} {xs : List Value} {I : fI} {L : fL} {o : Nat} (ht : f_tg o = 6) : Wp d 79 24 ls (.ref o :: st) (f_W xs I L) Q = Wp d 79 27 ls (.int (I o 3) :: st) (f_W xs I L) Q := Wp.getI (ci := 6) (k := 3) e79_24 rfl (by decide) (by decide) (by decide) ht
theorem e79_27 : decode (j_co 79) 27 = .ok (.ifCond .eq 19, 3) := by decide +kernel
set_option maxRecDepth 20000 in
theorem w79_27 {d : Nat} {st : List Value} {Q : Option Value × jW → Prop} {ls : jL} {w : jW} {a : Int32} : Wp d 79 27 ls (.int a :: st) w Q = ((a = nI 0 → Wp d 79 46 ls st w Q) ∧ (¬ a = nI 0 → Wp d 79 30 ls st w Q)) := Wp.if2 (c := a = nI 0) (off := 19) e79_27 rfl rfl rfl rfl rfl
theorem e79_30 : decode (j_co 79) 30 = .ok (.aload_n 0, 1) := by decide +kernel
set_option maxRecDepth 20000 in
theorem w79_30 {d : Nat} {st : List Value} {Q : Option Value × jW → Prop} {w : jW} {a1 a2 : Option Value} {x : Nat} : Wp d 79 30 [some (.ref x), a1, a2] (st) w Q = Wp d 79 31 [some (.ref x), a1, a2] (.ref x :: st) w Q := Wp.loc e79_30 rfl rfl rfl
theorem e79_31 : decode (j_co 79) 31 = .ok (.getfield 21, 3) := by decide +kernel
set_option maxRecDepth 20000 in
theorem w79_31 {d : Nat} {st : List Value} {Q : Option Value × jW → Prop} {ls : jL} {xs : List Value} {I : fI} {L : fL} {o : Nat} (ht : f_tg o = 1) : Wp d 79 31 ls (.ref o :: st) (f_W xs I L) Q = Wp d 79 34 ls (.ref (f_rf o 0) :: st) (f_W xs I L) Q := Wp.getR (ci := 1) (k := 0) e79_31 rfl (by decide) (by decide) rfl ht
theorem e79_34 : decode (j_co 79) 34 = .ok (.getfield 48, 3) := by decide +kernel
set_option maxRecDepth 20000 in
theorem w79_34 {d : Nat} {st : List Value} {Q : Option Value × jW → Prop} {ls : jL} {xs : List Value} {I : fI} {L : fL} {o : Nat} (ht : f_tg o = 5) : Wp d 79 34 ls (.ref o :: st) (f_W xs I L) Q = Wp d 79 37 ls (.ref (f_rf o 0) :: st) (f_W xs I L) Q := Wp.getR (ci := 5) (k := 0) e79_34 rfl (by decide) (by decide) rfl ht
theorem e79_37 : decode (j_co 79) 37 = .ok (.iload_n 2, 1) := by decide +kernel
set_option maxRecDepth 20000 in
theorem w79_37 {d : Nat} {st : List Value} {Q : Option Value × jW → Prop} {w : jW} {a0 a1 : Option Value} {x : Int32} : Wp d 79 37 [a0, a1, some (.int x)] (st) w Q = Wp d 79 38 [a0, a1, some (.int x)] (.int x :: st) w Q := Wp.loc e79_37 rfl rfl rfl
theorem e79_38 : decode (j_co 79) 38 = .ok (.aaload, 1) := by decide +kernel
set_option maxRecDepth 20000 in
theorem w79_38 {d : Nat} {st : List Value} {Q : Option Value × jW → Prop} {ls : jL} {xs : List Value} {I : fI} {L : fL} {o : Nat} {i : Int32} (ht : 103 ≤ f_tg o ∧ f_tg o ≤ 106) (hi : ¬ (i < 0 ∨ f_ln o ≤ i.toNatClampNeg)) : Wp d 79 38 ls (.int i :: .ref o :: st) (f_W xs I L) Q = Wp d 79 39 ls (.ref (f_rf o i.toNatClampNeg) :: st) (f_W xs I L) Q := Wp.aald e79_38 rfl ht hi
theorem e79_39 : decode (j_co 79) 39 = .ok (.iconst 0, 1) := by decide +kernel
set_option maxRecDepth 20000 in
theorem w79_39 {d : Nat} {st : List Value} {Q : Option Value × jW → Prop} {ls : jL} {w : jW} : Wp d 79 39 ls (st) w Q = Wp d 79 40 ls (.int (nI 0) :: st) w Q := Wp.alu e79_39 rfl rfl
theorem e79_40 : decode (j_co 79) 40 = .ok (.putfield 25, 3) := by decide +kernel
set_option maxRecDepth 20000 in
theorem w79_40 {d : Nat} {st : List Value} {Q : Option Value × jW → Prop} {ls : jL} {xs : List Value} {I : fI} {L : fL} {o : Nat} {x : Int32} (ht : f_tg o = 6) (hx : x = 0 ∨ x = 1) : Wp d 79 40 ls (.int x :: .ref o :: st) (f_W xs I L) Q = Wp d 79 43 ls (st) (f_W xs (f_up I o 3 x) L) Q := Wp.putI (ci := 6) (k := 3) e79_40 rfl (by decide) (by decide) (by rcases hx with rfl | rfl <;> rfl) (by decide) ht
theorem e79_43 : decode (j_co 79) 43 = .ok (.iinc 1 1, 3) := by decide +kernel
set_option maxRecDepth 20000 in
theorem w79_43 {d : Nat} {st : List Value} {Q : Option Value × jW → Prop} {w : jW} {a0 a2 : Option Value} {x : Int32} (h : j_cp a0) : Wp d 79 43 [a0, some (.int x), a2] (st) w Q = Wp d 79 46 [a0, some (.int (x + nI 1)), a2] (st) w Q := Wp.loc e79_43 rfl rfl (v_inc (ls := [a0, some (.int x), a2]) (k := 1) (n := 1) rfl (show 1 < 3 by decide) h)
theorem e79_46 : decode (j_co 79) 46 = .ok (.iinc 2 1, 3) := by decide +kernel
set_option maxRecDepth 20000 in
theorem w79_46 {d : Nat} {st : List Value} {Q : Option Value × jW → Prop} {w : jW} {a0 a1 : Option Value} {x : Int32} (h : j_cp a1) : Wp d 79 46 [a0, a1, some (.int x)] (st) w Q = Wp d 79 49 [a0, a1, some (.int (x + nI 1))] (st) w Q := Wp.loc e79_46 rfl rfl (v_inc (ls := [a0, a1, some (.int x)]) (k := 2) (n := 1) rfl (show 2 < 3 by decide) h)
theorem e79_49 : decode (j_co 79) 49 = .ok (.goto (-45), 3) := by decide +kernel
set_option maxRecDepth 20000 in
theorem w79_49 {d : Nat} {st : List Value} {Q : Option Value × jW → Prop} {ls : jL} {w : jW} : Wp d 79 49 ls (st) w Q = Wp d 79 4 ls (st) w Q := Wp.br e79_49 (Or.inl rfl) rfl rfl rfl rfl
theorem e79_52 : decode (j_co 79) 52 = .ok (.iload_n 1, 1) := by decide +kernel
set_option maxRecDepth 20000 in
theorem w79_52 {d : Nat} {st : List Value} {Q : Option Value × jW → Prop} {w : jW} {a0 a2 : Option Value} {x : Int32} : Wp d 79 52 [a0, some (.int x), a2] (st) w Q = Wp d 79 53 [a0, some (.int x), a2] (.int x :: st) w Q := Wp.loc e79_52 rfl rfl rfl
theorem e79_53 : decode (j_co 79) 53 = .ok (.ireturn, 1) := by decide +kernel
set_option maxRecDepth 20000 in
theorem w79_53 {d : Nat} {Q : Option Value × jW → Prop} {ls : jL} {w : jW} {x : Int32} : Wp d 79 53 ls [.int x] w Q = Q (some (.int x), w) := Wp.ret e79_53 rfl
/-! Fences.firstBreach -/
theorem e81_0 : decode (j_co 81) 0 = .ok (.aload_n 0, 1) := by decide +kernel
set_option maxRecDepth 20000 in
theorem w81_0 {d : Nat} {st : List Value} {Q : Option Value × jW → Prop} {w : jW} {a1 a2 a3 : Option Value} {x : Nat} : Wp d 81 0 [some (.ref x), a1, a2, a3] (st) w Q = Wp d 81 1 [some (.ref x), a1, a2, a3] (.ref x :: st) w Q := Wp.loc e81_0 rfl rfl rfl
theorem e81_1 : decode (j_co 81) 1 = .ok (.getfield 21, 3) := by decide +kernel
set_option maxRecDepth 20000 in
theorem w81_1 {d : Nat} {st : List Value} {Q : Option Value × jW → Prop} {ls : jL} {xs : List Value} {I : fI} {L : fL} {o : Nat} (ht : f_tg o = 1) : Wp d 81 1 ls (.ref o :: st) (f_W xs I L) Q = Wp d 81 4 ls (.ref (f_rf o 0) :: st) (f_W xs I L) Q := Wp.getR (ci := 1) (k := 0) e81_1 rfl (by decide) (by decide) rfl ht
theorem e81_4 : decode (j_co 81) 4 = .ok (.aload_n 0, 1) := by decide +kernel
set_option maxRecDepth 20000 in
theorem w81_4 {d : Nat} {st : List Value} {Q : Option Value × jW → Prop} {w : jW} {a1 a2 a3 : Option Value} {x : Nat} : Wp d 81 4 [some (.ref x), a1, a2, a3] (st) w Q = Wp d 81 5 [some (.ref x), a1, a2, a3] (.ref x :: st) w Q := Wp.loc e81_4 rfl rfl rfl
theorem e81_5 : decode (j_co 81) 5 = .ok (.getfield 18, 3) := by decide +kernel
set_option maxRecDepth 20000 in
theorem w81_5 {d : Nat} {st : List Value} {Q : Option Value × jW → Prop} {ls : jL} {xs : List Value} {I : fI} {L : fL} {o : Nat} (ht : f_tg o = 1) : Wp d 81 5 ls (.ref o :: st) (f_W xs I L) Q = Wp d 81 8 ls (.ref (f_rf o 2) :: st) (f_W xs I L) Q := Wp.getR (ci := 1) (k := 2) e81_5 rfl (by decide) (by decide) rfl ht
theorem e81_8 : decode (j_co 81) 8 = .ok (.invokevirtual 52, 3) := by decide +kernel
set_option maxRecDepth 20000 in
theorem w81_8 {d : Nat} {st : List Value} {Q : Option Value × jW → Prop} {ls : jL} {xs : List Value} {I : fI} {L : fL} {r : Nat} {x0 : Nat} (hs : j_sumc st ≤ 8) (ht : f_tg r = 5) : Wp (d + 1) 81 8 ls (.ref x0 :: .ref r :: st) (f_W xs I L) Q = Wp d 30 0 [some (.ref r), some (.ref x0)] [] (f_W xs I L) (fun r1 => Wp (d + 1) 81 11 ls (r1.1.toList ++ st) r1.2 Q) := Wp.cv (y' := 30) (as := [.ref x0]) e81_8 rfl (by decide) rfl (show 2 ≤ 2 by decide) (by decide) hs ht
theorem e81_11 : decode (j_co 81) 11 = .ok (.ifCond .eq 19, 3) := by decide +kernel
set_option maxRecDepth 20000 in
theorem w81_11 {d : Nat} {st : List Value} {Q : Option Value × jW → Prop} {ls : jL} {w : jW} {a : Int32} : Wp d 81 11 ls (.int a :: st) w Q = ((a = nI 0 → Wp d 81 30 ls st w Q) ∧ (¬ a = nI 0 → Wp d 81 14 ls st w Q)) := Wp.if2 (c := a = nI 0) (off := 19) e81_11 rfl rfl rfl rfl rfl
theorem e81_14 : decode (j_co 81) 14 = .ok (.aload_n 0, 1) := by decide +kernel
set_option maxRecDepth 20000 in
theorem w81_14 {d : Nat} {st : List Value} {Q : Option Value × jW → Prop} {w : jW} {a1 a2 a3 : Option Value} {x : Nat} : Wp d 81 14 [some (.ref x), a1, a2, a3] (st) w Q = Wp d 81 15 [some (.ref x), a1, a2, a3] (.ref x :: st) w Q := Wp.loc e81_14 rfl rfl rfl
theorem e81_15 : decode (j_co 81) 15 = .ok (.aload_n 0, 1) := by decide +kernel
set_option maxRecDepth 20000 in
theorem w81_15 {d : Nat} {st : List Value} {Q : Option Value × jW → Prop} {w : jW} {a1 a2 a3 : Option Value} {x : Nat} : Wp d 81 15 [some (.ref x), a1, a2, a3] (st) w Q = Wp d 81 16 [some (.ref x), a1, a2, a3] (.ref x :: st) w Q := Wp.loc e81_15 rfl rfl rfl
theorem e81_16 : decode (j_co 81) 16 = .ok (.getfield 21, 3) := by decide +kernel
set_option maxRecDepth 20000 in
theorem w81_16 {d : Nat} {st : List Value} {Q : Option Value × jW → Prop} {ls : jL} {xs : List Value} {I : fI} {L : fL} {o : Nat} (ht : f_tg o = 1) : Wp d 81 16 ls (.ref o :: st) (f_W xs I L) Q = Wp d 81 19 ls (.ref (f_rf o 0) :: st) (f_W xs I L) Q := Wp.getR (ci := 1) (k := 0) e81_16 rfl (by decide) (by decide) rfl ht
theorem e81_19 : decode (j_co 81) 19 = .ok (.getfield 56, 3) := by decide +kernel
set_option maxRecDepth 20000 in
theorem w81_19 {d : Nat} {st : List Value} {Q : Option Value × jW → Prop} {ls : jL} {xs : List Value} {I : fI} {L : fL} {o : Nat} (ht : f_tg o = 5) : Wp d 81 19 ls (.ref o :: st) (f_W xs I L) Q = Wp d 81 22 ls (.int (I o 6) :: st) (f_W xs I L) Q := Wp.getI (ci := 5) (k := 6) e81_19 rfl (by decide) (by decide) (by decide) ht
theorem e81_22 : decode (j_co 81) 22 = .ok (.invokevirtual 59, 3) := by decide +kernel
set_option maxRecDepth 20000 in
theorem w81_22 {d : Nat} {st : List Value} {Q : Option Value × jW → Prop} {ls : jL} {xs : List Value} {I : fI} {L : fL} {r : Nat} {x0 : Int32} (hs : j_sumc st ≤ 8) (ht : f_tg r = 1) : Wp (d + 1) 81 22 ls (.int x0 :: .ref r :: st) (f_W xs I L) Q = Wp d 82 0 [some (.ref r), some (.int x0)] [] (f_W xs I L) (fun r1 => Wp (d + 1) 81 25 ls (r1.1.toList ++ st) r1.2 Q) := Wp.cv (y' := 82) (as := [.int x0]) e81_22 rfl (by decide) rfl (show 2 ≤ 2 by decide) (by decide) hs ht
theorem e81_25 : decode (j_co 81) 25 = .ok (.ifCond .ne 5, 3) := by decide +kernel
set_option maxRecDepth 20000 in
theorem w81_25 {d : Nat} {st : List Value} {Q : Option Value × jW → Prop} {ls : jL} {w : jW} {a : Int32} : Wp d 81 25 ls (.int a :: st) w Q = ((a = nI 0 → Wp d 81 28 ls st w Q) ∧ (¬ a = nI 0 → Wp d 81 30 ls st w Q)) := Wp.if2n (c := a = nI 0) (off := 5) e81_25 rfl rfl rfl rfl rfl
theorem e81_28 : decode (j_co 81) 28 = .ok (.iconst 1, 1) := by decide +kernel
set_option maxRecDepth 20000 in
theorem w81_28 {d : Nat} {st : List Value} {Q : Option Value × jW → Prop} {ls : jL} {w : jW} : Wp d 81 28 ls (st) w Q = Wp d 81 29 ls (.int (nI 1) :: st) w Q := Wp.alu e81_28 rfl rfl
theorem e81_29 : decode (j_co 81) 29 = .ok (.ireturn, 1) := by decide +kernel
set_option maxRecDepth 20000 in
theorem w81_29 {d : Nat} {Q : Option Value × jW → Prop} {ls : jL} {w : jW} {x : Int32} : Wp d 81 29 ls [.int x] w Q = Q (some (.int x), w) := Wp.ret e81_29 rfl
theorem e81_30 : decode (j_co 81) 30 = .ok (.aload_n 0, 1) := by decide +kernel
set_option maxRecDepth 20000 in
theorem w81_30 {d : Nat} {st : List Value} {Q : Option Value × jW → Prop} {w : jW} {a1 a2 a3 : Option Value} {x : Nat} : Wp d 81 30 [some (.ref x), a1, a2, a3] (st) w Q = Wp d 81 31 [some (.ref x), a1, a2, a3] (.ref x :: st) w Q := Wp.loc e81_30 rfl rfl rfl
theorem e81_31 : decode (j_co 81) 31 = .ok (.invokevirtual 63, 3) := by decide +kernel
set_option maxRecDepth 20000 in
theorem w81_31 {d : Nat} {st : List Value} {Q : Option Value × jW → Prop} {ls : jL} {xs : List Value} {I : fI} {L : fL} {r : Nat} (hs : j_sumc st ≤ 8) (ht : f_tg r = 1) : Wp (d + 1) 81 31 ls (.ref r :: st) (f_W xs I L) Q = Wp d 83 0 [some (.ref r), none] [] (f_W xs I L) (fun r1 => Wp (d + 1) 81 34 ls (r1.1.toList ++ st) r1.2 Q) := Wp.cv (y' := 83) (as := []) e81_31 rfl (by decide) rfl (show 1 ≤ 2 by decide) (by decide) hs ht
theorem e81_34 : decode (j_co 81) 34 = .ok (.istore_n 1, 1) := by decide +kernel
set_option maxRecDepth 20000 in
theorem w81_34 {d : Nat} {st : List Value} {Q : Option Value × jW → Prop} {w : jW} {a0 a1 a2 a3 : Option Value} {x : Int32} (h : j_cp a0) : Wp d 81 34 [a0, a1, a2, a3] (.int x :: st) w Q = Wp d 81 35 [a0, some (.int x), a2, a3] (st) w Q := Wp.loc e81_34 rfl rfl (v_stI (ls := [a0, a1, a2, a3]) (k := 1) (show 1 < 4 by decide) h)
theorem e81_35 : decode (j_co 81) 35 = .ok (.iload_n 1, 1) := by decide +kernel
set_option maxRecDepth 20000 in
theorem w81_35 {d : Nat} {st : List Value} {Q : Option Value × jW → Prop} {w : jW} {a0 a2 a3 : Option Value} {x : Int32} : Wp d 81 35 [a0, some (.int x), a2, a3] (st) w Q = Wp d 81 36 [a0, some (.int x), a2, a3] (.int x :: st) w Q := Wp.loc e81_35 rfl rfl rfl
theorem e81_36 : decode (j_co 81) 36 = .ok (.bipush (-4), 2) := by decide +kernel
set_option maxRecDepth 20000 in
theorem w81_36 {d : Nat} {st : List Value} {Q : Option Value × jW → Prop} {ls : jL} {w : jW} : Wp d 81 36 ls (st) w Q = Wp d 81 38 ls (.int (-4) :: st) w Q := Wp.alu e81_36 rfl rfl
theorem e81_38 : decode (j_co 81) 38 = .ok (.if_icmp .eq 8, 3) := by decide +kernel
set_option maxRecDepth 20000 in
theorem w81_38 {d : Nat} {st : List Value} {Q : Option Value × jW → Prop} {ls : jL} {w : jW} {a b : Int32} : Wp d 81 38 ls (.int b :: .int a :: st) w Q = ((a = b → Wp d 81 46 ls st w Q) ∧ (¬ a = b → Wp d 81 41 ls st w Q)) := Wp.if2 (c := a = b) (off := 8) e81_38 rfl rfl rfl rfl rfl
theorem e81_41 : decode (j_co 81) 41 = .ok (.bipush 10, 2) := by decide +kernel
set_option maxRecDepth 20000 in
theorem w81_41 {d : Nat} {st : List Value} {Q : Option Value × jW → Prop} {ls : jL} {w : jW} : Wp d 81 41 ls (st) w Q = Wp d 81 43 ls (.int (nI 10) :: st) w Q := Wp.alu e81_41 rfl rfl
theorem e81_43 : decode (j_co 81) 43 = .ok (.iload_n 1, 1) := by decide +kernel
set_option maxRecDepth 20000 in
theorem w81_43 {d : Nat} {st : List Value} {Q : Option Value × jW → Prop} {w : jW} {a0 a2 a3 : Option Value} {x : Int32} : Wp d 81 43 [a0, some (.int x), a2, a3] (st) w Q = Wp d 81 44 [a0, some (.int x), a2, a3] (.int x :: st) w Q := Wp.loc e81_43 rfl rfl rfl
theorem e81_44 : decode (j_co 81) 44 = .ok (.iadd, 1) := by decide +kernel
set_option maxRecDepth 20000 in
theorem w81_44 {d : Nat} {st : List Value} {Q : Option Value × jW → Prop} {ls : jL} {w : jW} {a b : Int32} : Wp d 81 44 ls (.int b :: .int a :: st) w Q = Wp d 81 45 ls (.int (a + b) :: st) w Q := Wp.alu e81_44 rfl rfl
theorem e81_45 : decode (j_co 81) 45 = .ok (.ireturn, 1) := by decide +kernel
set_option maxRecDepth 20000 in
theorem w81_45 {d : Nat} {Q : Option Value × jW → Prop} {ls : jL} {w : jW} {x : Int32} : Wp d 81 45 ls [.int x] w Q = Q (some (.int x), w) := Wp.ret e81_45 rfl
theorem e81_46 : decode (j_co 81) 46 = .ok (.aload_n 0, 1) := by decide +kernel
set_option maxRecDepth 20000 in
theorem w81_46 {d : Nat} {st : List Value} {Q : Option Value × jW → Prop} {w : jW} {a1 a2 a3 : Option Value} {x : Nat} : Wp d 81 46 [some (.ref x), a1, a2, a3] (st) w Q = Wp d 81 47 [some (.ref x), a1, a2, a3] (.ref x :: st) w Q := Wp.loc e81_46 rfl rfl rfl
theorem e81_47 : decode (j_co 81) 47 = .ok (.invokevirtual 67, 3) := by decide +kernel
set_option maxRecDepth 20000 in
theorem w81_47 {d : Nat} {st : List Value} {Q : Option Value × jW → Prop} {ls : jL} {xs : List Value} {I : fI} {L : fL} {r : Nat} (hs : j_sumc st ≤ 8) (ht : f_tg r = 1) : Wp (d + 1) 81 47 ls (.ref r :: st) (f_W xs I L) Q = Wp d 85 0 [some (.ref r), none, none] [] (f_W xs I L) (fun r1 => Wp (d + 1) 81 50 ls (r1.1.toList ++ st) r1.2 Q) := Wp.cv (y' := 85) (as := []) e81_47 rfl (by decide) rfl (show 1 ≤ 3 by decide) (by decide) hs ht
theorem e81_50 : decode (j_co 81) 50 = .ok (.istore_n 2, 1) := by decide +kernel
set_option maxRecDepth 20000 in
theorem w81_50 {d : Nat} {st : List Value} {Q : Option Value × jW → Prop} {w : jW} {a0 a1 a2 a3 : Option Value} {x : Int32} (h : j_cp a1) : Wp d 81 50 [a0, a1, a2, a3] (.int x :: st) w Q = Wp d 81 51 [a0, a1, some (.int x), a3] (st) w Q := Wp.loc e81_50 rfl rfl (v_stI (ls := [a0, a1, a2, a3]) (k := 2) (show 2 < 4 by decide) h)
theorem e81_51 : decode (j_co 81) 51 = .ok (.iload_n 2, 1) := by decide +kernel
set_option maxRecDepth 20000 in
theorem w81_51 {d : Nat} {st : List Value} {Q : Option Value × jW → Prop} {w : jW} {a0 a1 a3 : Option Value} {x : Int32} : Wp d 81 51 [a0, a1, some (.int x), a3] (st) w Q = Wp d 81 52 [a0, a1, some (.int x), a3] (.int x :: st) w Q := Wp.loc e81_51 rfl rfl rfl
theorem e81_52 : decode (j_co 81) 52 = .ok (.bipush (-4), 2) := by decide +kernel
set_option maxRecDepth 20000 in
theorem w81_52 {d : Nat} {st : List Value} {Q : Option Value × jW → Prop} {ls : jL} {w : jW} : Wp d 81 52 ls (st) w Q = Wp d 81 54 ls (.int (-4) :: st) w Q := Wp.alu e81_52 rfl rfl
theorem e81_54 : decode (j_co 81) 54 = .ok (.if_icmp .eq 8, 3) := by decide +kernel
set_option maxRecDepth 20000 in
theorem w81_54 {d : Nat} {st : List Value} {Q : Option Value × jW → Prop} {ls : jL} {w : jW} {a b : Int32} : Wp d 81 54 ls (.int b :: .int a :: st) w Q = ((a = b → Wp d 81 62 ls st w Q) ∧ (¬ a = b → Wp d 81 57 ls st w Q)) := Wp.if2 (c := a = b) (off := 8) e81_54 rfl rfl rfl rfl rfl
theorem e81_57 : decode (j_co 81) 57 = .ok (.bipush 20, 2) := by decide +kernel
set_option maxRecDepth 20000 in
theorem w81_57 {d : Nat} {st : List Value} {Q : Option Value × jW → Prop} {ls : jL} {w : jW} : Wp d 81 57 ls (st) w Q = Wp d 81 59 ls (.int (nI 20) :: st) w Q := Wp.alu e81_57 rfl rfl
theorem e81_59 : decode (j_co 81) 59 = .ok (.iload_n 2, 1) := by decide +kernel
set_option maxRecDepth 20000 in
theorem w81_59 {d : Nat} {st : List Value} {Q : Option Value × jW → Prop} {w : jW} {a0 a1 a3 : Option Value} {x : Int32} : Wp d 81 59 [a0, a1, some (.int x), a3] (st) w Q = Wp d 81 60 [a0, a1, some (.int x), a3] (.int x :: st) w Q := Wp.loc e81_59 rfl rfl rfl
theorem e81_60 : decode (j_co 81) 60 = .ok (.iadd, 1) := by decide +kernel
set_option maxRecDepth 20000 in
theorem w81_60 {d : Nat} {st : List Value} {Q : Option Value × jW → Prop} {ls : jL} {w : jW} {a b : Int32} : Wp d 81 60 ls (.int b :: .int a :: st) w Q = Wp d 81 61 ls (.int (a + b) :: st) w Q := Wp.alu e81_60 rfl rfl
theorem e81_61 : decode (j_co 81) 61 = .ok (.ireturn, 1) := by decide +kernel
set_option maxRecDepth 20000 in
theorem w81_61 {d : Nat} {Q : Option Value × jW → Prop} {ls : jL} {w : jW} {x : Int32} : Wp d 81 61 ls [.int x] w Q = Q (some (.int x), w) := Wp.ret e81_61 rfl
theorem e81_62 : decode (j_co 81) 62 = .ok (.aload_n 0, 1) := by decide +kernel
set_option maxRecDepth 20000 in
theorem w81_62 {d : Nat} {st : List Value} {Q : Option Value × jW → Prop} {w : jW} {a1 a2 a3 : Option Value} {x : Nat} : Wp d 81 62 [some (.ref x), a1, a2, a3] (st) w Q = Wp d 81 63 [some (.ref x), a1, a2, a3] (.ref x :: st) w Q := Wp.loc e81_62 rfl rfl rfl
theorem e81_63 : decode (j_co 81) 63 = .ok (.getfield 21, 3) := by decide +kernel
set_option maxRecDepth 20000 in
theorem w81_63 {d : Nat} {st : List Value} {Q : Option Value × jW → Prop} {ls : jL} {xs : List Value} {I : fI} {L : fL} {o : Nat} (ht : f_tg o = 1) : Wp d 81 63 ls (.ref o :: st) (f_W xs I L) Q = Wp d 81 66 ls (.ref (f_rf o 0) :: st) (f_W xs I L) Q := Wp.getR (ci := 1) (k := 0) e81_63 rfl (by decide) (by decide) rfl ht
theorem e81_66 : decode (j_co 81) 66 = .ok (.getfield 70, 3) := by decide +kernel
set_option maxRecDepth 20000 in
theorem w81_66 {d : Nat} {st : List Value} {Q : Option Value × jW → Prop} {ls : jL} {xs : List Value} {I : fI} {L : fL} {o : Nat} (ht : f_tg o = 5) : Wp d 81 66 ls (.ref o :: st) (f_W xs I L) Q = Wp d 81 69 ls (.int (I o 7) :: st) (f_W xs I L) Q := Wp.getI (ci := 5) (k := 7) e81_66 rfl (by decide) (by decide) (by decide) ht
theorem e81_69 : decode (j_co 81) 69 = .ok (.istore_n 3, 1) := by decide +kernel
set_option maxRecDepth 20000 in
theorem w81_69 {d : Nat} {st : List Value} {Q : Option Value × jW → Prop} {w : jW} {a0 a1 a2 a3 : Option Value} {x : Int32} (h : j_cp a2) : Wp d 81 69 [a0, a1, a2, a3] (.int x :: st) w Q = Wp d 81 70 [a0, a1, a2, some (.int x)] (st) w Q := Wp.loc e81_69 rfl rfl (v_stI (ls := [a0, a1, a2, a3]) (k := 3) (show 3 < 4 by decide) h)
theorem e81_70 : decode (j_co 81) 70 = .ok (.aload_n 0, 1) := by decide +kernel
set_option maxRecDepth 20000 in
theorem w81_70 {d : Nat} {st : List Value} {Q : Option Value × jW → Prop} {w : jW} {a1 a2 a3 : Option Value} {x : Nat} : Wp d 81 70 [some (.ref x), a1, a2, a3] (st) w Q = Wp d 81 71 [some (.ref x), a1, a2, a3] (.ref x :: st) w Q := Wp.loc e81_70 rfl rfl rfl
theorem e81_71 : decode (j_co 81) 71 = .ok (.iload_n 3, 1) := by decide +kernel
set_option maxRecDepth 20000 in
theorem w81_71 {d : Nat} {st : List Value} {Q : Option Value × jW → Prop} {w : jW} {a0 a1 a2 : Option Value} {x : Int32} : Wp d 81 71 [a0, a1, a2, some (.int x)] (st) w Q = Wp d 81 72 [a0, a1, a2, some (.int x)] (.int x :: st) w Q := Wp.loc e81_71 rfl rfl rfl
theorem e81_72 : decode (j_co 81) 72 = .ok (.invokevirtual 73, 3) := by decide +kernel
set_option maxRecDepth 20000 in
theorem w81_72 {d : Nat} {st : List Value} {Q : Option Value × jW → Prop} {ls : jL} {xs : List Value} {I : fI} {L : fL} {r : Nat} {x0 : Int32} (hs : j_sumc st ≤ 8) (ht : f_tg r = 1) : Wp (d + 1) 81 72 ls (.int x0 :: .ref r :: st) (f_W xs I L) Q = Wp d 84 0 [some (.ref r), some (.int x0)] [] (f_W xs I L) (fun r1 => Wp (d + 1) 81 75 ls (r1.1.toList ++ st) r1.2 Q) := Wp.cv (y' := 84) (as := [.int x0]) e81_72 rfl (by decide) rfl (show 2 ≤ 2 by decide) (by decide) hs ht
theorem e81_75 : decode (j_co 81) 75 = .ok (.ifCond .eq 25, 3) := by decide +kernel
set_option maxRecDepth 20000 in
theorem w81_75 {d : Nat} {st : List Value} {Q : Option Value × jW → Prop} {ls : jL} {w : jW} {a : Int32} : Wp d 81 75 ls (.int a :: st) w Q = ((a = nI 0 → Wp d 81 100 ls st w Q) ∧ (¬ a = nI 0 → Wp d 81 78 ls st w Q)) := Wp.if2 (c := a = nI 0) (off := 25) e81_75 rfl rfl rfl rfl rfl
theorem e81_78 : decode (j_co 81) 78 = .ok (.aload_n 0, 1) := by decide +kernel
set_option maxRecDepth 20000 in
theorem w81_78 {d : Nat} {st : List Value} {Q : Option Value × jW → Prop} {w : jW} {a1 a2 a3 : Option Value} {x : Nat} : Wp d 81 78 [some (.ref x), a1, a2, a3] (st) w Q = Wp d 81 79 [some (.ref x), a1, a2, a3] (.ref x :: st) w Q := Wp.loc e81_78 rfl rfl rfl
theorem e81_79 : decode (j_co 81) 79 = .ok (.getfield 21, 3) := by decide +kernel
set_option maxRecDepth 20000 in
theorem w81_79 {d : Nat} {st : List Value} {Q : Option Value × jW → Prop} {ls : jL} {xs : List Value} {I : fI} {L : fL} {o : Nat} (ht : f_tg o = 1) : Wp d 81 79 ls (.ref o :: st) (f_W xs I L) Q = Wp d 81 82 ls (.ref (f_rf o 0) :: st) (f_W xs I L) Q := Wp.getR (ci := 1) (k := 0) e81_79 rfl (by decide) (by decide) rfl ht
theorem e81_82 : decode (j_co 81) 82 = .ok (.iload_n 3, 1) := by decide +kernel
set_option maxRecDepth 20000 in
theorem w81_82 {d : Nat} {st : List Value} {Q : Option Value × jW → Prop} {w : jW} {a0 a1 a2 : Option Value} {x : Int32} : Wp d 81 82 [a0, a1, a2, some (.int x)] (st) w Q = Wp d 81 83 [a0, a1, a2, some (.int x)] (.int x :: st) w Q := Wp.loc e81_82 rfl rfl rfl
theorem e81_83 : decode (j_co 81) 83 = .ok (.aload_n 0, 1) := by decide +kernel
set_option maxRecDepth 20000 in
theorem w81_83 {d : Nat} {st : List Value} {Q : Option Value × jW → Prop} {w : jW} {a1 a2 a3 : Option Value} {x : Nat} : Wp d 81 83 [some (.ref x), a1, a2, a3] (st) w Q = Wp d 81 84 [some (.ref x), a1, a2, a3] (.ref x :: st) w Q := Wp.loc e81_83 rfl rfl rfl
theorem e81_84 : decode (j_co 81) 84 = .ok (.getfield 12, 3) := by decide +kernel
set_option maxRecDepth 20000 in
theorem w81_84 {d : Nat} {st : List Value} {Q : Option Value × jW → Prop} {ls : jL} {xs : List Value} {I : fI} {L : fL} {o : Nat} (ht : f_tg o = 1) : Wp d 81 84 ls (.ref o :: st) (f_W xs I L) Q = Wp d 81 87 ls (.ref (f_rf o 1) :: st) (f_W xs I L) Q := Wp.getR (ci := 1) (k := 1) e81_84 rfl (by decide) (by decide) rfl ht
theorem e81_87 : decode (j_co 81) 87 = .ok (.invokevirtual 76, 3) := by decide +kernel
set_option maxRecDepth 20000 in
theorem w81_87 {d : Nat} {st : List Value} {Q : Option Value × jW → Prop} {ls : jL} {xs : List Value} {I : fI} {L : fL} {r : Nat} {x0 : Int32} {x1 : Nat} (hs : j_sumc st ≤ 8) (ht : f_tg r = 5) : Wp (d + 1) 81 87 ls (.ref x1 :: .int x0 :: .ref r :: st) (f_W xs I L) Q = Wp d 52 0 [some (.ref r), some (.int x0), some (.ref x1)] [] (f_W xs I L) (fun r1 => Wp (d + 1) 81 90 ls (r1.1.toList ++ st) r1.2 Q) := Wp.cv (y' := 52) (as := [.int x0, .ref x1]) e81_87 rfl (by decide) rfl (show 3 ≤ 3 by decide) (by decide) hs ht
theorem e81_90 : decode (j_co 81) 90 = .ok (.ifCond .eq 10, 3) := by decide +kernel
set_option maxRecDepth 20000 in
theorem w81_90 {d : Nat} {st : List Value} {Q : Option Value × jW → Prop} {ls : jL} {w : jW} {a : Int32} : Wp d 81 90 ls (.int a :: st) w Q = ((a = nI 0 → Wp d 81 100 ls st w Q) ∧ (¬ a = nI 0 → Wp d 81 93 ls st w Q)) := Wp.if2 (c := a = nI 0) (off := 10) e81_90 rfl rfl rfl rfl rfl
theorem e81_93 : decode (j_co 81) 93 = .ok (.bipush 40, 2) := by decide +kernel
set_option maxRecDepth 20000 in
theorem w81_93 {d : Nat} {st : List Value} {Q : Option Value × jW → Prop} {ls : jL} {w : jW} : Wp d 81 93 ls (st) w Q = Wp d 81 95 ls (.int (nI 40) :: st) w Q := Wp.alu e81_93 rfl rfl
theorem e81_95 : decode (j_co 81) 95 = .ok (.iload_n 3, 1) := by decide +kernel
set_option maxRecDepth 20000 in
theorem w81_95 {d : Nat} {st : List Value} {Q : Option Value × jW → Prop} {w : jW} {a0 a1 a2 : Option Value} {x : Int32} : Wp d 81 95 [a0, a1, a2, some (.int x)] (st) w Q = Wp d 81 96 [a0, a1, a2, some (.int x)] (.int x :: st) w Q := Wp.loc e81_95 rfl rfl rfl
theorem e81_96 : decode (j_co 81) 96 = .ok (.iadd, 1) := by decide +kernel
set_option maxRecDepth 20000 in
theorem w81_96 {d : Nat} {st : List Value} {Q : Option Value × jW → Prop} {ls : jL} {w : jW} {a b : Int32} : Wp d 81 96 ls (.int b :: .int a :: st) w Q = Wp d 81 97 ls (.int (a + b) :: st) w Q := Wp.alu e81_96 rfl rfl
theorem e81_97 : decode (j_co 81) 97 = .ok (.goto 4, 3) := by decide +kernel
set_option maxRecDepth 20000 in
theorem w81_97 {d : Nat} {st : List Value} {Q : Option Value × jW → Prop} {ls : jL} {w : jW} : Wp d 81 97 ls (st) w Q = Wp d 81 101 ls (st) w Q := Wp.br e81_97 (Or.inl rfl) rfl rfl rfl rfl
theorem e81_100 : decode (j_co 81) 100 = .ok (.iconst 0, 1) := by decide +kernel
set_option maxRecDepth 20000 in
theorem w81_100 {d : Nat} {st : List Value} {Q : Option Value × jW → Prop} {ls : jL} {w : jW} : Wp d 81 100 ls (st) w Q = Wp d 81 101 ls (.int (nI 0) :: st) w Q := Wp.alu e81_100 rfl rfl
theorem e81_101 : decode (j_co 81) 101 = .ok (.ireturn, 1) := by decide +kernel
set_option maxRecDepth 20000 in
theorem w81_101 {d : Nat} {Q : Option Value × jW → Prop} {ls : jL} {w : jW} {x : Int32} : Wp d 81 101 ls [.int x] w Q = Q (some (.int x), w) := Wp.ret e81_101 rfl
/-! Fences.keeps -/
theorem e82_0 : decode (j_co 82) 0 = .ok (.aload_n 0, 1) := by decide +kernel
set_option maxRecDepth 20000 in
theorem w82_0 {d : Nat} {st : List Value} {Q : Option Value × jW → Prop} {w : jW} {a1 : Option Value} {x : Nat} : Wp d 82 0 [some (.ref x), a1] (st) w Q = Wp d 82 1 [some (.ref x), a1] (.ref x :: st) w Q := Wp.loc e82_0 rfl rfl rfl
theorem e82_1 : decode (j_co 82) 1 = .ok (.getfield 21, 3) := by decide +kernel
set_option maxRecDepth 20000 in
theorem w82_1 {d : Nat} {st : List Value} {Q : Option Value × jW → Prop} {ls : jL} {xs : List Value} {I : fI} {L : fL} {o : Nat} (ht : f_tg o = 1) : Wp d 82 1 ls (.ref o :: st) (f_W xs I L) Q = Wp d 82 4 ls (.ref (f_rf o 0) :: st) (f_W xs I L) Q := Wp.getR (ci := 1) (k := 0) e82_1 rfl (by decide) (by decide) rfl ht
theorem e82_4 : decode (j_co 82) 4 = .ok (.iload_n 1, 1) := by decide +kernel
set_option maxRecDepth 20000 in
theorem w82_4 {d : Nat} {st : List Value} {Q : Option Value × jW → Prop} {w : jW} {a0 : Option Value} {x : Int32} : Wp d 82 4 [a0, some (.int x)] (st) w Q = Wp d 82 5 [a0, some (.int x)] (.int x :: st) w Q := Wp.loc e82_4 rfl rfl rfl
theorem e82_5 : decode (j_co 82) 5 = .ok (.invokevirtual 103, 3) := by decide +kernel
set_option maxRecDepth 20000 in
theorem w82_5 {d : Nat} {st : List Value} {Q : Option Value × jW → Prop} {ls : jL} {xs : List Value} {I : fI} {L : fL} {r : Nat} {x0 : Int32} (hs : j_sumc st ≤ 8) (ht : f_tg r = 5) : Wp (d + 1) 82 5 ls (.int x0 :: .ref r :: st) (f_W xs I L) Q = Wp d 16 0 [some (.ref r), some (.int x0)] [] (f_W xs I L) (fun r1 => Wp (d + 1) 82 8 ls (r1.1.toList ++ st) r1.2 Q) := Wp.cv (y' := 16) (as := [.int x0]) e82_5 rfl (by decide) rfl (show 2 ≤ 2 by decide) (by decide) hs ht
theorem e82_8 : decode (j_co 82) 8 = .ok (.ifCond .eq 44, 3) := by decide +kernel
set_option maxRecDepth 20000 in
theorem w82_8 {d : Nat} {st : List Value} {Q : Option Value × jW → Prop} {ls : jL} {w : jW} {a : Int32} : Wp d 82 8 ls (.int a :: st) w Q = ((a = nI 0 → Wp d 82 52 ls st w Q) ∧ (¬ a = nI 0 → Wp d 82 11 ls st w Q)) := Wp.if2 (c := a = nI 0) (off := 44) e82_8 rfl rfl rfl rfl rfl
theorem e82_11 : decode (j_co 82) 11 = .ok (.aload_n 0, 1) := by decide +kernel
set_option maxRecDepth 20000 in
theorem w82_11 {d : Nat} {st : List Value} {Q : Option Value × jW → Prop} {w : jW} {a1 : Option Value} {x : Nat} : Wp d 82 11 [some (.ref x), a1] (st) w Q = Wp d 82 12 [some (.ref x), a1] (.ref x :: st) w Q := Wp.loc e82_11 rfl rfl rfl
theorem e82_12 : decode (j_co 82) 12 = .ok (.getfield 21, 3) := by decide +kernel
set_option maxRecDepth 20000 in
theorem w82_12 {d : Nat} {st : List Value} {Q : Option Value × jW → Prop} {ls : jL} {xs : List Value} {I : fI} {L : fL} {o : Nat} (ht : f_tg o = 1) : Wp d 82 12 ls (.ref o :: st) (f_W xs I L) Q = Wp d 82 15 ls (.ref (f_rf o 0) :: st) (f_W xs I L) Q := Wp.getR (ci := 1) (k := 0) e82_12 rfl (by decide) (by decide) rfl ht
theorem e82_15 : decode (j_co 82) 15 = .ok (.getfield 48, 3) := by decide +kernel
set_option maxRecDepth 20000 in
theorem w82_15 {d : Nat} {st : List Value} {Q : Option Value × jW → Prop} {ls : jL} {xs : List Value} {I : fI} {L : fL} {o : Nat} (ht : f_tg o = 5) : Wp d 82 15 ls (.ref o :: st) (f_W xs I L) Q = Wp d 82 18 ls (.ref (f_rf o 0) :: st) (f_W xs I L) Q := Wp.getR (ci := 5) (k := 0) e82_15 rfl (by decide) (by decide) rfl ht
theorem e82_18 : decode (j_co 82) 18 = .ok (.iload_n 1, 1) := by decide +kernel
set_option maxRecDepth 20000 in
theorem w82_18 {d : Nat} {st : List Value} {Q : Option Value × jW → Prop} {w : jW} {a0 : Option Value} {x : Int32} : Wp d 82 18 [a0, some (.int x)] (st) w Q = Wp d 82 19 [a0, some (.int x)] (.int x :: st) w Q := Wp.loc e82_18 rfl rfl rfl
theorem e82_19 : decode (j_co 82) 19 = .ok (.aaload, 1) := by decide +kernel
set_option maxRecDepth 20000 in
theorem w82_19 {d : Nat} {st : List Value} {Q : Option Value × jW → Prop} {ls : jL} {xs : List Value} {I : fI} {L : fL} {o : Nat} {i : Int32} (ht : 103 ≤ f_tg o ∧ f_tg o ≤ 106) (hi : ¬ (i < 0 ∨ f_ln o ≤ i.toNatClampNeg)) : Wp d 82 19 ls (.int i :: .ref o :: st) (f_W xs I L) Q = Wp d 82 20 ls (.ref (f_rf o i.toNatClampNeg) :: st) (f_W xs I L) Q := Wp.aald e82_19 rfl ht hi
theorem e82_20 : decode (j_co 82) 20 = .ok (.getfield 25, 3) := by decide +kernel
set_option maxRecDepth 20000 in
theorem w82_20 {d : Nat} {st : List Value} {Q : Option Value × jW → Prop} {ls : jL} {xs : List Value} {I : fI} {L : fL} {o : Nat} (ht : f_tg o = 6) : Wp d 82 20 ls (.ref o :: st) (f_W xs I L) Q = Wp d 82 23 ls (.int (I o 3) :: st) (f_W xs I L) Q := Wp.getI (ci := 6) (k := 3) e82_20 rfl (by decide) (by decide) (by decide) ht
theorem e82_23 : decode (j_co 82) 23 = .ok (.ifCond .eq 29, 3) := by decide +kernel
set_option maxRecDepth 20000 in
theorem w82_23 {d : Nat} {st : List Value} {Q : Option Value × jW → Prop} {ls : jL} {w : jW} {a : Int32} : Wp d 82 23 ls (.int a :: st) w Q = ((a = nI 0 → Wp d 82 52 ls st w Q) ∧ (¬ a = nI 0 → Wp d 82 26 ls st w Q)) := Wp.if2 (c := a = nI 0) (off := 29) e82_23 rfl rfl rfl rfl rfl
theorem e82_26 : decode (j_co 82) 26 = .ok (.aload_n 0, 1) := by decide +kernel
set_option maxRecDepth 20000 in
theorem w82_26 {d : Nat} {st : List Value} {Q : Option Value × jW → Prop} {w : jW} {a1 : Option Value} {x : Nat} : Wp d 82 26 [some (.ref x), a1] (st) w Q = Wp d 82 27 [some (.ref x), a1] (.ref x :: st) w Q := Wp.loc e82_26 rfl rfl rfl
theorem e82_27 : decode (j_co 82) 27 = .ok (.getfield 21, 3) := by decide +kernel
set_option maxRecDepth 20000 in
theorem w82_27 {d : Nat} {st : List Value} {Q : Option Value × jW → Prop} {ls : jL} {xs : List Value} {I : fI} {L : fL} {o : Nat} (ht : f_tg o = 1) : Wp d 82 27 ls (.ref o :: st) (f_W xs I L) Q = Wp d 82 30 ls (.ref (f_rf o 0) :: st) (f_W xs I L) Q := Wp.getR (ci := 1) (k := 0) e82_27 rfl (by decide) (by decide) rfl ht
theorem e82_30 : decode (j_co 82) 30 = .ok (.getfield 48, 3) := by decide +kernel
set_option maxRecDepth 20000 in
theorem w82_30 {d : Nat} {st : List Value} {Q : Option Value × jW → Prop} {ls : jL} {xs : List Value} {I : fI} {L : fL} {o : Nat} (ht : f_tg o = 5) : Wp d 82 30 ls (.ref o :: st) (f_W xs I L) Q = Wp d 82 33 ls (.ref (f_rf o 0) :: st) (f_W xs I L) Q := Wp.getR (ci := 5) (k := 0) e82_30 rfl (by decide) (by decide) rfl ht
theorem e82_33 : decode (j_co 82) 33 = .ok (.iload_n 1, 1) := by decide +kernel
set_option maxRecDepth 20000 in
theorem w82_33 {d : Nat} {st : List Value} {Q : Option Value × jW → Prop} {w : jW} {a0 : Option Value} {x : Int32} : Wp d 82 33 [a0, some (.int x)] (st) w Q = Wp d 82 34 [a0, some (.int x)] (.int x :: st) w Q := Wp.loc e82_33 rfl rfl rfl
theorem e82_34 : decode (j_co 82) 34 = .ok (.aaload, 1) := by decide +kernel
set_option maxRecDepth 20000 in
theorem w82_34 {d : Nat} {st : List Value} {Q : Option Value × jW → Prop} {ls : jL} {xs : List Value} {I : fI} {L : fL} {o : Nat} {i : Int32} (ht : 103 ≤ f_tg o ∧ f_tg o ≤ 106) (hi : ¬ (i < 0 ∨ f_ln o ≤ i.toNatClampNeg)) : Wp d 82 34 ls (.int i :: .ref o :: st) (f_W xs I L) Q = Wp d 82 35 ls (.ref (f_rf o i.toNatClampNeg) :: st) (f_W xs I L) Q := Wp.aald e82_34 rfl ht hi
theorem e82_35 : decode (j_co 82) 35 = .ok (.getfield 31, 3) := by decide +kernel
set_option maxRecDepth 20000 in
theorem w82_35 {d : Nat} {st : List Value} {Q : Option Value × jW → Prop} {ls : jL} {xs : List Value} {I : fI} {L : fL} {o : Nat} (ht : f_tg o = 6) : Wp d 82 35 ls (.ref o :: st) (f_W xs I L) Q = Wp d 82 38 ls (.ref (f_rf o 2) :: st) (f_W xs I L) Q := Wp.getR (ci := 6) (k := 2) e82_35 rfl (by decide) (by decide) rfl ht
theorem e82_38 : decode (j_co 82) 38 = .ok (.aload_n 0, 1) := by decide +kernel
set_option maxRecDepth 20000 in
theorem w82_38 {d : Nat} {st : List Value} {Q : Option Value × jW → Prop} {w : jW} {a1 : Option Value} {x : Nat} : Wp d 82 38 [some (.ref x), a1] (st) w Q = Wp d 82 39 [some (.ref x), a1] (.ref x :: st) w Q := Wp.loc e82_38 rfl rfl rfl
theorem e82_39 : decode (j_co 82) 39 = .ok (.getfield 18, 3) := by decide +kernel
set_option maxRecDepth 20000 in
theorem w82_39 {d : Nat} {st : List Value} {Q : Option Value × jW → Prop} {ls : jL} {xs : List Value} {I : fI} {L : fL} {o : Nat} (ht : f_tg o = 1) : Wp d 82 39 ls (.ref o :: st) (f_W xs I L) Q = Wp d 82 42 ls (.ref (f_rf o 2) :: st) (f_W xs I L) Q := Wp.getR (ci := 1) (k := 2) e82_39 rfl (by decide) (by decide) rfl ht
theorem e82_42 : decode (j_co 82) 42 = .ok (.invokevirtual 106, 3) := by decide +kernel
set_option maxRecDepth 20000 in
theorem w82_42 {d : Nat} {st : List Value} {Q : Option Value × jW → Prop} {ls : jL} {xs : List Value} {I : fI} {L : fL} {r : Nat} {x0 : Nat} (hs : j_sumc st ≤ 8) (ht : f_tg r = 0) : Wp (d + 1) 82 42 ls (.ref x0 :: .ref r :: st) (f_W xs I L) Q = Wp d 45 0 [some (.ref r), some (.ref x0), none] [] (f_W xs I L) (fun r1 => Wp (d + 1) 82 45 ls (r1.1.toList ++ st) r1.2 Q) := Wp.cv (y' := 45) (as := [.ref x0]) e82_42 rfl (by decide) rfl (show 2 ≤ 3 by decide) (by decide) hs ht
theorem e82_45 : decode (j_co 82) 45 = .ok (.ifCond .eq 7, 3) := by decide +kernel
set_option maxRecDepth 20000 in
theorem w82_45 {d : Nat} {st : List Value} {Q : Option Value × jW → Prop} {ls : jL} {w : jW} {a : Int32} : Wp d 82 45 ls (.int a :: st) w Q = ((a = nI 0 → Wp d 82 52 ls st w Q) ∧ (¬ a = nI 0 → Wp d 82 48 ls st w Q)) := Wp.if2 (c := a = nI 0) (off := 7) e82_45 rfl rfl rfl rfl rfl
theorem e82_48 : decode (j_co 82) 48 = .ok (.iconst 1, 1) := by decide +kernel
set_option maxRecDepth 20000 in
theorem w82_48 {d : Nat} {st : List Value} {Q : Option Value × jW → Prop} {ls : jL} {w : jW} : Wp d 82 48 ls (st) w Q = Wp d 82 49 ls (.int (nI 1) :: st) w Q := Wp.alu e82_48 rfl rfl
theorem e82_49 : decode (j_co 82) 49 = .ok (.goto 4, 3) := by decide +kernel
set_option maxRecDepth 20000 in
theorem w82_49 {d : Nat} {st : List Value} {Q : Option Value × jW → Prop} {ls : jL} {w : jW} : Wp d 82 49 ls (st) w Q = Wp d 82 53 ls (st) w Q := Wp.br e82_49 (Or.inl rfl) rfl rfl rfl rfl
theorem e82_52 : decode (j_co 82) 52 = .ok (.iconst 0, 1) := by decide +kernel
set_option maxRecDepth 20000 in
theorem w82_52 {d : Nat} {st : List Value} {Q : Option Value × jW → Prop} {ls : jL} {w : jW} : Wp d 82 52 ls (st) w Q = Wp d 82 53 ls (.int (nI 0) :: st) w Q := Wp.alu e82_52 rfl rfl
theorem e82_53 : decode (j_co 82) 53 = .ok (.ireturn, 1) := by decide +kernel
set_option maxRecDepth 20000 in
theorem w82_53 {d : Nat} {Q : Option Value × jW → Prop} {ls : jL} {w : jW} {x : Int32} (hx : x = 0 ∨ x = 1) : Wp d 82 53 ls [.int x] w Q = Q (some (.int x), w) := Wp.ret e82_53 (by rcases hx with rfl | rfl <;> rfl)
/-! Fences.firstTickOut -/
theorem e83_0 : decode (j_co 83) 0 = .ok (.iconst 0, 1) := by decide +kernel
set_option maxRecDepth 20000 in
theorem w83_0 {d : Nat} {st : List Value} {Q : Option Value × jW → Prop} {ls : jL} {w : jW} : Wp d 83 0 ls (st) w Q = Wp d 83 1 ls (.int (nI 0) :: st) w Q := Wp.alu e83_0 rfl rfl
theorem e83_1 : decode (j_co 83) 1 = .ok (.istore_n 1, 1) := by decide +kernel
set_option maxRecDepth 20000 in
theorem w83_1 {d : Nat} {st : List Value} {Q : Option Value × jW → Prop} {w : jW} {a0 a1 : Option Value} {x : Int32} (h : j_cp a0) : Wp d 83 1 [a0, a1] (.int x :: st) w Q = Wp d 83 2 [a0, some (.int x)] (st) w Q := Wp.loc e83_1 rfl rfl (v_stI (ls := [a0, a1]) (k := 1) (show 1 < 2 by decide) h)
theorem e83_2 : decode (j_co 83) 2 = .ok (.iload_n 1, 1) := by decide +kernel
set_option maxRecDepth 20000 in
theorem w83_2 {d : Nat} {st : List Value} {Q : Option Value × jW → Prop} {w : jW} {a0 : Option Value} {x : Int32} : Wp d 83 2 [a0, some (.int x)] (st) w Q = Wp d 83 3 [a0, some (.int x)] (.int x :: st) w Q := Wp.loc e83_2 rfl rfl rfl
theorem e83_3 : decode (j_co 83) 3 = .ok (.aload_n 0, 1) := by decide +kernel
set_option maxRecDepth 20000 in
theorem w83_3 {d : Nat} {st : List Value} {Q : Option Value × jW → Prop} {w : jW} {a1 : Option Value} {x : Nat} : Wp d 83 3 [some (.ref x), a1] (st) w Q = Wp d 83 4 [some (.ref x), a1] (.ref x :: st) w Q := Wp.loc e83_3 rfl rfl rfl
theorem e83_4 : decode (j_co 83) 4 = .ok (.getfield 21, 3) := by decide +kernel
set_option maxRecDepth 20000 in
theorem w83_4 {d : Nat} {st : List Value} {Q : Option Value × jW → Prop} {ls : jL} {xs : List Value} {I : fI} {L : fL} {o : Nat} (ht : f_tg o = 1) : Wp d 83 4 ls (.ref o :: st) (f_W xs I L) Q = Wp d 83 7 ls (.ref (f_rf o 0) :: st) (f_W xs I L) Q := Wp.getR (ci := 1) (k := 0) e83_4 rfl (by decide) (by decide) rfl ht
theorem e83_7 : decode (j_co 83) 7 = .ok (.getfield 42, 3) := by decide +kernel
set_option maxRecDepth 20000 in
theorem w83_7 {d : Nat} {st : List Value} {Q : Option Value × jW → Prop} {ls : jL} {xs : List Value} {I : fI} {L : fL} {o : Nat} (ht : f_tg o = 5) : Wp d 83 7 ls (.ref o :: st) (f_W xs I L) Q = Wp d 83 10 ls (.int (I o 4) :: st) (f_W xs I L) Q := Wp.getI (ci := 5) (k := 4) e83_7 rfl (by decide) (by decide) (by decide) ht
theorem e83_10 : decode (j_co 83) 10 = .ok (.if_icmp .ge 46, 3) := by decide +kernel
set_option maxRecDepth 20000 in
theorem w83_10 {d : Nat} {st : List Value} {Q : Option Value × jW → Prop} {ls : jL} {w : jW} {a b : Int32} : Wp d 83 10 ls (.int b :: .int a :: st) w Q = ((b ≤ a → Wp d 83 56 ls st w Q) ∧ (¬ b ≤ a → Wp d 83 13 ls st w Q)) := Wp.if2 (c := b ≤ a) (off := 46) e83_10 rfl rfl rfl rfl rfl
theorem e83_13 : decode (j_co 83) 13 = .ok (.aload_n 0, 1) := by decide +kernel
set_option maxRecDepth 20000 in
theorem w83_13 {d : Nat} {st : List Value} {Q : Option Value × jW → Prop} {w : jW} {a1 : Option Value} {x : Nat} : Wp d 83 13 [some (.ref x), a1] (st) w Q = Wp d 83 14 [some (.ref x), a1] (.ref x :: st) w Q := Wp.loc e83_13 rfl rfl rfl
theorem e83_14 : decode (j_co 83) 14 = .ok (.iload_n 1, 1) := by decide +kernel
set_option maxRecDepth 20000 in
theorem w83_14 {d : Nat} {st : List Value} {Q : Option Value × jW → Prop} {w : jW} {a0 : Option Value} {x : Int32} : Wp d 83 14 [a0, some (.int x)] (st) w Q = Wp d 83 15 [a0, some (.int x)] (.int x :: st) w Q := Wp.loc e83_14 rfl rfl rfl
theorem e83_15 : decode (j_co 83) 15 = .ok (.invokevirtual 73, 3) := by decide +kernel
set_option maxRecDepth 20000 in
theorem w83_15 {d : Nat} {st : List Value} {Q : Option Value × jW → Prop} {ls : jL} {xs : List Value} {I : fI} {L : fL} {r : Nat} {x0 : Int32} (hs : j_sumc st ≤ 8) (ht : f_tg r = 1) : Wp (d + 1) 83 15 ls (.int x0 :: .ref r :: st) (f_W xs I L) Q = Wp d 84 0 [some (.ref r), some (.int x0)] [] (f_W xs I L) (fun r1 => Wp (d + 1) 83 18 ls (r1.1.toList ++ st) r1.2 Q) := Wp.cv (y' := 84) (as := [.int x0]) e83_15 rfl (by decide) rfl (show 2 ≤ 2 by decide) (by decide) hs ht
theorem e83_18 : decode (j_co 83) 18 = .ok (.ifCond .eq 32, 3) := by decide +kernel
set_option maxRecDepth 20000 in
theorem w83_18 {d : Nat} {st : List Value} {Q : Option Value × jW → Prop} {ls : jL} {w : jW} {a : Int32} : Wp d 83 18 ls (.int a :: st) w Q = ((a = nI 0 → Wp d 83 50 ls st w Q) ∧ (¬ a = nI 0 → Wp d 83 21 ls st w Q)) := Wp.if2 (c := a = nI 0) (off := 32) e83_18 rfl rfl rfl rfl rfl
theorem e83_21 : decode (j_co 83) 21 = .ok (.aload_n 0, 1) := by decide +kernel
set_option maxRecDepth 20000 in
theorem w83_21 {d : Nat} {st : List Value} {Q : Option Value × jW → Prop} {w : jW} {a1 : Option Value} {x : Nat} : Wp d 83 21 [some (.ref x), a1] (st) w Q = Wp d 83 22 [some (.ref x), a1] (.ref x :: st) w Q := Wp.loc e83_21 rfl rfl rfl
theorem e83_22 : decode (j_co 83) 22 = .ok (.getfield 21, 3) := by decide +kernel
set_option maxRecDepth 20000 in
theorem w83_22 {d : Nat} {st : List Value} {Q : Option Value × jW → Prop} {ls : jL} {xs : List Value} {I : fI} {L : fL} {o : Nat} (ht : f_tg o = 1) : Wp d 83 22 ls (.ref o :: st) (f_W xs I L) Q = Wp d 83 25 ls (.ref (f_rf o 0) :: st) (f_W xs I L) Q := Wp.getR (ci := 1) (k := 0) e83_22 rfl (by decide) (by decide) rfl ht
theorem e83_25 : decode (j_co 83) 25 = .ok (.iload_n 1, 1) := by decide +kernel
set_option maxRecDepth 20000 in
theorem w83_25 {d : Nat} {st : List Value} {Q : Option Value × jW → Prop} {w : jW} {a0 : Option Value} {x : Int32} : Wp d 83 25 [a0, some (.int x)] (st) w Q = Wp d 83 26 [a0, some (.int x)] (.int x :: st) w Q := Wp.loc e83_25 rfl rfl rfl
theorem e83_26 : decode (j_co 83) 26 = .ok (.aload_n 0, 1) := by decide +kernel
set_option maxRecDepth 20000 in
theorem w83_26 {d : Nat} {st : List Value} {Q : Option Value × jW → Prop} {w : jW} {a1 : Option Value} {x : Nat} : Wp d 83 26 [some (.ref x), a1] (st) w Q = Wp d 83 27 [some (.ref x), a1] (.ref x :: st) w Q := Wp.loc e83_26 rfl rfl rfl
theorem e83_27 : decode (j_co 83) 27 = .ok (.getfield 12, 3) := by decide +kernel
set_option maxRecDepth 20000 in
theorem w83_27 {d : Nat} {st : List Value} {Q : Option Value × jW → Prop} {ls : jL} {xs : List Value} {I : fI} {L : fL} {o : Nat} (ht : f_tg o = 1) : Wp d 83 27 ls (.ref o :: st) (f_W xs I L) Q = Wp d 83 30 ls (.ref (f_rf o 1) :: st) (f_W xs I L) Q := Wp.getR (ci := 1) (k := 1) e83_27 rfl (by decide) (by decide) rfl ht
theorem e83_30 : decode (j_co 83) 30 = .ok (.aload_n 0, 1) := by decide +kernel
set_option maxRecDepth 20000 in
theorem w83_30 {d : Nat} {st : List Value} {Q : Option Value × jW → Prop} {w : jW} {a1 : Option Value} {x : Nat} : Wp d 83 30 [some (.ref x), a1] (st) w Q = Wp d 83 31 [some (.ref x), a1] (.ref x :: st) w Q := Wp.loc e83_30 rfl rfl rfl
theorem e83_31 : decode (j_co 83) 31 = .ok (.getfield 18, 3) := by decide +kernel
set_option maxRecDepth 20000 in
theorem w83_31 {d : Nat} {st : List Value} {Q : Option Value × jW → Prop} {ls : jL} {xs : List Value} {I : fI} {L : fL} {o : Nat} (ht : f_tg o = 1) : Wp d 83 31 ls (.ref o :: st) (f_W xs I L) Q = Wp d 83 34 ls (.ref (f_rf o 2) :: st) (f_W xs I L) Q := Wp.getR (ci := 1) (k := 2) e83_31 rfl (by decide) (by decide) rfl ht
theorem e83_34 : decode (j_co 83) 34 = .ok (.invokevirtual 80, 3) := by decide +kernel
set_option maxRecDepth 20000 in
theorem w83_34 {d : Nat} {st : List Value} {Q : Option Value × jW → Prop} {ls : jL} {xs : List Value} {I : fI} {L : fL} {r : Nat} {x0 : Int32} {x1 : Nat} {x2 : Nat} (hs : j_sumc st ≤ 8) (ht : f_tg r = 5) : Wp (d + 1) 83 34 ls (.ref x2 :: .ref x1 :: .int x0 :: .ref r :: st) (f_W xs I L) Q = Wp d 42 0 [some (.ref r), some (.int x0), some (.ref x1), some (.ref x2), none] [] (f_W xs I L) (fun r1 => Wp (d + 1) 83 37 ls (r1.1.toList ++ st) r1.2 Q) := Wp.cv (y' := 42) (as := [.int x0, .ref x1, .ref x2]) e83_34 rfl (by decide) rfl (show 4 ≤ 5 by decide) (by decide) hs ht
theorem e83_37 : decode (j_co 83) 37 = .ok (.ifCond .eq 13, 3) := by decide +kernel
set_option maxRecDepth 20000 in
theorem w83_37 {d : Nat} {st : List Value} {Q : Option Value × jW → Prop} {ls : jL} {w : jW} {a : Int32} : Wp d 83 37 ls (.int a :: st) w Q = ((a = nI 0 → Wp d 83 50 ls st w Q) ∧ (¬ a = nI 0 → Wp d 83 40 ls st w Q)) := Wp.if2 (c := a = nI 0) (off := 13) e83_37 rfl rfl rfl rfl rfl
theorem e83_40 : decode (j_co 83) 40 = .ok (.aload_n 0, 1) := by decide +kernel
set_option maxRecDepth 20000 in
theorem w83_40 {d : Nat} {st : List Value} {Q : Option Value × jW → Prop} {w : jW} {a1 : Option Value} {x : Nat} : Wp d 83 40 [some (.ref x), a1] (st) w Q = Wp d 83 41 [some (.ref x), a1] (.ref x :: st) w Q := Wp.loc e83_40 rfl rfl rfl
theorem e83_41 : decode (j_co 83) 41 = .ok (.iload_n 1, 1) := by decide +kernel
set_option maxRecDepth 20000 in
theorem w83_41 {d : Nat} {st : List Value} {Q : Option Value × jW → Prop} {w : jW} {a0 : Option Value} {x : Int32} : Wp d 83 41 [a0, some (.int x)] (st) w Q = Wp d 83 42 [a0, some (.int x)] (.int x :: st) w Q := Wp.loc e83_41 rfl rfl rfl
theorem e83_42 : decode (j_co 83) 42 = .ok (.invokevirtual 59, 3) := by decide +kernel
set_option maxRecDepth 20000 in
theorem w83_42 {d : Nat} {st : List Value} {Q : Option Value × jW → Prop} {ls : jL} {xs : List Value} {I : fI} {L : fL} {r : Nat} {x0 : Int32} (hs : j_sumc st ≤ 8) (ht : f_tg r = 1) : Wp (d + 1) 83 42 ls (.int x0 :: .ref r :: st) (f_W xs I L) Q = Wp d 82 0 [some (.ref r), some (.int x0)] [] (f_W xs I L) (fun r1 => Wp (d + 1) 83 45 ls (r1.1.toList ++ st) r1.2 Q) := Wp.cv (y' := 82) (as := [.int x0]) e83_42 rfl (by decide) rfl (show 2 ≤ 2 by decide) (by decide) hs ht
theorem e83_45 : decode (j_co 83) 45 = .ok (.ifCond .ne 5, 3) := by decide +kernel
set_option maxRecDepth 20000 in
theorem w83_45 {d : Nat} {st : List Value} {Q : Option Value × jW → Prop} {ls : jL} {w : jW} {a : Int32} : Wp d 83 45 ls (.int a :: st) w Q = ((a = nI 0 → Wp d 83 48 ls st w Q) ∧ (¬ a = nI 0 → Wp d 83 50 ls st w Q)) := Wp.if2n (c := a = nI 0) (off := 5) e83_45 rfl rfl rfl rfl rfl
theorem e83_48 : decode (j_co 83) 48 = .ok (.iload_n 1, 1) := by decide +kernel
set_option maxRecDepth 20000 in
theorem w83_48 {d : Nat} {st : List Value} {Q : Option Value × jW → Prop} {w : jW} {a0 : Option Value} {x : Int32} : Wp d 83 48 [a0, some (.int x)] (st) w Q = Wp d 83 49 [a0, some (.int x)] (.int x :: st) w Q := Wp.loc e83_48 rfl rfl rfl
theorem e83_49 : decode (j_co 83) 49 = .ok (.ireturn, 1) := by decide +kernel
set_option maxRecDepth 20000 in
theorem w83_49 {d : Nat} {Q : Option Value × jW → Prop} {ls : jL} {w : jW} {x : Int32} : Wp d 83 49 ls [.int x] w Q = Q (some (.int x), w) := Wp.ret e83_49 rfl
theorem e83_50 : decode (j_co 83) 50 = .ok (.iinc 1 1, 3) := by decide +kernel
set_option maxRecDepth 20000 in
theorem w83_50 {d : Nat} {st : List Value} {Q : Option Value × jW → Prop} {w : jW} {a0 : Option Value} {x : Int32} (h : j_cp a0) : Wp d 83 50 [a0, some (.int x)] (st) w Q = Wp d 83 53 [a0, some (.int (x + nI 1))] (st) w Q := Wp.loc e83_50 rfl rfl (v_inc (ls := [a0, some (.int x)]) (k := 1) (n := 1) rfl (show 1 < 2 by decide) h)
theorem e83_53 : decode (j_co 83) 53 = .ok (.goto (-51), 3) := by decide +kernel
set_option maxRecDepth 20000 in
theorem w83_53 {d : Nat} {st : List Value} {Q : Option Value × jW → Prop} {ls : jL} {w : jW} : Wp d 83 53 ls (st) w Q = Wp d 83 2 ls (st) w Q := Wp.br e83_53 (Or.inl rfl) rfl rfl rfl rfl
theorem e83_56 : decode (j_co 83) 56 = .ok (.bipush (-4), 2) := by decide +kernel
set_option maxRecDepth 20000 in
theorem w83_56 {d : Nat} {st : List Value} {Q : Option Value × jW → Prop} {ls : jL} {w : jW} : Wp d 83 56 ls (st) w Q = Wp d 83 58 ls (.int (-4) :: st) w Q := Wp.alu e83_56 rfl rfl
theorem e83_58 : decode (j_co 83) 58 = .ok (.ireturn, 1) := by decide +kernel
set_option maxRecDepth 20000 in
theorem w83_58 {d : Nat} {Q : Option Value × jW → Prop} {ls : jL} {w : jW} {x : Int32} : Wp d 83 58 ls [.int x] w Q = Q (some (.int x), w) := Wp.ret e83_58 rfl
/-! Fences.enter -/
theorem e84_0 : decode (j_co 84) 0 = .ok (.aload_n 0, 1) := by decide +kernel
set_option maxRecDepth 20000 in
theorem w84_0 {d : Nat} {st : List Value} {Q : Option Value × jW → Prop} {w : jW} {a1 : Option Value} {x : Nat} : Wp d 84 0 [some (.ref x), a1] (st) w Q = Wp d 84 1 [some (.ref x), a1] (.ref x :: st) w Q := Wp.loc e84_0 rfl rfl rfl
theorem e84_1 : decode (j_co 84) 1 = .ok (.getfield 21, 3) := by decide +kernel
set_option maxRecDepth 20000 in
theorem w84_1 {d : Nat} {st : List Value} {Q : Option Value × jW → Prop} {ls : jL} {xs : List Value} {I : fI} {L : fL} {o : Nat} (ht : f_tg o = 1) : Wp d 84 1 ls (.ref o :: st) (f_W xs I L) Q = Wp d 84 4 ls (.ref (f_rf o 0) :: st) (f_W xs I L) Q := Wp.getR (ci := 1) (k := 0) e84_1 rfl (by decide) (by decide) rfl ht
theorem e84_4 : decode (j_co 84) 4 = .ok (.iload_n 1, 1) := by decide +kernel
set_option maxRecDepth 20000 in
theorem w84_4 {d : Nat} {st : List Value} {Q : Option Value × jW → Prop} {w : jW} {a0 : Option Value} {x : Int32} : Wp d 84 4 [a0, some (.int x)] (st) w Q = Wp d 84 5 [a0, some (.int x)] (.int x :: st) w Q := Wp.loc e84_4 rfl rfl rfl
theorem e84_5 : decode (j_co 84) 5 = .ok (.invokevirtual 103, 3) := by decide +kernel
set_option maxRecDepth 20000 in
theorem w84_5 {d : Nat} {st : List Value} {Q : Option Value × jW → Prop} {ls : jL} {xs : List Value} {I : fI} {L : fL} {r : Nat} {x0 : Int32} (hs : j_sumc st ≤ 8) (ht : f_tg r = 5) : Wp (d + 1) 84 5 ls (.int x0 :: .ref r :: st) (f_W xs I L) Q = Wp d 16 0 [some (.ref r), some (.int x0)] [] (f_W xs I L) (fun r1 => Wp (d + 1) 84 8 ls (r1.1.toList ++ st) r1.2 Q) := Wp.cv (y' := 16) (as := [.int x0]) e84_5 rfl (by decide) rfl (show 2 ≤ 2 by decide) (by decide) hs ht
theorem e84_8 : decode (j_co 84) 8 = .ok (.ifCond .eq 18, 3) := by decide +kernel
set_option maxRecDepth 20000 in
theorem w84_8 {d : Nat} {st : List Value} {Q : Option Value × jW → Prop} {ls : jL} {w : jW} {a : Int32} : Wp d 84 8 ls (.int a :: st) w Q = ((a = nI 0 → Wp d 84 26 ls st w Q) ∧ (¬ a = nI 0 → Wp d 84 11 ls st w Q)) := Wp.if2 (c := a = nI 0) (off := 18) e84_8 rfl rfl rfl rfl rfl
theorem e84_11 : decode (j_co 84) 11 = .ok (.aload_n 0, 1) := by decide +kernel
set_option maxRecDepth 20000 in
theorem w84_11 {d : Nat} {st : List Value} {Q : Option Value × jW → Prop} {w : jW} {a1 : Option Value} {x : Nat} : Wp d 84 11 [some (.ref x), a1] (st) w Q = Wp d 84 12 [some (.ref x), a1] (.ref x :: st) w Q := Wp.loc e84_11 rfl rfl rfl
theorem e84_12 : decode (j_co 84) 12 = .ok (.getfield 21, 3) := by decide +kernel
set_option maxRecDepth 20000 in
theorem w84_12 {d : Nat} {st : List Value} {Q : Option Value × jW → Prop} {ls : jL} {xs : List Value} {I : fI} {L : fL} {o : Nat} (ht : f_tg o = 1) : Wp d 84 12 ls (.ref o :: st) (f_W xs I L) Q = Wp d 84 15 ls (.ref (f_rf o 0) :: st) (f_W xs I L) Q := Wp.getR (ci := 1) (k := 0) e84_12 rfl (by decide) (by decide) rfl ht
theorem e84_15 : decode (j_co 84) 15 = .ok (.getfield 48, 3) := by decide +kernel
set_option maxRecDepth 20000 in
theorem w84_15 {d : Nat} {st : List Value} {Q : Option Value × jW → Prop} {ls : jL} {xs : List Value} {I : fI} {L : fL} {o : Nat} (ht : f_tg o = 5) : Wp d 84 15 ls (.ref o :: st) (f_W xs I L) Q = Wp d 84 18 ls (.ref (f_rf o 0) :: st) (f_W xs I L) Q := Wp.getR (ci := 5) (k := 0) e84_15 rfl (by decide) (by decide) rfl ht
theorem e84_18 : decode (j_co 84) 18 = .ok (.iload_n 1, 1) := by decide +kernel
set_option maxRecDepth 20000 in
theorem w84_18 {d : Nat} {st : List Value} {Q : Option Value × jW → Prop} {w : jW} {a0 : Option Value} {x : Int32} : Wp d 84 18 [a0, some (.int x)] (st) w Q = Wp d 84 19 [a0, some (.int x)] (.int x :: st) w Q := Wp.loc e84_18 rfl rfl rfl
theorem e84_19 : decode (j_co 84) 19 = .ok (.aaload, 1) := by decide +kernel
set_option maxRecDepth 20000 in
theorem w84_19 {d : Nat} {st : List Value} {Q : Option Value × jW → Prop} {ls : jL} {xs : List Value} {I : fI} {L : fL} {o : Nat} {i : Int32} (ht : 103 ≤ f_tg o ∧ f_tg o ≤ 106) (hi : ¬ (i < 0 ∨ f_ln o ≤ i.toNatClampNeg)) : Wp d 84 19 ls (.int i :: .ref o :: st) (f_W xs I L) Q = Wp d 84 20 ls (.ref (f_rf o i.toNatClampNeg) :: st) (f_W xs I L) Q := Wp.aald e84_19 rfl ht hi
theorem e84_20 : decode (j_co 84) 20 = .ok (.getfield 25, 3) := by decide +kernel
set_option maxRecDepth 20000 in
theorem w84_20 {d : Nat} {st : List Value} {Q : Option Value × jW → Prop} {ls : jL} {xs : List Value} {I : fI} {L : fL} {o : Nat} (ht : f_tg o = 6) : Wp d 84 20 ls (.ref o :: st) (f_W xs I L) Q = Wp d 84 23 ls (.int (I o 3) :: st) (f_W xs I L) Q := Wp.getI (ci := 6) (k := 3) e84_20 rfl (by decide) (by decide) (by decide) ht
theorem e84_23 : decode (j_co 84) 23 = .ok (.ifCond .ne 5, 3) := by decide +kernel
set_option maxRecDepth 20000 in
theorem w84_23 {d : Nat} {st : List Value} {Q : Option Value × jW → Prop} {ls : jL} {w : jW} {a : Int32} : Wp d 84 23 ls (.int a :: st) w Q = ((a = nI 0 → Wp d 84 26 ls st w Q) ∧ (¬ a = nI 0 → Wp d 84 28 ls st w Q)) := Wp.if2n (c := a = nI 0) (off := 5) e84_23 rfl rfl rfl rfl rfl
theorem e84_26 : decode (j_co 84) 26 = .ok (.iconst 0, 1) := by decide +kernel
set_option maxRecDepth 20000 in
theorem w84_26 {d : Nat} {st : List Value} {Q : Option Value × jW → Prop} {ls : jL} {w : jW} : Wp d 84 26 ls (st) w Q = Wp d 84 27 ls (.int (nI 0) :: st) w Q := Wp.alu e84_26 rfl rfl
theorem e84_27 : decode (j_co 84) 27 = .ok (.ireturn, 1) := by decide +kernel
set_option maxRecDepth 20000 in
theorem w84_27 {d : Nat} {Q : Option Value × jW → Prop} {ls : jL} {w : jW} {x : Int32} (hx : x = 0 ∨ x = 1) : Wp d 84 27 ls [.int x] w Q = Q (some (.int x), w) := Wp.ret e84_27 (by rcases hx with rfl | rfl <;> rfl)
theorem e84_28 : decode (j_co 84) 28 = .ok (.aload_n 0, 1) := by decide +kernel
set_option maxRecDepth 20000 in
theorem w84_28 {d : Nat} {st : List Value} {Q : Option Value × jW → Prop} {w : jW} {a1 : Option Value} {x : Nat} : Wp d 84 28 [some (.ref x), a1] (st) w Q = Wp d 84 29 [some (.ref x), a1] (.ref x :: st) w Q := Wp.loc e84_28 rfl rfl rfl
theorem e84_29 : decode (j_co 84) 29 = .ok (.getfield 12, 3) := by decide +kernel
set_option maxRecDepth 20000 in
theorem w84_29 {d : Nat} {st : List Value} {Q : Option Value × jW → Prop} {ls : jL} {xs : List Value} {I : fI} {L : fL} {o : Nat} (ht : f_tg o = 1) : Wp d 84 29 ls (.ref o :: st) (f_W xs I L) Q = Wp d 84 32 ls (.ref (f_rf o 1) :: st) (f_W xs I L) Q := Wp.getR (ci := 1) (k := 1) e84_29 rfl (by decide) (by decide) rfl ht
theorem e84_32 : decode (j_co 84) 32 = .ok (.aload_n 0, 1) := by decide +kernel
set_option maxRecDepth 20000 in
theorem w84_32 {d : Nat} {st : List Value} {Q : Option Value × jW → Prop} {w : jW} {a1 : Option Value} {x : Nat} : Wp d 84 32 [some (.ref x), a1] (st) w Q = Wp d 84 33 [some (.ref x), a1] (.ref x :: st) w Q := Wp.loc e84_32 rfl rfl rfl
theorem e84_33 : decode (j_co 84) 33 = .ok (.getfield 21, 3) := by decide +kernel
set_option maxRecDepth 20000 in
theorem w84_33 {d : Nat} {st : List Value} {Q : Option Value × jW → Prop} {ls : jL} {xs : List Value} {I : fI} {L : fL} {o : Nat} (ht : f_tg o = 1) : Wp d 84 33 ls (.ref o :: st) (f_W xs I L) Q = Wp d 84 36 ls (.ref (f_rf o 0) :: st) (f_W xs I L) Q := Wp.getR (ci := 1) (k := 0) e84_33 rfl (by decide) (by decide) rfl ht
theorem e84_36 : decode (j_co 84) 36 = .ok (.getfield 48, 3) := by decide +kernel
set_option maxRecDepth 20000 in
theorem w84_36 {d : Nat} {st : List Value} {Q : Option Value × jW → Prop} {ls : jL} {xs : List Value} {I : fI} {L : fL} {o : Nat} (ht : f_tg o = 5) : Wp d 84 36 ls (.ref o :: st) (f_W xs I L) Q = Wp d 84 39 ls (.ref (f_rf o 0) :: st) (f_W xs I L) Q := Wp.getR (ci := 5) (k := 0) e84_36 rfl (by decide) (by decide) rfl ht
theorem e84_39 : decode (j_co 84) 39 = .ok (.iload_n 1, 1) := by decide +kernel
set_option maxRecDepth 20000 in
theorem w84_39 {d : Nat} {st : List Value} {Q : Option Value × jW → Prop} {w : jW} {a0 : Option Value} {x : Int32} : Wp d 84 39 [a0, some (.int x)] (st) w Q = Wp d 84 40 [a0, some (.int x)] (.int x :: st) w Q := Wp.loc e84_39 rfl rfl rfl
theorem e84_40 : decode (j_co 84) 40 = .ok (.aaload, 1) := by decide +kernel
set_option maxRecDepth 20000 in
theorem w84_40 {d : Nat} {st : List Value} {Q : Option Value × jW → Prop} {ls : jL} {xs : List Value} {I : fI} {L : fL} {o : Nat} {i : Int32} (ht : 103 ≤ f_tg o ∧ f_tg o ≤ 106) (hi : ¬ (i < 0 ∨ f_ln o ≤ i.toNatClampNeg)) : Wp d 84 40 ls (.int i :: .ref o :: st) (f_W xs I L) Q = Wp d 84 41 ls (.ref (f_rf o i.toNatClampNeg) :: st) (f_W xs I L) Q := Wp.aald e84_40 rfl ht hi
theorem e84_41 : decode (j_co 84) 41 = .ok (.getfield 31, 3) := by decide +kernel
set_option maxRecDepth 20000 in
theorem w84_41 {d : Nat} {st : List Value} {Q : Option Value × jW → Prop} {ls : jL} {xs : List Value} {I : fI} {L : fL} {o : Nat} (ht : f_tg o = 6) : Wp d 84 41 ls (.ref o :: st) (f_W xs I L) Q = Wp d 84 44 ls (.ref (f_rf o 2) :: st) (f_W xs I L) Q := Wp.getR (ci := 6) (k := 2) e84_41 rfl (by decide) (by decide) rfl ht
theorem e84_44 : decode (j_co 84) 44 = .ok (.invokevirtual 109, 3) := by decide +kernel
set_option maxRecDepth 20000 in
theorem w84_44 {d : Nat} {st : List Value} {Q : Option Value × jW → Prop} {ls : jL} {xs : List Value} {I : fI} {L : fL} {r : Nat} {x0 : Nat} (hs : j_sumc st ≤ 8) (ht : f_tg r = 0) : Wp (d + 1) 84 44 ls (.ref x0 :: .ref r :: st) (f_W xs I L) Q = Wp d 31 0 [some (.ref r), some (.ref x0), none] [] (f_W xs I L) (fun r1 => Wp (d + 1) 84 47 ls (r1.1.toList ++ st) r1.2 Q) := Wp.cv (y' := 31) (as := [.ref x0]) e84_44 rfl (by decide) rfl (show 2 ≤ 3 by decide) (by decide) hs ht
theorem e84_47 : decode (j_co 84) 47 = .ok (.aload_n 0, 1) := by decide +kernel
set_option maxRecDepth 20000 in
theorem w84_47 {d : Nat} {st : List Value} {Q : Option Value × jW → Prop} {w : jW} {a1 : Option Value} {x : Nat} : Wp d 84 47 [some (.ref x), a1] (st) w Q = Wp d 84 48 [some (.ref x), a1] (.ref x :: st) w Q := Wp.loc e84_47 rfl rfl rfl
theorem e84_48 : decode (j_co 84) 48 = .ok (.getfield 12, 3) := by decide +kernel
set_option maxRecDepth 20000 in
theorem w84_48 {d : Nat} {st : List Value} {Q : Option Value × jW → Prop} {ls : jL} {xs : List Value} {I : fI} {L : fL} {o : Nat} (ht : f_tg o = 1) : Wp d 84 48 ls (.ref o :: st) (f_W xs I L) Q = Wp d 84 51 ls (.ref (f_rf o 1) :: st) (f_W xs I L) Q := Wp.getR (ci := 1) (k := 1) e84_48 rfl (by decide) (by decide) rfl ht
theorem e84_51 : decode (j_co 84) 51 = .ok (.aload_n 0, 1) := by decide +kernel
set_option maxRecDepth 20000 in
theorem w84_51 {d : Nat} {st : List Value} {Q : Option Value × jW → Prop} {w : jW} {a1 : Option Value} {x : Nat} : Wp d 84 51 [some (.ref x), a1] (st) w Q = Wp d 84 52 [some (.ref x), a1] (.ref x :: st) w Q := Wp.loc e84_51 rfl rfl rfl
theorem e84_52 : decode (j_co 84) 52 = .ok (.getfield 21, 3) := by decide +kernel
set_option maxRecDepth 20000 in
theorem w84_52 {d : Nat} {st : List Value} {Q : Option Value × jW → Prop} {ls : jL} {xs : List Value} {I : fI} {L : fL} {o : Nat} (ht : f_tg o = 1) : Wp d 84 52 ls (.ref o :: st) (f_W xs I L) Q = Wp d 84 55 ls (.ref (f_rf o 0) :: st) (f_W xs I L) Q := Wp.getR (ci := 1) (k := 0) e84_52 rfl (by decide) (by decide) rfl ht
theorem e84_55 : decode (j_co 84) 55 = .ok (.getfield 48, 3) := by decide +kernel
set_option maxRecDepth 20000 in
theorem w84_55 {d : Nat} {st : List Value} {Q : Option Value × jW → Prop} {ls : jL} {xs : List Value} {I : fI} {L : fL} {o : Nat} (ht : f_tg o = 5) : Wp d 84 55 ls (.ref o :: st) (f_W xs I L) Q = Wp d 84 58 ls (.ref (f_rf o 0) :: st) (f_W xs I L) Q := Wp.getR (ci := 5) (k := 0) e84_55 rfl (by decide) (by decide) rfl ht
theorem e84_58 : decode (j_co 84) 58 = .ok (.iload_n 1, 1) := by decide +kernel
set_option maxRecDepth 20000 in
theorem w84_58 {d : Nat} {st : List Value} {Q : Option Value × jW → Prop} {w : jW} {a0 : Option Value} {x : Int32} : Wp d 84 58 [a0, some (.int x)] (st) w Q = Wp d 84 59 [a0, some (.int x)] (.int x :: st) w Q := Wp.loc e84_58 rfl rfl rfl
theorem e84_59 : decode (j_co 84) 59 = .ok (.aaload, 1) := by decide +kernel
set_option maxRecDepth 20000 in
theorem w84_59 {d : Nat} {st : List Value} {Q : Option Value × jW → Prop} {ls : jL} {xs : List Value} {I : fI} {L : fL} {o : Nat} {i : Int32} (ht : 103 ≤ f_tg o ∧ f_tg o ≤ 106) (hi : ¬ (i < 0 ∨ f_ln o ≤ i.toNatClampNeg)) : Wp d 84 59 ls (.int i :: .ref o :: st) (f_W xs I L) Q = Wp d 84 60 ls (.ref (f_rf o i.toNatClampNeg) :: st) (f_W xs I L) Q := Wp.aald e84_59 rfl ht hi
theorem e84_60 : decode (j_co 84) 60 = .ok (.getfield 113, 3) := by decide +kernel
set_option maxRecDepth 20000 in
theorem w84_60 {d : Nat} {st : List Value} {Q : Option Value × jW → Prop} {ls : jL} {xs : List Value} {I : fI} {L : fL} {o : Nat} (ht : f_tg o = 6) : Wp d 84 60 ls (.ref o :: st) (f_W xs I L) Q = Wp d 84 63 ls (.ref (f_rf o 0) :: st) (f_W xs I L) Q := Wp.getR (ci := 6) (k := 0) e84_60 rfl (by decide) (by decide) rfl ht
theorem e84_63 : decode (j_co 84) 63 = .ok (.invokevirtual 116, 3) := by decide +kernel
set_option maxRecDepth 20000 in
theorem w84_63 {d : Nat} {st : List Value} {Q : Option Value × jW → Prop} {ls : jL} {xs : List Value} {I : fI} {L : fL} {r : Nat} {x0 : Nat} (hs : j_sumc st ≤ 8) (ht : f_tg r = 0) : Wp (d + 1) 84 63 ls (.ref x0 :: .ref r :: st) (f_W xs I L) Q = Wp d 32 0 [some (.ref r), some (.ref x0), none] [] (f_W xs I L) (fun r1 => Wp (d + 1) 84 66 ls (r1.1.toList ++ st) r1.2 Q) := Wp.cv (y' := 32) (as := [.ref x0]) e84_63 rfl (by decide) rfl (show 2 ≤ 3 by decide) (by decide) hs ht
theorem e84_66 : decode (j_co 84) 66 = .ok (.aload_n 0, 1) := by decide +kernel
set_option maxRecDepth 20000 in
theorem w84_66 {d : Nat} {st : List Value} {Q : Option Value × jW → Prop} {w : jW} {a1 : Option Value} {x : Nat} : Wp d 84 66 [some (.ref x), a1] (st) w Q = Wp d 84 67 [some (.ref x), a1] (.ref x :: st) w Q := Wp.loc e84_66 rfl rfl rfl
theorem e84_67 : decode (j_co 84) 67 = .ok (.getfield 12, 3) := by decide +kernel
set_option maxRecDepth 20000 in
theorem w84_67 {d : Nat} {st : List Value} {Q : Option Value × jW → Prop} {ls : jL} {xs : List Value} {I : fI} {L : fL} {o : Nat} (ht : f_tg o = 1) : Wp d 84 67 ls (.ref o :: st) (f_W xs I L) Q = Wp d 84 70 ls (.ref (f_rf o 1) :: st) (f_W xs I L) Q := Wp.getR (ci := 1) (k := 1) e84_67 rfl (by decide) (by decide) rfl ht
theorem e84_70 : decode (j_co 84) 70 = .ok (.invokevirtual 119, 3) := by decide +kernel
set_option maxRecDepth 20000 in
theorem w84_70 {d : Nat} {st : List Value} {Q : Option Value × jW → Prop} {ls : jL} {xs : List Value} {I : fI} {L : fL} {r : Nat} (hs : j_sumc st ≤ 8) (ht : f_tg r = 0) : Wp (d + 1) 84 70 ls (.ref r :: st) (f_W xs I L) Q = Wp d 37 0 [some (.ref r), none] [] (f_W xs I L) (fun r1 => Wp (d + 1) 84 73 ls (r1.1.toList ++ st) r1.2 Q) := Wp.cv (y' := 37) (as := []) e84_70 rfl (by decide) rfl (show 1 ≤ 2 by decide) (by decide) hs ht
theorem e84_73 : decode (j_co 84) 73 = .ok (.ifCond .ne 7, 3) := by decide +kernel
set_option maxRecDepth 20000 in
theorem w84_73 {d : Nat} {st : List Value} {Q : Option Value × jW → Prop} {ls : jL} {w : jW} {a : Int32} : Wp d 84 73 ls (.int a :: st) w Q = ((a = nI 0 → Wp d 84 76 ls st w Q) ∧ (¬ a = nI 0 → Wp d 84 80 ls st w Q)) := Wp.if2n (c := a = nI 0) (off := 7) e84_73 rfl rfl rfl rfl rfl
theorem e84_76 : decode (j_co 84) 76 = .ok (.iconst 1, 1) := by decide +kernel
set_option maxRecDepth 20000 in
theorem w84_76 {d : Nat} {st : List Value} {Q : Option Value × jW → Prop} {ls : jL} {w : jW} : Wp d 84 76 ls (st) w Q = Wp d 84 77 ls (.int (nI 1) :: st) w Q := Wp.alu e84_76 rfl rfl
theorem e84_77 : decode (j_co 84) 77 = .ok (.goto 4, 3) := by decide +kernel
set_option maxRecDepth 20000 in
theorem w84_77 {d : Nat} {st : List Value} {Q : Option Value × jW → Prop} {ls : jL} {w : jW} : Wp d 84 77 ls (st) w Q = Wp d 84 81 ls (st) w Q := Wp.br e84_77 (Or.inl rfl) rfl rfl rfl rfl
theorem e84_80 : decode (j_co 84) 80 = .ok (.iconst 0, 1) := by decide +kernel
set_option maxRecDepth 20000 in
theorem w84_80 {d : Nat} {st : List Value} {Q : Option Value × jW → Prop} {ls : jL} {w : jW} : Wp d 84 80 ls (st) w Q = Wp d 84 81 ls (.int (nI 0) :: st) w Q := Wp.alu e84_80 rfl rfl
theorem e84_81 : decode (j_co 84) 81 = .ok (.ireturn, 1) := by decide +kernel
set_option maxRecDepth 20000 in
theorem w84_81 {d : Nat} {Q : Option Value × jW → Prop} {ls : jL} {w : jW} {x : Int32} (hx : x = 0 ∨ x = 1) : Wp d 84 81 ls [.int x] w Q = Q (some (.int x), w) := Wp.ret e84_81 (by rcases hx with rfl | rfl <;> rfl)
/-! Fences.firstJumpOut -/
theorem e85_0 : decode (j_co 85) 0 = .ok (.iconst 0, 1) := by decide +kernel
set_option maxRecDepth 20000 in
theorem w85_0 {d : Nat} {st : List Value} {Q : Option Value × jW → Prop} {ls : jL} {w : jW} : Wp d 85 0 ls (st) w Q = Wp d 85 1 ls (.int (nI 0) :: st) w Q := Wp.alu e85_0 rfl rfl
theorem e85_1 : decode (j_co 85) 1 = .ok (.istore_n 1, 1) := by decide +kernel
set_option maxRecDepth 20000 in
theorem w85_1 {d : Nat} {st : List Value} {Q : Option Value × jW → Prop} {w : jW} {a0 a1 a2 : Option Value} {x : Int32} (h : j_cp a0) : Wp d 85 1 [a0, a1, a2] (.int x :: st) w Q = Wp d 85 2 [a0, some (.int x), a2] (st) w Q := Wp.loc e85_1 rfl rfl (v_stI (ls := [a0, a1, a2]) (k := 1) (show 1 < 3 by decide) h)
theorem e85_2 : decode (j_co 85) 2 = .ok (.iload_n 1, 1) := by decide +kernel
set_option maxRecDepth 20000 in
theorem w85_2 {d : Nat} {st : List Value} {Q : Option Value × jW → Prop} {w : jW} {a0 a2 : Option Value} {x : Int32} : Wp d 85 2 [a0, some (.int x), a2] (st) w Q = Wp d 85 3 [a0, some (.int x), a2] (.int x :: st) w Q := Wp.loc e85_2 rfl rfl rfl
theorem e85_3 : decode (j_co 85) 3 = .ok (.aload_n 0, 1) := by decide +kernel
set_option maxRecDepth 20000 in
theorem w85_3 {d : Nat} {st : List Value} {Q : Option Value × jW → Prop} {w : jW} {a1 a2 : Option Value} {x : Nat} : Wp d 85 3 [some (.ref x), a1, a2] (st) w Q = Wp d 85 4 [some (.ref x), a1, a2] (.ref x :: st) w Q := Wp.loc e85_3 rfl rfl rfl
theorem e85_4 : decode (j_co 85) 4 = .ok (.getfield 21, 3) := by decide +kernel
set_option maxRecDepth 20000 in
theorem w85_4 {d : Nat} {st : List Value} {Q : Option Value × jW → Prop} {ls : jL} {xs : List Value} {I : fI} {L : fL} {o : Nat} (ht : f_tg o = 1) : Wp d 85 4 ls (.ref o :: st) (f_W xs I L) Q = Wp d 85 7 ls (.ref (f_rf o 0) :: st) (f_W xs I L) Q := Wp.getR (ci := 1) (k := 0) e85_4 rfl (by decide) (by decide) rfl ht
theorem e85_7 : decode (j_co 85) 7 = .ok (.getfield 84, 3) := by decide +kernel
set_option maxRecDepth 20000 in
theorem w85_7 {d : Nat} {st : List Value} {Q : Option Value × jW → Prop} {ls : jL} {xs : List Value} {I : fI} {L : fL} {o : Nat} (ht : f_tg o = 5) : Wp d 85 7 ls (.ref o :: st) (f_W xs I L) Q = Wp d 85 10 ls (.int (I o 5) :: st) (f_W xs I L) Q := Wp.getI (ci := 5) (k := 5) e85_7 rfl (by decide) (by decide) (by decide) ht
theorem e85_10 : decode (j_co 85) 10 = .ok (.if_icmp .ge 62, 3) := by decide +kernel
set_option maxRecDepth 20000 in
theorem w85_10 {d : Nat} {st : List Value} {Q : Option Value × jW → Prop} {ls : jL} {w : jW} {a b : Int32} : Wp d 85 10 ls (.int b :: .int a :: st) w Q = ((b ≤ a → Wp d 85 72 ls st w Q) ∧ (¬ b ≤ a → Wp d 85 13 ls st w Q)) := Wp.if2 (c := b ≤ a) (off := 62) e85_10 rfl rfl rfl rfl rfl
theorem e85_13 : decode (j_co 85) 13 = .ok (.aload_n 0, 1) := by decide +kernel
set_option maxRecDepth 20000 in
theorem w85_13 {d : Nat} {st : List Value} {Q : Option Value × jW → Prop} {w : jW} {a1 a2 : Option Value} {x : Nat} : Wp d 85 13 [some (.ref x), a1, a2] (st) w Q = Wp d 85 14 [some (.ref x), a1, a2] (.ref x :: st) w Q := Wp.loc e85_13 rfl rfl rfl
theorem e85_14 : decode (j_co 85) 14 = .ok (.getfield 21, 3) := by decide +kernel
set_option maxRecDepth 20000 in
theorem w85_14 {d : Nat} {st : List Value} {Q : Option Value × jW → Prop} {ls : jL} {xs : List Value} {I : fI} {L : fL} {o : Nat} (ht : f_tg o = 1) : Wp d 85 14 ls (.ref o :: st) (f_W xs I L) Q = Wp d 85 17 ls (.ref (f_rf o 0) :: st) (f_W xs I L) Q := Wp.getR (ci := 1) (k := 0) e85_14 rfl (by decide) (by decide) rfl ht
theorem e85_17 : decode (j_co 85) 17 = .ok (.getfield 87, 3) := by decide +kernel
set_option maxRecDepth 20000 in
theorem w85_17 {d : Nat} {st : List Value} {Q : Option Value × jW → Prop} {ls : jL} {xs : List Value} {I : fI} {L : fL} {o : Nat} (ht : f_tg o = 5) : Wp d 85 17 ls (.ref o :: st) (f_W xs I L) Q = Wp d 85 20 ls (.ref (f_rf o 1) :: st) (f_W xs I L) Q := Wp.getR (ci := 5) (k := 1) e85_17 rfl (by decide) (by decide) rfl ht
theorem e85_20 : decode (j_co 85) 20 = .ok (.iload_n 1, 1) := by decide +kernel
set_option maxRecDepth 20000 in
theorem w85_20 {d : Nat} {st : List Value} {Q : Option Value × jW → Prop} {w : jW} {a0 a2 : Option Value} {x : Int32} : Wp d 85 20 [a0, some (.int x), a2] (st) w Q = Wp d 85 21 [a0, some (.int x), a2] (.int x :: st) w Q := Wp.loc e85_20 rfl rfl rfl
theorem e85_21 : decode (j_co 85) 21 = .ok (.aaload, 1) := by decide +kernel
set_option maxRecDepth 20000 in
theorem w85_21 {d : Nat} {st : List Value} {Q : Option Value × jW → Prop} {ls : jL} {xs : List Value} {I : fI} {L : fL} {o : Nat} {i : Int32} (ht : 103 ≤ f_tg o ∧ f_tg o ≤ 106) (hi : ¬ (i < 0 ∨ f_ln o ≤ i.toNatClampNeg)) : Wp d 85 21 ls (.int i :: .ref o :: st) (f_W xs I L) Q = Wp d 85 22 ls (.ref (f_rf o i.toNatClampNeg) :: st) (f_W xs I L) Q := Wp.aald e85_21 rfl ht hi
theorem e85_22 : decode (j_co 85) 22 = .ok (.astore_n 2, 1) := by decide +kernel
set_option maxRecDepth 20000 in
theorem w85_22 {d : Nat} {st : List Value} {Q : Option Value × jW → Prop} {w : jW} {a0 a1 a2 : Option Value} {x : Nat} (h : j_cp a1) : Wp d 85 22 [a0, a1, a2] (.ref x :: st) w Q = Wp d 85 23 [a0, a1, some (.ref x)] (st) w Q := Wp.loc e85_22 rfl rfl (v_stA (ls := [a0, a1, a2]) (k := 2) (show 2 < 3 by decide) h)
theorem e85_23 : decode (j_co 85) 23 = .ok (.aload_n 0, 1) := by decide +kernel
set_option maxRecDepth 20000 in
theorem w85_23 {d : Nat} {st : List Value} {Q : Option Value × jW → Prop} {w : jW} {a1 a2 : Option Value} {x : Nat} : Wp d 85 23 [some (.ref x), a1, a2] (st) w Q = Wp d 85 24 [some (.ref x), a1, a2] (.ref x :: st) w Q := Wp.loc e85_23 rfl rfl rfl
theorem e85_24 : decode (j_co 85) 24 = .ok (.aload_n 2, 1) := by decide +kernel
set_option maxRecDepth 20000 in
theorem w85_24 {d : Nat} {st : List Value} {Q : Option Value × jW → Prop} {w : jW} {a0 a1 : Option Value} {x : Nat} : Wp d 85 24 [a0, a1, some (.ref x)] (st) w Q = Wp d 85 25 [a0, a1, some (.ref x)] (.ref x :: st) w Q := Wp.loc e85_24 rfl rfl rfl
theorem e85_25 : decode (j_co 85) 25 = .ok (.getfield 91, 3) := by decide +kernel
set_option maxRecDepth 20000 in
theorem w85_25 {d : Nat} {st : List Value} {Q : Option Value × jW → Prop} {ls : jL} {xs : List Value} {I : fI} {L : fL} {o : Nat} (ht : f_tg o = 4) : Wp d 85 25 ls (.ref o :: st) (f_W xs I L) Q = Wp d 85 28 ls (.int (I o 3) :: st) (f_W xs I L) Q := Wp.getI (ci := 4) (k := 3) e85_25 rfl (by decide) (by decide) (by decide) ht
theorem e85_28 : decode (j_co 85) 28 = .ok (.invokevirtual 73, 3) := by decide +kernel
set_option maxRecDepth 20000 in
theorem w85_28 {d : Nat} {st : List Value} {Q : Option Value × jW → Prop} {ls : jL} {xs : List Value} {I : fI} {L : fL} {r : Nat} {x0 : Int32} (hs : j_sumc st ≤ 8) (ht : f_tg r = 1) : Wp (d + 1) 85 28 ls (.int x0 :: .ref r :: st) (f_W xs I L) Q = Wp d 84 0 [some (.ref r), some (.int x0)] [] (f_W xs I L) (fun r1 => Wp (d + 1) 85 31 ls (r1.1.toList ++ st) r1.2 Q) := Wp.cv (y' := 84) (as := [.int x0]) e85_28 rfl (by decide) rfl (show 2 ≤ 2 by decide) (by decide) hs ht
theorem e85_31 : decode (j_co 85) 31 = .ok (.ifCond .eq 35, 3) := by decide +kernel
set_option maxRecDepth 20000 in
theorem w85_31 {d : Nat} {st : List Value} {Q : Option Value × jW → Prop} {ls : jL} {w : jW} {a : Int32} : Wp d 85 31 ls (.int a :: st) w Q = ((a = nI 0 → Wp d 85 66 ls st w Q) ∧ (¬ a = nI 0 → Wp d 85 34 ls st w Q)) := Wp.if2 (c := a = nI 0) (off := 35) e85_31 rfl rfl rfl rfl rfl
theorem e85_34 : decode (j_co 85) 34 = .ok (.aload_n 0, 1) := by decide +kernel
set_option maxRecDepth 20000 in
theorem w85_34 {d : Nat} {st : List Value} {Q : Option Value × jW → Prop} {w : jW} {a1 a2 : Option Value} {x : Nat} : Wp d 85 34 [some (.ref x), a1, a2] (st) w Q = Wp d 85 35 [some (.ref x), a1, a2] (.ref x :: st) w Q := Wp.loc e85_34 rfl rfl rfl
theorem e85_35 : decode (j_co 85) 35 = .ok (.getfield 21, 3) := by decide +kernel
set_option maxRecDepth 20000 in
theorem w85_35 {d : Nat} {st : List Value} {Q : Option Value × jW → Prop} {ls : jL} {xs : List Value} {I : fI} {L : fL} {o : Nat} (ht : f_tg o = 1) : Wp d 85 35 ls (.ref o :: st) (f_W xs I L) Q = Wp d 85 38 ls (.ref (f_rf o 0) :: st) (f_W xs I L) Q := Wp.getR (ci := 1) (k := 0) e85_35 rfl (by decide) (by decide) rfl ht
theorem e85_38 : decode (j_co 85) 38 = .ok (.aload_n 2, 1) := by decide +kernel
set_option maxRecDepth 20000 in
theorem w85_38 {d : Nat} {st : List Value} {Q : Option Value × jW → Prop} {w : jW} {a0 a1 : Option Value} {x : Nat} : Wp d 85 38 [a0, a1, some (.ref x)] (st) w Q = Wp d 85 39 [a0, a1, some (.ref x)] (.ref x :: st) w Q := Wp.loc e85_38 rfl rfl rfl
theorem e85_39 : decode (j_co 85) 39 = .ok (.aload_n 0, 1) := by decide +kernel
set_option maxRecDepth 20000 in
theorem w85_39 {d : Nat} {st : List Value} {Q : Option Value × jW → Prop} {w : jW} {a1 a2 : Option Value} {x : Nat} : Wp d 85 39 [some (.ref x), a1, a2] (st) w Q = Wp d 85 40 [some (.ref x), a1, a2] (.ref x :: st) w Q := Wp.loc e85_39 rfl rfl rfl
theorem e85_40 : decode (j_co 85) 40 = .ok (.getfield 12, 3) := by decide +kernel
set_option maxRecDepth 20000 in
theorem w85_40 {d : Nat} {st : List Value} {Q : Option Value × jW → Prop} {ls : jL} {xs : List Value} {I : fI} {L : fL} {o : Nat} (ht : f_tg o = 1) : Wp d 85 40 ls (.ref o :: st) (f_W xs I L) Q = Wp d 85 43 ls (.ref (f_rf o 1) :: st) (f_W xs I L) Q := Wp.getR (ci := 1) (k := 1) e85_40 rfl (by decide) (by decide) rfl ht
theorem e85_43 : decode (j_co 85) 43 = .ok (.aload_n 0, 1) := by decide +kernel
set_option maxRecDepth 20000 in
theorem w85_43 {d : Nat} {st : List Value} {Q : Option Value × jW → Prop} {w : jW} {a1 a2 : Option Value} {x : Nat} : Wp d 85 43 [some (.ref x), a1, a2] (st) w Q = Wp d 85 44 [some (.ref x), a1, a2] (.ref x :: st) w Q := Wp.loc e85_43 rfl rfl rfl
theorem e85_44 : decode (j_co 85) 44 = .ok (.getfield 18, 3) := by decide +kernel
set_option maxRecDepth 20000 in
theorem w85_44 {d : Nat} {st : List Value} {Q : Option Value × jW → Prop} {ls : jL} {xs : List Value} {I : fI} {L : fL} {o : Nat} (ht : f_tg o = 1) : Wp d 85 44 ls (.ref o :: st) (f_W xs I L) Q = Wp d 85 47 ls (.ref (f_rf o 2) :: st) (f_W xs I L) Q := Wp.getR (ci := 1) (k := 2) e85_44 rfl (by decide) (by decide) rfl ht
theorem e85_47 : decode (j_co 85) 47 = .ok (.invokevirtual 96, 3) := by decide +kernel
set_option maxRecDepth 20000 in
theorem w85_47 {d : Nat} {st : List Value} {Q : Option Value × jW → Prop} {ls : jL} {xs : List Value} {I : fI} {L : fL} {r : Nat} {x0 : Nat} {x1 : Nat} {x2 : Nat} (hs : j_sumc st ≤ 8) (ht : f_tg r = 5) : Wp (d + 1) 85 47 ls (.ref x2 :: .ref x1 :: .ref x0 :: .ref r :: st) (f_W xs I L) Q = Wp d 47 0 [some (.ref r), some (.ref x0), some (.ref x1), some (.ref x2), none] [] (f_W xs I L) (fun r1 => Wp (d + 1) 85 50 ls (r1.1.toList ++ st) r1.2 Q) := Wp.cv (y' := 47) (as := [.ref x0, .ref x1, .ref x2]) e85_47 rfl (by decide) rfl (show 4 ≤ 5 by decide) (by decide) hs ht
theorem e85_50 : decode (j_co 85) 50 = .ok (.ifCond .eq 16, 3) := by decide +kernel
set_option maxRecDepth 20000 in
theorem w85_50 {d : Nat} {st : List Value} {Q : Option Value × jW → Prop} {ls : jL} {w : jW} {a : Int32} : Wp d 85 50 ls (.int a :: st) w Q = ((a = nI 0 → Wp d 85 66 ls st w Q) ∧ (¬ a = nI 0 → Wp d 85 53 ls st w Q)) := Wp.if2 (c := a = nI 0) (off := 16) e85_50 rfl rfl rfl rfl rfl
theorem e85_53 : decode (j_co 85) 53 = .ok (.aload_n 0, 1) := by decide +kernel
set_option maxRecDepth 20000 in
theorem w85_53 {d : Nat} {st : List Value} {Q : Option Value × jW → Prop} {w : jW} {a1 a2 : Option Value} {x : Nat} : Wp d 85 53 [some (.ref x), a1, a2] (st) w Q = Wp d 85 54 [some (.ref x), a1, a2] (.ref x :: st) w Q := Wp.loc e85_53 rfl rfl rfl
theorem e85_54 : decode (j_co 85) 54 = .ok (.aload_n 2, 1) := by decide +kernel
set_option maxRecDepth 20000 in
theorem w85_54 {d : Nat} {st : List Value} {Q : Option Value × jW → Prop} {w : jW} {a0 a1 : Option Value} {x : Nat} : Wp d 85 54 [a0, a1, some (.ref x)] (st) w Q = Wp d 85 55 [a0, a1, some (.ref x)] (.ref x :: st) w Q := Wp.loc e85_54 rfl rfl rfl
theorem e85_55 : decode (j_co 85) 55 = .ok (.getfield 100, 3) := by decide +kernel
set_option maxRecDepth 20000 in
theorem w85_55 {d : Nat} {st : List Value} {Q : Option Value × jW → Prop} {ls : jL} {xs : List Value} {I : fI} {L : fL} {o : Nat} (ht : f_tg o = 4) : Wp d 85 55 ls (.ref o :: st) (f_W xs I L) Q = Wp d 85 58 ls (.int (I o 4) :: st) (f_W xs I L) Q := Wp.getI (ci := 4) (k := 4) e85_55 rfl (by decide) (by decide) (by decide) ht
theorem e85_58 : decode (j_co 85) 58 = .ok (.invokevirtual 59, 3) := by decide +kernel
set_option maxRecDepth 20000 in
theorem w85_58 {d : Nat} {st : List Value} {Q : Option Value × jW → Prop} {ls : jL} {xs : List Value} {I : fI} {L : fL} {r : Nat} {x0 : Int32} (hs : j_sumc st ≤ 8) (ht : f_tg r = 1) : Wp (d + 1) 85 58 ls (.int x0 :: .ref r :: st) (f_W xs I L) Q = Wp d 82 0 [some (.ref r), some (.int x0)] [] (f_W xs I L) (fun r1 => Wp (d + 1) 85 61 ls (r1.1.toList ++ st) r1.2 Q) := Wp.cv (y' := 82) (as := [.int x0]) e85_58 rfl (by decide) rfl (show 2 ≤ 2 by decide) (by decide) hs ht
theorem e85_61 : decode (j_co 85) 61 = .ok (.ifCond .ne 5, 3) := by decide +kernel
set_option maxRecDepth 20000 in
theorem w85_61 {d : Nat} {st : List Value} {Q : Option Value × jW → Prop} {ls : jL} {w : jW} {a : Int32} : Wp d 85 61 ls (.int a :: st) w Q = ((a = nI 0 → Wp d 85 64 ls st w Q) ∧ (¬ a = nI 0 → Wp d 85 66 ls st w Q)) := Wp.if2n (c := a = nI 0) (off := 5) e85_61 rfl rfl rfl rfl rfl
theorem e85_64 : decode (j_co 85) 64 = .ok (.iload_n 1, 1) := by decide +kernel
set_option maxRecDepth 20000 in
theorem w85_64 {d : Nat} {st : List Value} {Q : Option Value × jW → Prop} {w : jW} {a0 a2 : Option Value} {x : Int32} : Wp d 85 64 [a0, some (.int x), a2] (st) w Q = Wp d 85 65 [a0, some (.int x), a2] (.int x :: st) w Q := Wp.loc e85_64 rfl rfl rfl
theorem e85_65 : decode (j_co 85) 65 = .ok (.ireturn, 1) := by decide +kernel
set_option maxRecDepth 20000 in
theorem w85_65 {d : Nat} {Q : Option Value × jW → Prop} {ls : jL} {w : jW} {x : Int32} : Wp d 85 65 ls [.int x] w Q = Q (some (.int x), w) := Wp.ret e85_65 rfl
theorem e85_66 : decode (j_co 85) 66 = .ok (.iinc 1 1, 3) := by decide +kernel
set_option maxRecDepth 20000 in
theorem w85_66 {d : Nat} {st : List Value} {Q : Option Value × jW → Prop} {w : jW} {a0 a2 : Option Value} {x : Int32} (h : j_cp a0) : Wp d 85 66 [a0, some (.int x), a2] (st) w Q = Wp d 85 69 [a0, some (.int (x + nI 1)), a2] (st) w Q := Wp.loc e85_66 rfl rfl (v_inc (ls := [a0, some (.int x), a2]) (k := 1) (n := 1) rfl (show 1 < 3 by decide) h)
theorem e85_69 : decode (j_co 85) 69 = .ok (.goto (-67), 3) := by decide +kernel
set_option maxRecDepth 20000 in
theorem w85_69 {d : Nat} {st : List Value} {Q : Option Value × jW → Prop} {ls : jL} {w : jW} : Wp d 85 69 ls (st) w Q = Wp d 85 2 ls (st) w Q := Wp.br e85_69 (Or.inl rfl) rfl rfl rfl rfl
theorem e85_72 : decode (j_co 85) 72 = .ok (.bipush (-4), 2) := by decide +kernel
set_option maxRecDepth 20000 in
theorem w85_72 {d : Nat} {st : List Value} {Q : Option Value × jW → Prop} {ls : jL} {w : jW} : Wp d 85 72 ls (st) w Q = Wp d 85 74 ls (.int (-4) :: st) w Q := Wp.alu e85_72 rfl rfl
theorem e85_74 : decode (j_co 85) 74 = .ok (.ireturn, 1) := by decide +kernel
set_option maxRecDepth 20000 in
theorem w85_74 {d : Nat} {Q : Option Value × jW → Prop} {ls : jL} {w : jW} {x : Int32} : Wp d 85 74 ls [.int x] w Q = Q (some (.int x), w) := Wp.ret e85_74 rfl
/-! Hand.begin -/
theorem e87_0 : decode (j_co 87) 0 = .ok (.aload_n 0, 1) := by decide +kernel
set_option maxRecDepth 20000 in
theorem w87_0 {d : Nat} {st : List Value} {Q : Option Value × jW → Prop} {w : jW} {a1 a2 a3 : Option Value} {x : Nat} : Wp d 87 0 [some (.ref x), a1, a2, a3] (st) w Q = Wp d 87 1 [some (.ref x), a1, a2, a3] (.ref x :: st) w Q := Wp.loc e87_0 rfl rfl rfl
theorem e87_1 : decode (j_co 87) 1 = .ok (.getfield 21, 3) := by decide +kernel
set_option maxRecDepth 20000 in
theorem w87_1 {d : Nat} {st : List Value} {Q : Option Value × jW → Prop} {ls : jL} {xs : List Value} {I : fI} {L : fL} {o : Nat} (ht : f_tg o = 2) : Wp d 87 1 ls (.ref o :: st) (f_W xs I L) Q = Wp d 87 4 ls (.ref (f_rf o 0) :: st) (f_W xs I L) Q := Wp.getR (ci := 2) (k := 0) e87_1 rfl (by decide) (by decide) rfl ht
theorem e87_4 : decode (j_co 87) 4 = .ok (.aload_n 0, 1) := by decide +kernel
set_option maxRecDepth 20000 in
theorem w87_4 {d : Nat} {st : List Value} {Q : Option Value × jW → Prop} {w : jW} {a1 a2 a3 : Option Value} {x : Nat} : Wp d 87 4 [some (.ref x), a1, a2, a3] (st) w Q = Wp d 87 5 [some (.ref x), a1, a2, a3] (.ref x :: st) w Q := Wp.loc e87_4 rfl rfl rfl
theorem e87_5 : decode (j_co 87) 5 = .ok (.getfield 18, 3) := by decide +kernel
set_option maxRecDepth 20000 in
theorem w87_5 {d : Nat} {st : List Value} {Q : Option Value × jW → Prop} {ls : jL} {xs : List Value} {I : fI} {L : fL} {o : Nat} (ht : f_tg o = 2) : Wp d 87 5 ls (.ref o :: st) (f_W xs I L) Q = Wp d 87 8 ls (.ref (f_rf o 2) :: st) (f_W xs I L) Q := Wp.getR (ci := 2) (k := 2) e87_5 rfl (by decide) (by decide) rfl ht
theorem e87_8 : decode (j_co 87) 8 = .ok (.invokevirtual 25, 3) := by decide +kernel
set_option maxRecDepth 20000 in
theorem w87_8 {d : Nat} {st : List Value} {Q : Option Value × jW → Prop} {ls : jL} {xs : List Value} {I : fI} {L : fL} {r : Nat} {x0 : Nat} (hs : j_sumc st ≤ 8) (ht : f_tg r = 5) : Wp (d + 1) 87 8 ls (.ref x0 :: .ref r :: st) (f_W xs I L) Q = Wp d 30 0 [some (.ref r), some (.ref x0)] [] (f_W xs I L) (fun r1 => Wp (d + 1) 87 11 ls (r1.1.toList ++ st) r1.2 Q) := Wp.cv (y' := 30) (as := [.ref x0]) e87_8 rfl (by decide) rfl (show 2 ≤ 2 by decide) (by decide) hs ht
theorem e87_11 : decode (j_co 87) 11 = .ok (.ifCond .eq 16, 3) := by decide +kernel
set_option maxRecDepth 20000 in
theorem w87_11 {d : Nat} {st : List Value} {Q : Option Value × jW → Prop} {ls : jL} {w : jW} {a : Int32} : Wp d 87 11 ls (.int a :: st) w Q = ((a = nI 0 → Wp d 87 27 ls st w Q) ∧ (¬ a = nI 0 → Wp d 87 14 ls st w Q)) := Wp.if2 (c := a = nI 0) (off := 16) e87_11 rfl rfl rfl rfl rfl
theorem e87_14 : decode (j_co 87) 14 = .ok (.aload_n 0, 1) := by decide +kernel
set_option maxRecDepth 20000 in
theorem w87_14 {d : Nat} {st : List Value} {Q : Option Value × jW → Prop} {w : jW} {a1 a2 a3 : Option Value} {x : Nat} : Wp d 87 14 [some (.ref x), a1, a2, a3] (st) w Q = Wp d 87 15 [some (.ref x), a1, a2, a3] (.ref x :: st) w Q := Wp.loc e87_14 rfl rfl rfl
theorem e87_15 : decode (j_co 87) 15 = .ok (.getfield 18, 3) := by decide +kernel
set_option maxRecDepth 20000 in
theorem w87_15 {d : Nat} {st : List Value} {Q : Option Value × jW → Prop} {ls : jL} {xs : List Value} {I : fI} {L : fL} {o : Nat} (ht : f_tg o = 2) : Wp d 87 15 ls (.ref o :: st) (f_W xs I L) Q = Wp d 87 18 ls (.ref (f_rf o 2) :: st) (f_W xs I L) Q := Wp.getR (ci := 2) (k := 2) e87_15 rfl (by decide) (by decide) rfl ht
theorem e87_18 : decode (j_co 87) 18 = .ok (.iload_n 1, 1) := by decide +kernel
set_option maxRecDepth 20000 in
theorem w87_18 {d : Nat} {st : List Value} {Q : Option Value × jW → Prop} {w : jW} {a0 a2 a3 : Option Value} {x : Int32} : Wp d 87 18 [a0, some (.int x), a2, a3] (st) w Q = Wp d 87 19 [a0, some (.int x), a2, a3] (.int x :: st) w Q := Wp.loc e87_18 rfl rfl rfl
theorem e87_19 : decode (j_co 87) 19 = .ok (.iload_n 2, 1) := by decide +kernel
set_option maxRecDepth 20000 in
theorem w87_19 {d : Nat} {st : List Value} {Q : Option Value × jW → Prop} {w : jW} {a0 a1 a3 : Option Value} {x : Int32} : Wp d 87 19 [a0, a1, some (.int x), a3] (st) w Q = Wp d 87 20 [a0, a1, some (.int x), a3] (.int x :: st) w Q := Wp.loc e87_19 rfl rfl rfl
theorem e87_20 : decode (j_co 87) 20 = .ok (.iload_n 3, 1) := by decide +kernel
set_option maxRecDepth 20000 in
theorem w87_20 {d : Nat} {st : List Value} {Q : Option Value × jW → Prop} {w : jW} {a0 a1 a2 : Option Value} {x : Int32} : Wp d 87 20 [a0, a1, a2, some (.int x)] (st) w Q = Wp d 87 21 [a0, a1, a2, some (.int x)] (.int x :: st) w Q := Wp.loc e87_20 rfl rfl rfl
theorem e87_21 : decode (j_co 87) 21 = .ok (.invokevirtual 31, 3) := by decide +kernel
set_option maxRecDepth 20000 in
theorem w87_21 {d : Nat} {st : List Value} {Q : Option Value × jW → Prop} {ls : jL} {xs : List Value} {I : fI} {L : fL} {r : Nat} {x0 : Int32} {x1 : Int32} {x2 : Int32} (hs : j_sumc st ≤ 8) (ht : f_tg r = 0) : Wp (d + 1) 87 21 ls (.int x2 :: .int x1 :: .int x0 :: .ref r :: st) (f_W xs I L) Q = Wp d 61 0 [some (.ref r), some (.int x0), some (.int x1), some (.int x2)] [] (f_W xs I L) (fun r1 => Wp (d + 1) 87 24 ls (r1.1.toList ++ st) r1.2 Q) := Wp.cv (y' := 61) (as := [.int x0, .int x1, .int x2]) e87_21 rfl (by decide) rfl (show 4 ≤ 4 by decide) (by decide) hs ht
theorem e87_24 : decode (j_co 87) 24 = .ok (.ifCond .ne 5, 3) := by decide +kernel
set_option maxRecDepth 20000 in
theorem w87_24 {d : Nat} {st : List Value} {Q : Option Value × jW → Prop} {ls : jL} {w : jW} {a : Int32} : Wp d 87 24 ls (.int a :: st) w Q = ((a = nI 0 → Wp d 87 27 ls st w Q) ∧ (¬ a = nI 0 → Wp d 87 29 ls st w Q)) := Wp.if2n (c := a = nI 0) (off := 5) e87_24 rfl rfl rfl rfl rfl
theorem e87_27 : decode (j_co 87) 27 = .ok (.iconst 0, 1) := by decide +kernel
set_option maxRecDepth 20000 in
theorem w87_27 {d : Nat} {st : List Value} {Q : Option Value × jW → Prop} {ls : jL} {w : jW} : Wp d 87 27 ls (st) w Q = Wp d 87 28 ls (.int (nI 0) :: st) w Q := Wp.alu e87_27 rfl rfl
theorem e87_28 : decode (j_co 87) 28 = .ok (.ireturn, 1) := by decide +kernel
set_option maxRecDepth 20000 in
theorem w87_28 {d : Nat} {Q : Option Value × jW → Prop} {ls : jL} {w : jW} {x : Int32} (hx : x = 0 ∨ x = 1) : Wp d 87 28 ls [.int x] w Q = Q (some (.int x), w) := Wp.ret e87_28 (by rcases hx with rfl | rfl <;> rfl)
theorem e87_29 : decode (j_co 87) 29 = .ok (.aload_n 0, 1) := by decide +kernel
set_option maxRecDepth 20000 in
theorem w87_29 {d : Nat} {st : List Value} {Q : Option Value × jW → Prop} {w : jW} {a1 a2 a3 : Option Value} {x : Nat} : Wp d 87 29 [some (.ref x), a1, a2, a3] (st) w Q = Wp d 87 30 [some (.ref x), a1, a2, a3] (.ref x :: st) w Q := Wp.loc e87_29 rfl rfl rfl
theorem e87_30 : decode (j_co 87) 30 = .ok (.aload_n 0, 1) := by decide +kernel
set_option maxRecDepth 20000 in
theorem w87_30 {d : Nat} {st : List Value} {Q : Option Value × jW → Prop} {w : jW} {a1 a2 a3 : Option Value} {x : Nat} : Wp d 87 30 [some (.ref x), a1, a2, a3] (st) w Q = Wp d 87 31 [some (.ref x), a1, a2, a3] (.ref x :: st) w Q := Wp.loc e87_30 rfl rfl rfl
theorem e87_31 : decode (j_co 87) 31 = .ok (.getfield 21, 3) := by decide +kernel
set_option maxRecDepth 20000 in
theorem w87_31 {d : Nat} {st : List Value} {Q : Option Value × jW → Prop} {ls : jL} {xs : List Value} {I : fI} {L : fL} {o : Nat} (ht : f_tg o = 2) : Wp d 87 31 ls (.ref o :: st) (f_W xs I L) Q = Wp d 87 34 ls (.ref (f_rf o 0) :: st) (f_W xs I L) Q := Wp.getR (ci := 2) (k := 0) e87_31 rfl (by decide) (by decide) rfl ht
theorem e87_34 : decode (j_co 87) 34 = .ok (.getfield 35, 3) := by decide +kernel
set_option maxRecDepth 20000 in
theorem w87_34 {d : Nat} {st : List Value} {Q : Option Value × jW → Prop} {ls : jL} {xs : List Value} {I : fI} {L : fL} {o : Nat} (ht : f_tg o = 5) : Wp d 87 34 ls (.ref o :: st) (f_W xs I L) Q = Wp d 87 37 ls (.int (I o 6) :: st) (f_W xs I L) Q := Wp.getI (ci := 5) (k := 6) e87_34 rfl (by decide) (by decide) (by decide) ht
theorem e87_37 : decode (j_co 87) 37 = .ok (.putfield 39, 3) := by decide +kernel
set_option maxRecDepth 20000 in
theorem w87_37 {d : Nat} {st : List Value} {Q : Option Value × jW → Prop} {ls : jL} {xs : List Value} {I : fI} {L : fL} {o : Nat} {x : Int32} (ht : f_tg o = 2) : Wp d 87 37 ls (.int x :: .ref o :: st) (f_W xs I L) Q = Wp d 87 40 ls (st) (f_W xs (f_up I o 3 x) L) Q := Wp.putI (ci := 2) (k := 3) e87_37 rfl (by decide) (by decide) rfl (by decide) ht
theorem e87_40 : decode (j_co 87) 40 = .ok (.aload_n 0, 1) := by decide +kernel
set_option maxRecDepth 20000 in
theorem w87_40 {d : Nat} {st : List Value} {Q : Option Value × jW → Prop} {w : jW} {a1 a2 a3 : Option Value} {x : Nat} : Wp d 87 40 [some (.ref x), a1, a2, a3] (st) w Q = Wp d 87 41 [some (.ref x), a1, a2, a3] (.ref x :: st) w Q := Wp.loc e87_40 rfl rfl rfl
theorem e87_41 : decode (j_co 87) 41 = .ok (.getfield 12, 3) := by decide +kernel
set_option maxRecDepth 20000 in
theorem w87_41 {d : Nat} {st : List Value} {Q : Option Value × jW → Prop} {ls : jL} {xs : List Value} {I : fI} {L : fL} {o : Nat} (ht : f_tg o = 2) : Wp d 87 41 ls (.ref o :: st) (f_W xs I L) Q = Wp d 87 44 ls (.ref (f_rf o 1) :: st) (f_W xs I L) Q := Wp.getR (ci := 2) (k := 1) e87_41 rfl (by decide) (by decide) rfl ht
theorem e87_44 : decode (j_co 87) 44 = .ok (.iload_n 1, 1) := by decide +kernel
set_option maxRecDepth 20000 in
theorem w87_44 {d : Nat} {st : List Value} {Q : Option Value × jW → Prop} {w : jW} {a0 a2 a3 : Option Value} {x : Int32} : Wp d 87 44 [a0, some (.int x), a2, a3] (st) w Q = Wp d 87 45 [a0, some (.int x), a2, a3] (.int x :: st) w Q := Wp.loc e87_44 rfl rfl rfl
theorem e87_45 : decode (j_co 87) 45 = .ok (.iload_n 2, 1) := by decide +kernel
set_option maxRecDepth 20000 in
theorem w87_45 {d : Nat} {st : List Value} {Q : Option Value × jW → Prop} {w : jW} {a0 a1 a3 : Option Value} {x : Int32} : Wp d 87 45 [a0, a1, some (.int x), a3] (st) w Q = Wp d 87 46 [a0, a1, some (.int x), a3] (.int x :: st) w Q := Wp.loc e87_45 rfl rfl rfl
theorem e87_46 : decode (j_co 87) 46 = .ok (.iload_n 3, 1) := by decide +kernel
set_option maxRecDepth 20000 in
theorem w87_46 {d : Nat} {st : List Value} {Q : Option Value × jW → Prop} {w : jW} {a0 a1 a2 : Option Value} {x : Int32} : Wp d 87 46 [a0, a1, a2, some (.int x)] (st) w Q = Wp d 87 47 [a0, a1, a2, some (.int x)] (.int x :: st) w Q := Wp.loc e87_46 rfl rfl rfl
theorem e87_47 : decode (j_co 87) 47 = .ok (.invokevirtual 42, 3) := by decide +kernel
set_option maxRecDepth 20000 in
theorem w87_47 {d : Nat} {st : List Value} {Q : Option Value × jW → Prop} {ls : jL} {xs : List Value} {I : fI} {L : fL} {r : Nat} {x0 : Int32} {x1 : Int32} {x2 : Int32} (hs : j_sumc st ≤ 8) (ht : f_tg r = 0) : Wp (d + 1) 87 47 ls (.int x2 :: .int x1 :: .int x0 :: .ref r :: st) (f_W xs I L) Q = Wp d 88 0 [some (.ref r), some (.int x0), some (.int x1), some (.int x2)] [] (f_W xs I L) (fun r1 => Wp (d + 1) 87 50 ls (r1.1.toList ++ st) r1.2 Q) := Wp.cv (y' := 88) (as := [.int x0, .int x1, .int x2]) e87_47 rfl (by decide) rfl (show 4 ≤ 4 by decide) (by decide) hs ht
theorem e87_50 : decode (j_co 87) 50 = .ok (.aload_n 0, 1) := by decide +kernel
set_option maxRecDepth 20000 in
theorem w87_50 {d : Nat} {st : List Value} {Q : Option Value × jW → Prop} {w : jW} {a1 a2 a3 : Option Value} {x : Nat} : Wp d 87 50 [some (.ref x), a1, a2, a3] (st) w Q = Wp d 87 51 [some (.ref x), a1, a2, a3] (.ref x :: st) w Q := Wp.loc e87_50 rfl rfl rfl
theorem e87_51 : decode (j_co 87) 51 = .ok (.iconst 0, 1) := by decide +kernel
set_option maxRecDepth 20000 in
theorem w87_51 {d : Nat} {st : List Value} {Q : Option Value × jW → Prop} {ls : jL} {w : jW} : Wp d 87 51 ls (st) w Q = Wp d 87 52 ls (.int (nI 0) :: st) w Q := Wp.alu e87_51 rfl rfl
theorem e87_52 : decode (j_co 87) 52 = .ok (.putfield 46, 3) := by decide +kernel
set_option maxRecDepth 20000 in
theorem w87_52 {d : Nat} {st : List Value} {Q : Option Value × jW → Prop} {ls : jL} {xs : List Value} {I : fI} {L : fL} {o : Nat} {x : Int32} (ht : f_tg o = 2) : Wp d 87 52 ls (.int x :: .ref o :: st) (f_W xs I L) Q = Wp d 87 55 ls (st) (f_W xs (f_up I o 4 x) L) Q := Wp.putI (ci := 2) (k := 4) e87_52 rfl (by decide) (by decide) rfl (by decide) ht
theorem e87_55 : decode (j_co 87) 55 = .ok (.aload_n 0, 1) := by decide +kernel
set_option maxRecDepth 20000 in
theorem w87_55 {d : Nat} {st : List Value} {Q : Option Value × jW → Prop} {w : jW} {a1 a2 a3 : Option Value} {x : Nat} : Wp d 87 55 [some (.ref x), a1, a2, a3] (st) w Q = Wp d 87 56 [some (.ref x), a1, a2, a3] (.ref x :: st) w Q := Wp.loc e87_55 rfl rfl rfl
theorem e87_56 : decode (j_co 87) 56 = .ok (.iconst 1, 1) := by decide +kernel
set_option maxRecDepth 20000 in
theorem w87_56 {d : Nat} {st : List Value} {Q : Option Value × jW → Prop} {ls : jL} {w : jW} : Wp d 87 56 ls (st) w Q = Wp d 87 57 ls (.int (nI 1) :: st) w Q := Wp.alu e87_56 rfl rfl
theorem e87_57 : decode (j_co 87) 57 = .ok (.putfield 49, 3) := by decide +kernel
set_option maxRecDepth 20000 in
theorem w87_57 {d : Nat} {st : List Value} {Q : Option Value × jW → Prop} {ls : jL} {xs : List Value} {I : fI} {L : fL} {o : Nat} {x : Int32} (ht : f_tg o = 2) (hx : x = 0 ∨ x = 1) : Wp d 87 57 ls (.int x :: .ref o :: st) (f_W xs I L) Q = Wp d 87 60 ls (st) (f_W xs (f_up I o 5 x) L) Q := Wp.putI (ci := 2) (k := 5) e87_57 rfl (by decide) (by decide) (by rcases hx with rfl | rfl <;> rfl) (by decide) ht
theorem e87_60 : decode (j_co 87) 60 = .ok (.iconst 1, 1) := by decide +kernel
set_option maxRecDepth 20000 in
theorem w87_60 {d : Nat} {st : List Value} {Q : Option Value × jW → Prop} {ls : jL} {w : jW} : Wp d 87 60 ls (st) w Q = Wp d 87 61 ls (.int (nI 1) :: st) w Q := Wp.alu e87_60 rfl rfl
theorem e87_61 : decode (j_co 87) 61 = .ok (.ireturn, 1) := by decide +kernel
set_option maxRecDepth 20000 in
theorem w87_61 {d : Nat} {Q : Option Value × jW → Prop} {ls : jL} {w : jW} {x : Int32} (hx : x = 0 ∨ x = 1) : Wp d 87 61 ls [.int x] w Q = Q (some (.int x), w) := Wp.ret e87_61 (by rcases hx with rfl | rfl <;> rfl)
/-! Hand.flowBy -/
theorem e90_0 : decode (j_co 90) 0 = .ok (.aload_n 0, 1) := by decide +kernel
set_option maxRecDepth 20000 in
theorem w90_0 {d : Nat} {st : List Value} {Q : Option Value × jW → Prop} {w : jW} {a1 a2 a3 : Option Value} {x : Nat} : Wp d 90 0 [some (.ref x), a1, a2, a3] (st) w Q = Wp d 90 1 [some (.ref x), a1, a2, a3] (.ref x :: st) w Q := Wp.loc e90_0 rfl rfl rfl
theorem e90_1 : decode (j_co 90) 1 = .ok (.getfield 49, 3) := by decide +kernel
set_option maxRecDepth 20000 in
theorem w90_1 {d : Nat} {st : List Value} {Q : Option Value × jW → Prop} {ls : jL} {xs : List Value} {I : fI} {L : fL} {o : Nat} (ht : f_tg o = 2) : Wp d 90 1 ls (.ref o :: st) (f_W xs I L) Q = Wp d 90 4 ls (.int (I o 5) :: st) (f_W xs I L) Q := Wp.getI (ci := 2) (k := 5) e90_1 rfl (by decide) (by decide) (by decide) ht
theorem e90_4 : decode (j_co 90) 4 = .ok (.ifCond .eq 26, 3) := by decide +kernel
set_option maxRecDepth 20000 in
theorem w90_4 {d : Nat} {st : List Value} {Q : Option Value × jW → Prop} {ls : jL} {w : jW} {a : Int32} : Wp d 90 4 ls (.int a :: st) w Q = ((a = nI 0 → Wp d 90 30 ls st w Q) ∧ (¬ a = nI 0 → Wp d 90 7 ls st w Q)) := Wp.if2 (c := a = nI 0) (off := 26) e90_4 rfl rfl rfl rfl rfl
theorem e90_7 : decode (j_co 90) 7 = .ok (.aload_n 0, 1) := by decide +kernel
set_option maxRecDepth 20000 in
theorem w90_7 {d : Nat} {st : List Value} {Q : Option Value × jW → Prop} {w : jW} {a1 a2 a3 : Option Value} {x : Nat} : Wp d 90 7 [some (.ref x), a1, a2, a3] (st) w Q = Wp d 90 8 [some (.ref x), a1, a2, a3] (.ref x :: st) w Q := Wp.loc e90_7 rfl rfl rfl
theorem e90_8 : decode (j_co 90) 8 = .ok (.getfield 21, 3) := by decide +kernel
set_option maxRecDepth 20000 in
theorem w90_8 {d : Nat} {st : List Value} {Q : Option Value × jW → Prop} {ls : jL} {xs : List Value} {I : fI} {L : fL} {o : Nat} (ht : f_tg o = 2) : Wp d 90 8 ls (.ref o :: st) (f_W xs I L) Q = Wp d 90 11 ls (.ref (f_rf o 0) :: st) (f_W xs I L) Q := Wp.getR (ci := 2) (k := 0) e90_8 rfl (by decide) (by decide) rfl ht
theorem e90_11 : decode (j_co 90) 11 = .ok (.aload_n 0, 1) := by decide +kernel
set_option maxRecDepth 20000 in
theorem w90_11 {d : Nat} {st : List Value} {Q : Option Value × jW → Prop} {w : jW} {a1 a2 a3 : Option Value} {x : Nat} : Wp d 90 11 [some (.ref x), a1, a2, a3] (st) w Q = Wp d 90 12 [some (.ref x), a1, a2, a3] (.ref x :: st) w Q := Wp.loc e90_11 rfl rfl rfl
theorem e90_12 : decode (j_co 90) 12 = .ok (.getfield 39, 3) := by decide +kernel
set_option maxRecDepth 20000 in
theorem w90_12 {d : Nat} {st : List Value} {Q : Option Value × jW → Prop} {ls : jL} {xs : List Value} {I : fI} {L : fL} {o : Nat} (ht : f_tg o = 2) : Wp d 90 12 ls (.ref o :: st) (f_W xs I L) Q = Wp d 90 15 ls (.int (I o 3) :: st) (f_W xs I L) Q := Wp.getI (ci := 2) (k := 3) e90_12 rfl (by decide) (by decide) (by decide) ht
theorem e90_15 : decode (j_co 90) 15 = .ok (.invokevirtual 53, 3) := by decide +kernel
set_option maxRecDepth 20000 in
theorem w90_15 {d : Nat} {st : List Value} {Q : Option Value × jW → Prop} {ls : jL} {xs : List Value} {I : fI} {L : fL} {r : Nat} {x0 : Int32} (hs : j_sumc st ≤ 8) (ht : f_tg r = 5) : Wp (d + 1) 90 15 ls (.int x0 :: .ref r :: st) (f_W xs I L) Q = Wp d 171 0 [some (.ref r), some (.int x0)] [] (f_W xs I L) (fun r1 => Wp (d + 1) 90 18 ls (r1.1.toList ++ st) r1.2 Q) := Wp.cv (y' := 171) (as := [.int x0]) e90_15 rfl (by decide) rfl (show 2 ≤ 2 by decide) (by decide) hs ht
theorem e90_18 : decode (j_co 90) 18 = .ok (.getfield 57, 3) := by decide +kernel
set_option maxRecDepth 20000 in
theorem w90_18 {d : Nat} {st : List Value} {Q : Option Value × jW → Prop} {ls : jL} {xs : List Value} {I : fI} {L : fL} {o : Nat} (ht : f_tg o = 6) : Wp d 90 18 ls (.ref o :: st) (f_W xs I L) Q = Wp d 90 21 ls (.ref (f_rf o 1) :: st) (f_W xs I L) Q := Wp.getR (ci := 6) (k := 1) e90_18 rfl (by decide) (by decide) rfl ht
theorem e90_21 : decode (j_co 90) 21 = .ok (.iload_n 1, 1) := by decide +kernel
set_option maxRecDepth 20000 in
theorem w90_21 {d : Nat} {st : List Value} {Q : Option Value × jW → Prop} {w : jW} {a0 a2 a3 : Option Value} {x : Int32} : Wp d 90 21 [a0, some (.int x), a2, a3] (st) w Q = Wp d 90 22 [a0, some (.int x), a2, a3] (.int x :: st) w Q := Wp.loc e90_21 rfl rfl rfl
theorem e90_22 : decode (j_co 90) 22 = .ok (.iload_n 2, 1) := by decide +kernel
set_option maxRecDepth 20000 in
theorem w90_22 {d : Nat} {st : List Value} {Q : Option Value × jW → Prop} {w : jW} {a0 a1 a3 : Option Value} {x : Int32} : Wp d 90 22 [a0, a1, some (.int x), a3] (st) w Q = Wp d 90 23 [a0, a1, some (.int x), a3] (.int x :: st) w Q := Wp.loc e90_22 rfl rfl rfl
theorem e90_23 : decode (j_co 90) 23 = .ok (.iload_n 3, 1) := by decide +kernel
set_option maxRecDepth 20000 in
theorem w90_23 {d : Nat} {st : List Value} {Q : Option Value × jW → Prop} {w : jW} {a0 a1 a2 : Option Value} {x : Int32} : Wp d 90 23 [a0, a1, a2, some (.int x)] (st) w Q = Wp d 90 24 [a0, a1, a2, some (.int x)] (.int x :: st) w Q := Wp.loc e90_23 rfl rfl rfl
theorem e90_24 : decode (j_co 90) 24 = .ok (.invokevirtual 31, 3) := by decide +kernel
set_option maxRecDepth 20000 in
theorem w90_24 {d : Nat} {st : List Value} {Q : Option Value × jW → Prop} {ls : jL} {xs : List Value} {I : fI} {L : fL} {r : Nat} {x0 : Int32} {x1 : Int32} {x2 : Int32} (hs : j_sumc st ≤ 8) (ht : f_tg r = 0) : Wp (d + 1) 90 24 ls (.int x2 :: .int x1 :: .int x0 :: .ref r :: st) (f_W xs I L) Q = Wp d 61 0 [some (.ref r), some (.int x0), some (.int x1), some (.int x2)] [] (f_W xs I L) (fun r1 => Wp (d + 1) 90 27 ls (r1.1.toList ++ st) r1.2 Q) := Wp.cv (y' := 61) (as := [.int x0, .int x1, .int x2]) e90_24 rfl (by decide) rfl (show 4 ≤ 4 by decide) (by decide) hs ht
theorem e90_27 : decode (j_co 90) 27 = .ok (.ifCond .ne 5, 3) := by decide +kernel
set_option maxRecDepth 20000 in
theorem w90_27 {d : Nat} {st : List Value} {Q : Option Value × jW → Prop} {ls : jL} {w : jW} {a : Int32} : Wp d 90 27 ls (.int a :: st) w Q = ((a = nI 0 → Wp d 90 30 ls st w Q) ∧ (¬ a = nI 0 → Wp d 90 32 ls st w Q)) := Wp.if2n (c := a = nI 0) (off := 5) e90_27 rfl rfl rfl rfl rfl
theorem e90_30 : decode (j_co 90) 30 = .ok (.iconst 0, 1) := by decide +kernel
set_option maxRecDepth 20000 in
theorem w90_30 {d : Nat} {st : List Value} {Q : Option Value × jW → Prop} {ls : jL} {w : jW} : Wp d 90 30 ls (st) w Q = Wp d 90 31 ls (.int (nI 0) :: st) w Q := Wp.alu e90_30 rfl rfl
theorem e90_31 : decode (j_co 90) 31 = .ok (.ireturn, 1) := by decide +kernel
set_option maxRecDepth 20000 in
theorem w90_31 {d : Nat} {Q : Option Value × jW → Prop} {ls : jL} {w : jW} {x : Int32} (hx : x = 0 ∨ x = 1) : Wp d 90 31 ls [.int x] w Q = Q (some (.int x), w) := Wp.ret e90_31 (by rcases hx with rfl | rfl <;> rfl)
theorem e90_32 : decode (j_co 90) 32 = .ok (.aload_n 0, 1) := by decide +kernel
set_option maxRecDepth 20000 in
theorem w90_32 {d : Nat} {st : List Value} {Q : Option Value × jW → Prop} {w : jW} {a1 a2 a3 : Option Value} {x : Nat} : Wp d 90 32 [some (.ref x), a1, a2, a3] (st) w Q = Wp d 90 33 [some (.ref x), a1, a2, a3] (.ref x :: st) w Q := Wp.loc e90_32 rfl rfl rfl
theorem e90_33 : decode (j_co 90) 33 = .ok (.getfield 18, 3) := by decide +kernel
set_option maxRecDepth 20000 in
theorem w90_33 {d : Nat} {st : List Value} {Q : Option Value × jW → Prop} {ls : jL} {xs : List Value} {I : fI} {L : fL} {o : Nat} (ht : f_tg o = 2) : Wp d 90 33 ls (.ref o :: st) (f_W xs I L) Q = Wp d 90 36 ls (.ref (f_rf o 2) :: st) (f_W xs I L) Q := Wp.getR (ci := 2) (k := 2) e90_33 rfl (by decide) (by decide) rfl ht
theorem e90_36 : decode (j_co 90) 36 = .ok (.aload_n 0, 1) := by decide +kernel
set_option maxRecDepth 20000 in
theorem w90_36 {d : Nat} {st : List Value} {Q : Option Value × jW → Prop} {w : jW} {a1 a2 a3 : Option Value} {x : Nat} : Wp d 90 36 [some (.ref x), a1, a2, a3] (st) w Q = Wp d 90 37 [some (.ref x), a1, a2, a3] (.ref x :: st) w Q := Wp.loc e90_36 rfl rfl rfl
theorem e90_37 : decode (j_co 90) 37 = .ok (.getfield 12, 3) := by decide +kernel
set_option maxRecDepth 20000 in
theorem w90_37 {d : Nat} {st : List Value} {Q : Option Value × jW → Prop} {ls : jL} {xs : List Value} {I : fI} {L : fL} {o : Nat} (ht : f_tg o = 2) : Wp d 90 37 ls (.ref o :: st) (f_W xs I L) Q = Wp d 90 40 ls (.ref (f_rf o 1) :: st) (f_W xs I L) Q := Wp.getR (ci := 2) (k := 1) e90_37 rfl (by decide) (by decide) rfl ht
theorem e90_40 : decode (j_co 90) 40 = .ok (.iconst 0, 1) := by decide +kernel
set_option maxRecDepth 20000 in
theorem w90_40 {d : Nat} {st : List Value} {Q : Option Value × jW → Prop} {ls : jL} {w : jW} : Wp d 90 40 ls (st) w Q = Wp d 90 41 ls (.int (nI 0) :: st) w Q := Wp.alu e90_40 rfl rfl
theorem e90_41 : decode (j_co 90) 41 = .ok (.invokevirtual 62, 3) := by decide +kernel
set_option maxRecDepth 20000 in
theorem w90_41 {d : Nat} {st : List Value} {Q : Option Value × jW → Prop} {ls : jL} {xs : List Value} {I : fI} {L : fL} {r : Nat} {x0 : Int32} (hs : j_sumc st ≤ 8) (ht : f_tg r = 0) : Wp (d + 1) 90 41 ls (.int x0 :: .ref r :: st) (f_W xs I L) Q = Wp d 33 0 [some (.ref r), some (.int x0)] [] (f_W xs I L) (fun r1 => Wp (d + 1) 90 44 ls (r1.1.toList ++ st) r1.2 Q) := Wp.cv (y' := 33) (as := [.int x0]) e90_41 rfl (by decide) rfl (show 2 ≤ 2 by decide) (by decide) hs ht
theorem e90_44 : decode (j_co 90) 44 = .ok (.iload_n 1, 1) := by decide +kernel
set_option maxRecDepth 20000 in
theorem w90_44 {d : Nat} {st : List Value} {Q : Option Value × jW → Prop} {w : jW} {a0 a2 a3 : Option Value} {x : Int32} : Wp d 90 44 [a0, some (.int x), a2, a3] (st) w Q = Wp d 90 45 [a0, some (.int x), a2, a3] (.int x :: st) w Q := Wp.loc e90_44 rfl rfl rfl
theorem e90_45 : decode (j_co 90) 45 = .ok (.iadd, 1) := by decide +kernel
set_option maxRecDepth 20000 in
theorem w90_45 {d : Nat} {st : List Value} {Q : Option Value × jW → Prop} {ls : jL} {w : jW} {a b : Int32} : Wp d 90 45 ls (.int b :: .int a :: st) w Q = Wp d 90 46 ls (.int (a + b) :: st) w Q := Wp.alu e90_45 rfl rfl
theorem e90_46 : decode (j_co 90) 46 = .ok (.aload_n 0, 1) := by decide +kernel
set_option maxRecDepth 20000 in
theorem w90_46 {d : Nat} {st : List Value} {Q : Option Value × jW → Prop} {w : jW} {a1 a2 a3 : Option Value} {x : Nat} : Wp d 90 46 [some (.ref x), a1, a2, a3] (st) w Q = Wp d 90 47 [some (.ref x), a1, a2, a3] (.ref x :: st) w Q := Wp.loc e90_46 rfl rfl rfl
theorem e90_47 : decode (j_co 90) 47 = .ok (.getfield 12, 3) := by decide +kernel
set_option maxRecDepth 20000 in
theorem w90_47 {d : Nat} {st : List Value} {Q : Option Value × jW → Prop} {ls : jL} {xs : List Value} {I : fI} {L : fL} {o : Nat} (ht : f_tg o = 2) : Wp d 90 47 ls (.ref o :: st) (f_W xs I L) Q = Wp d 90 50 ls (.ref (f_rf o 1) :: st) (f_W xs I L) Q := Wp.getR (ci := 2) (k := 1) e90_47 rfl (by decide) (by decide) rfl ht
theorem e90_50 : decode (j_co 90) 50 = .ok (.iconst 1, 1) := by decide +kernel
set_option maxRecDepth 20000 in
theorem w90_50 {d : Nat} {st : List Value} {Q : Option Value × jW → Prop} {ls : jL} {w : jW} : Wp d 90 50 ls (st) w Q = Wp d 90 51 ls (.int (nI 1) :: st) w Q := Wp.alu e90_50 rfl rfl
theorem e90_51 : decode (j_co 90) 51 = .ok (.invokevirtual 62, 3) := by decide +kernel
set_option maxRecDepth 20000 in
theorem w90_51 {d : Nat} {st : List Value} {Q : Option Value × jW → Prop} {ls : jL} {xs : List Value} {I : fI} {L : fL} {r : Nat} {x0 : Int32} (hs : j_sumc st ≤ 8) (ht : f_tg r = 0) : Wp (d + 1) 90 51 ls (.int x0 :: .ref r :: st) (f_W xs I L) Q = Wp d 33 0 [some (.ref r), some (.int x0)] [] (f_W xs I L) (fun r1 => Wp (d + 1) 90 54 ls (r1.1.toList ++ st) r1.2 Q) := Wp.cv (y' := 33) (as := [.int x0]) e90_51 rfl (by decide) rfl (show 2 ≤ 2 by decide) (by decide) hs ht
theorem e90_54 : decode (j_co 90) 54 = .ok (.iload_n 2, 1) := by decide +kernel
set_option maxRecDepth 20000 in
theorem w90_54 {d : Nat} {st : List Value} {Q : Option Value × jW → Prop} {w : jW} {a0 a1 a3 : Option Value} {x : Int32} : Wp d 90 54 [a0, a1, some (.int x), a3] (st) w Q = Wp d 90 55 [a0, a1, some (.int x), a3] (.int x :: st) w Q := Wp.loc e90_54 rfl rfl rfl
theorem e90_55 : decode (j_co 90) 55 = .ok (.iadd, 1) := by decide +kernel
set_option maxRecDepth 20000 in
theorem w90_55 {d : Nat} {st : List Value} {Q : Option Value × jW → Prop} {ls : jL} {w : jW} {a b : Int32} : Wp d 90 55 ls (.int b :: .int a :: st) w Q = Wp d 90 56 ls (.int (a + b) :: st) w Q := Wp.alu e90_55 rfl rfl
theorem e90_56 : decode (j_co 90) 56 = .ok (.aload_n 0, 1) := by decide +kernel
set_option maxRecDepth 20000 in
theorem w90_56 {d : Nat} {st : List Value} {Q : Option Value × jW → Prop} {w : jW} {a1 a2 a3 : Option Value} {x : Nat} : Wp d 90 56 [some (.ref x), a1, a2, a3] (st) w Q = Wp d 90 57 [some (.ref x), a1, a2, a3] (.ref x :: st) w Q := Wp.loc e90_56 rfl rfl rfl
theorem e90_57 : decode (j_co 90) 57 = .ok (.getfield 12, 3) := by decide +kernel
set_option maxRecDepth 20000 in
theorem w90_57 {d : Nat} {st : List Value} {Q : Option Value × jW → Prop} {ls : jL} {xs : List Value} {I : fI} {L : fL} {o : Nat} (ht : f_tg o = 2) : Wp d 90 57 ls (.ref o :: st) (f_W xs I L) Q = Wp d 90 60 ls (.ref (f_rf o 1) :: st) (f_W xs I L) Q := Wp.getR (ci := 2) (k := 1) e90_57 rfl (by decide) (by decide) rfl ht
theorem e90_60 : decode (j_co 90) 60 = .ok (.iconst 2, 1) := by decide +kernel
set_option maxRecDepth 20000 in
theorem w90_60 {d : Nat} {st : List Value} {Q : Option Value × jW → Prop} {ls : jL} {w : jW} : Wp d 90 60 ls (st) w Q = Wp d 90 61 ls (.int (nI 2) :: st) w Q := Wp.alu e90_60 rfl rfl
theorem e90_61 : decode (j_co 90) 61 = .ok (.invokevirtual 62, 3) := by decide +kernel
set_option maxRecDepth 20000 in
theorem w90_61 {d : Nat} {st : List Value} {Q : Option Value × jW → Prop} {ls : jL} {xs : List Value} {I : fI} {L : fL} {r : Nat} {x0 : Int32} (hs : j_sumc st ≤ 8) (ht : f_tg r = 0) : Wp (d + 1) 90 61 ls (.int x0 :: .ref r :: st) (f_W xs I L) Q = Wp d 33 0 [some (.ref r), some (.int x0)] [] (f_W xs I L) (fun r1 => Wp (d + 1) 90 64 ls (r1.1.toList ++ st) r1.2 Q) := Wp.cv (y' := 33) (as := [.int x0]) e90_61 rfl (by decide) rfl (show 2 ≤ 2 by decide) (by decide) hs ht
theorem e90_64 : decode (j_co 90) 64 = .ok (.iload_n 3, 1) := by decide +kernel
set_option maxRecDepth 20000 in
theorem w90_64 {d : Nat} {st : List Value} {Q : Option Value × jW → Prop} {w : jW} {a0 a1 a2 : Option Value} {x : Int32} : Wp d 90 64 [a0, a1, a2, some (.int x)] (st) w Q = Wp d 90 65 [a0, a1, a2, some (.int x)] (.int x :: st) w Q := Wp.loc e90_64 rfl rfl rfl
theorem e90_65 : decode (j_co 90) 65 = .ok (.iadd, 1) := by decide +kernel
set_option maxRecDepth 20000 in
theorem w90_65 {d : Nat} {st : List Value} {Q : Option Value × jW → Prop} {ls : jL} {w : jW} {a b : Int32} : Wp d 90 65 ls (.int b :: .int a :: st) w Q = Wp d 90 66 ls (.int (a + b) :: st) w Q := Wp.alu e90_65 rfl rfl
theorem e90_66 : decode (j_co 90) 66 = .ok (.invokevirtual 42, 3) := by decide +kernel
set_option maxRecDepth 20000 in
theorem w90_66 {d : Nat} {st : List Value} {Q : Option Value × jW → Prop} {ls : jL} {xs : List Value} {I : fI} {L : fL} {r : Nat} {x0 : Int32} {x1 : Int32} {x2 : Int32} (hs : j_sumc st ≤ 8) (ht : f_tg r = 0) : Wp (d + 1) 90 66 ls (.int x2 :: .int x1 :: .int x0 :: .ref r :: st) (f_W xs I L) Q = Wp d 88 0 [some (.ref r), some (.int x0), some (.int x1), some (.int x2)] [] (f_W xs I L) (fun r1 => Wp (d + 1) 90 69 ls (r1.1.toList ++ st) r1.2 Q) := Wp.cv (y' := 88) (as := [.int x0, .int x1, .int x2]) e90_66 rfl (by decide) rfl (show 4 ≤ 4 by decide) (by decide) hs ht
theorem e90_69 : decode (j_co 90) 69 = .ok (.aload_n 0, 1) := by decide +kernel
set_option maxRecDepth 20000 in
theorem w90_69 {d : Nat} {st : List Value} {Q : Option Value × jW → Prop} {w : jW} {a1 a2 a3 : Option Value} {x : Nat} : Wp d 90 69 [some (.ref x), a1, a2, a3] (st) w Q = Wp d 90 70 [some (.ref x), a1, a2, a3] (.ref x :: st) w Q := Wp.loc e90_69 rfl rfl rfl
theorem e90_70 : decode (j_co 90) 70 = .ok (.aload_n 0, 1) := by decide +kernel
set_option maxRecDepth 20000 in
theorem w90_70 {d : Nat} {st : List Value} {Q : Option Value × jW → Prop} {w : jW} {a1 a2 a3 : Option Value} {x : Nat} : Wp d 90 70 [some (.ref x), a1, a2, a3] (st) w Q = Wp d 90 71 [some (.ref x), a1, a2, a3] (.ref x :: st) w Q := Wp.loc e90_70 rfl rfl rfl
theorem e90_71 : decode (j_co 90) 71 = .ok (.getfield 39, 3) := by decide +kernel
set_option maxRecDepth 20000 in
theorem w90_71 {d : Nat} {st : List Value} {Q : Option Value × jW → Prop} {ls : jL} {xs : List Value} {I : fI} {L : fL} {o : Nat} (ht : f_tg o = 2) : Wp d 90 71 ls (.ref o :: st) (f_W xs I L) Q = Wp d 90 74 ls (.int (I o 3) :: st) (f_W xs I L) Q := Wp.getI (ci := 2) (k := 3) e90_71 rfl (by decide) (by decide) (by decide) ht
theorem e90_74 : decode (j_co 90) 74 = .ok (.invokevirtual 66, 3) := by decide +kernel
set_option maxRecDepth 20000 in
theorem w90_74 {d : Nat} {st : List Value} {Q : Option Value × jW → Prop} {ls : jL} {xs : List Value} {I : fI} {L : fL} {r : Nat} {x0 : Int32} (hs : j_sumc st ≤ 8) (ht : f_tg r = 2) : Wp (d + 1) 90 74 ls (.int x0 :: .ref r :: st) (f_W xs I L) Q = Wp d 91 0 [some (.ref r), some (.int x0)] [] (f_W xs I L) (fun r1 => Wp (d + 1) 90 77 ls (r1.1.toList ++ st) r1.2 Q) := Wp.cv (y' := 91) (as := [.int x0]) e90_74 rfl (by decide) rfl (show 2 ≤ 2 by decide) (by decide) hs ht
theorem e90_77 : decode (j_co 90) 77 = .ok (.ireturn, 1) := by decide +kernel
set_option maxRecDepth 20000 in
theorem w90_77 {d : Nat} {Q : Option Value × jW → Prop} {ls : jL} {w : jW} {x : Int32} (hx : x = 0 ∨ x = 1) : Wp d 90 77 ls [.int x] w Q = Q (some (.int x), w) := Wp.ret e90_77 (by rcases hx with rfl | rfl <;> rfl)
/-! Hand.stepInto -/
theorem e91_0 : decode (j_co 91) 0 = .ok (.aload_n 0, 1) := by decide +kernel
set_option maxRecDepth 20000 in
theorem w91_0 {d : Nat} {st : List Value} {Q : Option Value × jW → Prop} {w : jW} {a1 : Option Value} {x : Nat} : Wp d 91 0 [some (.ref x), a1] (st) w Q = Wp d 91 1 [some (.ref x), a1] (.ref x :: st) w Q := Wp.loc e91_0 rfl rfl rfl
theorem e91_1 : decode (j_co 91) 1 = .ok (.getfield 21, 3) := by decide +kernel
set_option maxRecDepth 20000 in
theorem w91_1 {d : Nat} {st : List Value} {Q : Option Value × jW → Prop} {ls : jL} {xs : List Value} {I : fI} {L : fL} {o : Nat} (ht : f_tg o = 2) : Wp d 91 1 ls (.ref o :: st) (f_W xs I L) Q = Wp d 91 4 ls (.ref (f_rf o 0) :: st) (f_W xs I L) Q := Wp.getR (ci := 2) (k := 0) e91_1 rfl (by decide) (by decide) rfl ht
theorem e91_4 : decode (j_co 91) 4 = .ok (.iload_n 1, 1) := by decide +kernel
set_option maxRecDepth 20000 in
theorem w91_4 {d : Nat} {st : List Value} {Q : Option Value × jW → Prop} {w : jW} {a0 : Option Value} {x : Int32} : Wp d 91 4 [a0, some (.int x)] (st) w Q = Wp d 91 5 [a0, some (.int x)] (.int x :: st) w Q := Wp.loc e91_4 rfl rfl rfl
theorem e91_5 : decode (j_co 91) 5 = .ok (.invokevirtual 53, 3) := by decide +kernel
set_option maxRecDepth 20000 in
theorem w91_5 {d : Nat} {st : List Value} {Q : Option Value × jW → Prop} {ls : jL} {xs : List Value} {I : fI} {L : fL} {r : Nat} {x0 : Int32} (hs : j_sumc st ≤ 8) (ht : f_tg r = 5) : Wp (d + 1) 91 5 ls (.int x0 :: .ref r :: st) (f_W xs I L) Q = Wp d 171 0 [some (.ref r), some (.int x0)] [] (f_W xs I L) (fun r1 => Wp (d + 1) 91 8 ls (r1.1.toList ++ st) r1.2 Q) := Wp.cv (y' := 171) (as := [.int x0]) e91_5 rfl (by decide) rfl (show 2 ≤ 2 by decide) (by decide) hs ht
theorem e91_8 : decode (j_co 91) 8 = .ok (.getfield 113, 3) := by decide +kernel
set_option maxRecDepth 20000 in
theorem w91_8 {d : Nat} {st : List Value} {Q : Option Value × jW → Prop} {ls : jL} {xs : List Value} {I : fI} {L : fL} {o : Nat} (ht : f_tg o = 6) : Wp d 91 8 ls (.ref o :: st) (f_W xs I L) Q = Wp d 91 11 ls (.ref (f_rf o 0) :: st) (f_W xs I L) Q := Wp.getR (ci := 6) (k := 0) e91_8 rfl (by decide) (by decide) rfl ht
theorem e91_11 : decode (j_co 91) 11 = .ok (.aload_n 0, 1) := by decide +kernel
set_option maxRecDepth 20000 in
theorem w91_11 {d : Nat} {st : List Value} {Q : Option Value × jW → Prop} {w : jW} {a1 : Option Value} {x : Nat} : Wp d 91 11 [some (.ref x), a1] (st) w Q = Wp d 91 12 [some (.ref x), a1] (.ref x :: st) w Q := Wp.loc e91_11 rfl rfl rfl
theorem e91_12 : decode (j_co 91) 12 = .ok (.getfield 18, 3) := by decide +kernel
set_option maxRecDepth 20000 in
theorem w91_12 {d : Nat} {st : List Value} {Q : Option Value × jW → Prop} {ls : jL} {xs : List Value} {I : fI} {L : fL} {o : Nat} (ht : f_tg o = 2) : Wp d 91 12 ls (.ref o :: st) (f_W xs I L) Q = Wp d 91 15 ls (.ref (f_rf o 2) :: st) (f_W xs I L) Q := Wp.getR (ci := 2) (k := 2) e91_12 rfl (by decide) (by decide) rfl ht
theorem e91_15 : decode (j_co 91) 15 = .ok (.invokevirtual 78, 3) := by decide +kernel
set_option maxRecDepth 20000 in
theorem w91_15 {d : Nat} {st : List Value} {Q : Option Value × jW → Prop} {ls : jL} {xs : List Value} {I : fI} {L : fL} {r : Nat} {x0 : Nat} (hs : j_sumc st ≤ 8) (ht : f_tg r = 0) : Wp (d + 1) 91 15 ls (.ref x0 :: .ref r :: st) (f_W xs I L) Q = Wp d 45 0 [some (.ref r), some (.ref x0), none] [] (f_W xs I L) (fun r1 => Wp (d + 1) 91 18 ls (r1.1.toList ++ st) r1.2 Q) := Wp.cv (y' := 45) (as := [.ref x0]) e91_15 rfl (by decide) rfl (show 2 ≤ 3 by decide) (by decide) hs ht
theorem e91_18 : decode (j_co 91) 18 = .ok (.ifCond .ne 5, 3) := by decide +kernel
set_option maxRecDepth 20000 in
theorem w91_18 {d : Nat} {st : List Value} {Q : Option Value × jW → Prop} {ls : jL} {w : jW} {a : Int32} : Wp d 91 18 ls (.int a :: st) w Q = ((a = nI 0 → Wp d 91 21 ls st w Q) ∧ (¬ a = nI 0 → Wp d 91 23 ls st w Q)) := Wp.if2n (c := a = nI 0) (off := 5) e91_18 rfl rfl rfl rfl rfl
theorem e91_21 : decode (j_co 91) 21 = .ok (.iconst 0, 1) := by decide +kernel
set_option maxRecDepth 20000 in
theorem w91_21 {d : Nat} {st : List Value} {Q : Option Value × jW → Prop} {ls : jL} {w : jW} : Wp d 91 21 ls (st) w Q = Wp d 91 22 ls (.int (nI 0) :: st) w Q := Wp.alu e91_21 rfl rfl
theorem e91_22 : decode (j_co 91) 22 = .ok (.ireturn, 1) := by decide +kernel
set_option maxRecDepth 20000 in
theorem w91_22 {d : Nat} {Q : Option Value × jW → Prop} {ls : jL} {w : jW} {x : Int32} (hx : x = 0 ∨ x = 1) : Wp d 91 22 ls [.int x] w Q = Q (some (.int x), w) := Wp.ret e91_22 (by rcases hx with rfl | rfl <;> rfl)
theorem e91_23 : decode (j_co 91) 23 = .ok (.aload_n 0, 1) := by decide +kernel
set_option maxRecDepth 20000 in
theorem w91_23 {d : Nat} {st : List Value} {Q : Option Value × jW → Prop} {w : jW} {a1 : Option Value} {x : Nat} : Wp d 91 23 [some (.ref x), a1] (st) w Q = Wp d 91 24 [some (.ref x), a1] (.ref x :: st) w Q := Wp.loc e91_23 rfl rfl rfl
theorem e91_24 : decode (j_co 91) 24 = .ok (.iload_n 1, 1) := by decide +kernel
set_option maxRecDepth 20000 in
theorem w91_24 {d : Nat} {st : List Value} {Q : Option Value × jW → Prop} {w : jW} {a0 : Option Value} {x : Int32} : Wp d 91 24 [a0, some (.int x)] (st) w Q = Wp d 91 25 [a0, some (.int x)] (.int x :: st) w Q := Wp.loc e91_24 rfl rfl rfl
theorem e91_25 : decode (j_co 91) 25 = .ok (.putfield 39, 3) := by decide +kernel
set_option maxRecDepth 20000 in
theorem w91_25 {d : Nat} {st : List Value} {Q : Option Value × jW → Prop} {ls : jL} {xs : List Value} {I : fI} {L : fL} {o : Nat} {x : Int32} (ht : f_tg o = 2) : Wp d 91 25 ls (.int x :: .ref o :: st) (f_W xs I L) Q = Wp d 91 28 ls (st) (f_W xs (f_up I o 3 x) L) Q := Wp.putI (ci := 2) (k := 3) e91_25 rfl (by decide) (by decide) rfl (by decide) ht
theorem e91_28 : decode (j_co 91) 28 = .ok (.aload_n 0, 1) := by decide +kernel
set_option maxRecDepth 20000 in
theorem w91_28 {d : Nat} {st : List Value} {Q : Option Value × jW → Prop} {w : jW} {a1 : Option Value} {x : Nat} : Wp d 91 28 [some (.ref x), a1] (st) w Q = Wp d 91 29 [some (.ref x), a1] (.ref x :: st) w Q := Wp.loc e91_28 rfl rfl rfl
theorem e91_29 : decode (j_co 91) 29 = .ok (.getfield 12, 3) := by decide +kernel
set_option maxRecDepth 20000 in
theorem w91_29 {d : Nat} {st : List Value} {Q : Option Value × jW → Prop} {ls : jL} {xs : List Value} {I : fI} {L : fL} {o : Nat} (ht : f_tg o = 2) : Wp d 91 29 ls (.ref o :: st) (f_W xs I L) Q = Wp d 91 32 ls (.ref (f_rf o 1) :: st) (f_W xs I L) Q := Wp.getR (ci := 2) (k := 1) e91_29 rfl (by decide) (by decide) rfl ht
theorem e91_32 : decode (j_co 91) 32 = .ok (.aload_n 0, 1) := by decide +kernel
set_option maxRecDepth 20000 in
theorem w91_32 {d : Nat} {st : List Value} {Q : Option Value × jW → Prop} {w : jW} {a1 : Option Value} {x : Nat} : Wp d 91 32 [some (.ref x), a1] (st) w Q = Wp d 91 33 [some (.ref x), a1] (.ref x :: st) w Q := Wp.loc e91_32 rfl rfl rfl
theorem e91_33 : decode (j_co 91) 33 = .ok (.getfield 18, 3) := by decide +kernel
set_option maxRecDepth 20000 in
theorem w91_33 {d : Nat} {st : List Value} {Q : Option Value × jW → Prop} {ls : jL} {xs : List Value} {I : fI} {L : fL} {o : Nat} (ht : f_tg o = 2) : Wp d 91 33 ls (.ref o :: st) (f_W xs I L) Q = Wp d 91 36 ls (.ref (f_rf o 2) :: st) (f_W xs I L) Q := Wp.getR (ci := 2) (k := 2) e91_33 rfl (by decide) (by decide) rfl ht
theorem e91_36 : decode (j_co 91) 36 = .ok (.invokevirtual 116, 3) := by decide +kernel
set_option maxRecDepth 20000 in
theorem w91_36 {d : Nat} {st : List Value} {Q : Option Value × jW → Prop} {ls : jL} {xs : List Value} {I : fI} {L : fL} {r : Nat} {x0 : Nat} (hs : j_sumc st ≤ 8) (ht : f_tg r = 0) : Wp (d + 1) 91 36 ls (.ref x0 :: .ref r :: st) (f_W xs I L) Q = Wp d 31 0 [some (.ref r), some (.ref x0), none] [] (f_W xs I L) (fun r1 => Wp (d + 1) 91 39 ls (r1.1.toList ++ st) r1.2 Q) := Wp.cv (y' := 31) (as := [.ref x0]) e91_36 rfl (by decide) rfl (show 2 ≤ 3 by decide) (by decide) hs ht
theorem e91_39 : decode (j_co 91) 39 = .ok (.aload_n 0, 1) := by decide +kernel
set_option maxRecDepth 20000 in
theorem w91_39 {d : Nat} {st : List Value} {Q : Option Value × jW → Prop} {w : jW} {a1 : Option Value} {x : Nat} : Wp d 91 39 [some (.ref x), a1] (st) w Q = Wp d 91 40 [some (.ref x), a1] (.ref x :: st) w Q := Wp.loc e91_39 rfl rfl rfl
theorem e91_40 : decode (j_co 91) 40 = .ok (.dup, 1) := by decide +kernel
set_option maxRecDepth 20000 in
theorem w91_40 {d : Nat} {st : List Value} {Q : Option Value × jW → Prop} {ls : jL} {w : jW} {a : Int32} : Wp d 91 40 ls (.int a :: st) w Q = Wp d 91 41 ls (.int a :: .int a :: st) w Q := Wp.alu e91_40 rfl rfl
set_option maxRecDepth 20000 in
theorem w91_40r {d : Nat} {st : List Value} {Q : Option Value × jW → Prop} {ls : jL} {w : jW} {a : Nat} : Wp d 91 40 ls (.ref a :: st) w Q = Wp d 91 41 ls (.ref a :: .ref a :: st) w Q := Wp.alu e91_40 rfl rfl
theorem e91_41 : decode (j_co 91) 41 = .ok (.getfield 46, 3) := by decide +kernel
set_option maxRecDepth 20000 in
theorem w91_41 {d : Nat} {st : List Value} {Q : Option Value × jW → Prop} {ls : jL} {xs : List Value} {I : fI} {L : fL} {o : Nat} (ht : f_tg o = 2) : Wp d 91 41 ls (.ref o :: st) (f_W xs I L) Q = Wp d 91 44 ls (.int (I o 4) :: st) (f_W xs I L) Q := Wp.getI (ci := 2) (k := 4) e91_41 rfl (by decide) (by decide) (by decide) ht
theorem e91_44 : decode (j_co 91) 44 = .ok (.iconst 1, 1) := by decide +kernel
set_option maxRecDepth 20000 in
theorem w91_44 {d : Nat} {st : List Value} {Q : Option Value × jW → Prop} {ls : jL} {w : jW} : Wp d 91 44 ls (st) w Q = Wp d 91 45 ls (.int (nI 1) :: st) w Q := Wp.alu e91_44 rfl rfl
theorem e91_45 : decode (j_co 91) 45 = .ok (.iadd, 1) := by decide +kernel
set_option maxRecDepth 20000 in
theorem w91_45 {d : Nat} {st : List Value} {Q : Option Value × jW → Prop} {ls : jL} {w : jW} {a b : Int32} : Wp d 91 45 ls (.int b :: .int a :: st) w Q = Wp d 91 46 ls (.int (a + b) :: st) w Q := Wp.alu e91_45 rfl rfl
theorem e91_46 : decode (j_co 91) 46 = .ok (.putfield 46, 3) := by decide +kernel
set_option maxRecDepth 20000 in
theorem w91_46 {d : Nat} {st : List Value} {Q : Option Value × jW → Prop} {ls : jL} {xs : List Value} {I : fI} {L : fL} {o : Nat} {x : Int32} (ht : f_tg o = 2) : Wp d 91 46 ls (.int x :: .ref o :: st) (f_W xs I L) Q = Wp d 91 49 ls (st) (f_W xs (f_up I o 4 x) L) Q := Wp.putI (ci := 2) (k := 4) e91_46 rfl (by decide) (by decide) rfl (by decide) ht
theorem e91_49 : decode (j_co 91) 49 = .ok (.iconst 1, 1) := by decide +kernel
set_option maxRecDepth 20000 in
theorem w91_49 {d : Nat} {st : List Value} {Q : Option Value × jW → Prop} {ls : jL} {w : jW} : Wp d 91 49 ls (st) w Q = Wp d 91 50 ls (.int (nI 1) :: st) w Q := Wp.alu e91_49 rfl rfl
theorem e91_50 : decode (j_co 91) 50 = .ok (.ireturn, 1) := by decide +kernel
set_option maxRecDepth 20000 in
theorem w91_50 {d : Nat} {Q : Option Value × jW → Prop} {ls : jL} {w : jW} {x : Int32} (hx : x = 0 ∨ x = 1) : Wp d 91 50 ls [.int x] w Q = Q (some (.int x), w) := Wp.ret e91_50 (by rcases hx with rfl | rfl <;> rfl)
/-! Hand.springBy -/
theorem e93_0 : decode (j_co 93) 0 = .ok (.aload_n 0, 1) := by decide +kernel
set_option maxRecDepth 20000 in
theorem w93_0 {d : Nat} {st : List Value} {Q : Option Value × jW → Prop} {w : jW} {a1 a2 a3 a4 a5 : Option Value} {x : Nat} : Wp d 93 0 [some (.ref x), a1, a2, a3, a4, a5] (st) w Q = Wp d 93 1 [some (.ref x), a1, a2, a3, a4, a5] (.ref x :: st) w Q := Wp.loc e93_0 rfl rfl rfl
theorem e93_1 : decode (j_co 93) 1 = .ok (.getfield 49, 3) := by decide +kernel
set_option maxRecDepth 20000 in
theorem w93_1 {d : Nat} {st : List Value} {Q : Option Value × jW → Prop} {ls : jL} {xs : List Value} {I : fI} {L : fL} {o : Nat} (ht : f_tg o = 2) : Wp d 93 1 ls (.ref o :: st) (f_W xs I L) Q = Wp d 93 4 ls (.int (I o 5) :: st) (f_W xs I L) Q := Wp.getI (ci := 2) (k := 5) e93_1 rfl (by decide) (by decide) (by decide) ht
theorem e93_4 : decode (j_co 93) 4 = .ok (.ifCond .eq 28, 3) := by decide +kernel
set_option maxRecDepth 20000 in
theorem w93_4 {d : Nat} {st : List Value} {Q : Option Value × jW → Prop} {ls : jL} {w : jW} {a : Int32} : Wp d 93 4 ls (.int a :: st) w Q = ((a = nI 0 → Wp d 93 32 ls st w Q) ∧ (¬ a = nI 0 → Wp d 93 7 ls st w Q)) := Wp.if2 (c := a = nI 0) (off := 28) e93_4 rfl rfl rfl rfl rfl
theorem e93_7 : decode (j_co 93) 7 = .ok (.aload_n 1, 1) := by decide +kernel
set_option maxRecDepth 20000 in
theorem w93_7 {d : Nat} {st : List Value} {Q : Option Value × jW → Prop} {w : jW} {a0 a2 a3 a4 a5 : Option Value} {x : Nat} : Wp d 93 7 [a0, some (.ref x), a2, a3, a4, a5] (st) w Q = Wp d 93 8 [a0, some (.ref x), a2, a3, a4, a5] (.ref x :: st) w Q := Wp.loc e93_7 rfl rfl rfl
theorem e93_8 : decode (j_co 93) 8 = .ok (.getfield 70, 3) := by decide +kernel
set_option maxRecDepth 20000 in
theorem w93_8 {d : Nat} {st : List Value} {Q : Option Value × jW → Prop} {ls : jL} {xs : List Value} {I : fI} {L : fL} {o : Nat} (ht : f_tg o = 4) : Wp d 93 8 ls (.ref o :: st) (f_W xs I L) Q = Wp d 93 11 ls (.int (I o 3) :: st) (f_W xs I L) Q := Wp.getI (ci := 4) (k := 3) e93_8 rfl (by decide) (by decide) (by decide) ht
theorem e93_11 : decode (j_co 93) 11 = .ok (.aload_n 0, 1) := by decide +kernel
set_option maxRecDepth 20000 in
theorem w93_11 {d : Nat} {st : List Value} {Q : Option Value × jW → Prop} {w : jW} {a1 a2 a3 a4 a5 : Option Value} {x : Nat} : Wp d 93 11 [some (.ref x), a1, a2, a3, a4, a5] (st) w Q = Wp d 93 12 [some (.ref x), a1, a2, a3, a4, a5] (.ref x :: st) w Q := Wp.loc e93_11 rfl rfl rfl
theorem e93_12 : decode (j_co 93) 12 = .ok (.getfield 39, 3) := by decide +kernel
set_option maxRecDepth 20000 in
theorem w93_12 {d : Nat} {st : List Value} {Q : Option Value × jW → Prop} {ls : jL} {xs : List Value} {I : fI} {L : fL} {o : Nat} (ht : f_tg o = 2) : Wp d 93 12 ls (.ref o :: st) (f_W xs I L) Q = Wp d 93 15 ls (.int (I o 3) :: st) (f_W xs I L) Q := Wp.getI (ci := 2) (k := 3) e93_12 rfl (by decide) (by decide) (by decide) ht
theorem e93_15 : decode (j_co 93) 15 = .ok (.if_icmp .ne 17, 3) := by decide +kernel
set_option maxRecDepth 20000 in
theorem w93_15 {d : Nat} {st : List Value} {Q : Option Value × jW → Prop} {ls : jL} {w : jW} {a b : Int32} : Wp d 93 15 ls (.int b :: .int a :: st) w Q = ((a = b → Wp d 93 18 ls st w Q) ∧ (¬ a = b → Wp d 93 32 ls st w Q)) := Wp.if2n (c := a = b) (off := 17) e93_15 rfl rfl rfl rfl rfl
theorem e93_18 : decode (j_co 93) 18 = .ok (.aload_n 1, 1) := by decide +kernel
set_option maxRecDepth 20000 in
theorem w93_18 {d : Nat} {st : List Value} {Q : Option Value × jW → Prop} {w : jW} {a0 a2 a3 a4 a5 : Option Value} {x : Nat} : Wp d 93 18 [a0, some (.ref x), a2, a3, a4, a5] (st) w Q = Wp d 93 19 [a0, some (.ref x), a2, a3, a4, a5] (.ref x :: st) w Q := Wp.loc e93_18 rfl rfl rfl
theorem e93_19 : decode (j_co 93) 19 = .ok (.getfield 75, 3) := by decide +kernel
set_option maxRecDepth 20000 in
theorem w93_19 {d : Nat} {st : List Value} {Q : Option Value × jW → Prop} {ls : jL} {xs : List Value} {I : fI} {L : fL} {o : Nat} (ht : f_tg o = 4) : Wp d 93 19 ls (.ref o :: st) (f_W xs I L) Q = Wp d 93 22 ls (.ref (f_rf o 0) :: st) (f_W xs I L) Q := Wp.getR (ci := 4) (k := 0) e93_19 rfl (by decide) (by decide) rfl ht
theorem e93_22 : decode (j_co 93) 22 = .ok (.aload_n 0, 1) := by decide +kernel
set_option maxRecDepth 20000 in
theorem w93_22 {d : Nat} {st : List Value} {Q : Option Value × jW → Prop} {w : jW} {a1 a2 a3 a4 a5 : Option Value} {x : Nat} : Wp d 93 22 [some (.ref x), a1, a2, a3, a4, a5] (st) w Q = Wp d 93 23 [some (.ref x), a1, a2, a3, a4, a5] (.ref x :: st) w Q := Wp.loc e93_22 rfl rfl rfl
theorem e93_23 : decode (j_co 93) 23 = .ok (.getfield 12, 3) := by decide +kernel
set_option maxRecDepth 20000 in
theorem w93_23 {d : Nat} {st : List Value} {Q : Option Value × jW → Prop} {ls : jL} {xs : List Value} {I : fI} {L : fL} {o : Nat} (ht : f_tg o = 2) : Wp d 93 23 ls (.ref o :: st) (f_W xs I L) Q = Wp d 93 26 ls (.ref (f_rf o 1) :: st) (f_W xs I L) Q := Wp.getR (ci := 2) (k := 1) e93_23 rfl (by decide) (by decide) rfl ht
theorem e93_26 : decode (j_co 93) 26 = .ok (.invokevirtual 78, 3) := by decide +kernel
set_option maxRecDepth 20000 in
theorem w93_26 {d : Nat} {st : List Value} {Q : Option Value × jW → Prop} {ls : jL} {xs : List Value} {I : fI} {L : fL} {r : Nat} {x0 : Nat} (hs : j_sumc st ≤ 8) (ht : f_tg r = 0) : Wp (d + 1) 93 26 ls (.ref x0 :: .ref r :: st) (f_W xs I L) Q = Wp d 45 0 [some (.ref r), some (.ref x0), none] [] (f_W xs I L) (fun r1 => Wp (d + 1) 93 29 ls (r1.1.toList ++ st) r1.2 Q) := Wp.cv (y' := 45) (as := [.ref x0]) e93_26 rfl (by decide) rfl (show 2 ≤ 3 by decide) (by decide) hs ht
theorem e93_29 : decode (j_co 93) 29 = .ok (.ifCond .ne 5, 3) := by decide +kernel
set_option maxRecDepth 20000 in
theorem w93_29 {d : Nat} {st : List Value} {Q : Option Value × jW → Prop} {ls : jL} {w : jW} {a : Int32} : Wp d 93 29 ls (.int a :: st) w Q = ((a = nI 0 → Wp d 93 32 ls st w Q) ∧ (¬ a = nI 0 → Wp d 93 34 ls st w Q)) := Wp.if2n (c := a = nI 0) (off := 5) e93_29 rfl rfl rfl rfl rfl
theorem e93_32 : decode (j_co 93) 32 = .ok (.iconst 0, 1) := by decide +kernel
set_option maxRecDepth 20000 in
theorem w93_32 {d : Nat} {st : List Value} {Q : Option Value × jW → Prop} {ls : jL} {w : jW} : Wp d 93 32 ls (st) w Q = Wp d 93 33 ls (.int (nI 0) :: st) w Q := Wp.alu e93_32 rfl rfl
theorem e93_33 : decode (j_co 93) 33 = .ok (.ireturn, 1) := by decide +kernel
set_option maxRecDepth 20000 in
theorem w93_33 {d : Nat} {Q : Option Value × jW → Prop} {ls : jL} {w : jW} {x : Int32} (hx : x = 0 ∨ x = 1) : Wp d 93 33 ls [.int x] w Q = Q (some (.int x), w) := Wp.ret e93_33 (by rcases hx with rfl | rfl <;> rfl)
theorem e93_34 : decode (j_co 93) 34 = .ok (.aload_n 0, 1) := by decide +kernel
set_option maxRecDepth 20000 in
theorem w93_34 {d : Nat} {st : List Value} {Q : Option Value × jW → Prop} {w : jW} {a1 a2 a3 a4 a5 : Option Value} {x : Nat} : Wp d 93 34 [some (.ref x), a1, a2, a3, a4, a5] (st) w Q = Wp d 93 35 [some (.ref x), a1, a2, a3, a4, a5] (.ref x :: st) w Q := Wp.loc e93_34 rfl rfl rfl
theorem e93_35 : decode (j_co 93) 35 = .ok (.getfield 18, 3) := by decide +kernel
set_option maxRecDepth 20000 in
theorem w93_35 {d : Nat} {st : List Value} {Q : Option Value × jW → Prop} {ls : jL} {xs : List Value} {I : fI} {L : fL} {o : Nat} (ht : f_tg o = 2) : Wp d 93 35 ls (.ref o :: st) (f_W xs I L) Q = Wp d 93 38 ls (.ref (f_rf o 2) :: st) (f_W xs I L) Q := Wp.getR (ci := 2) (k := 2) e93_35 rfl (by decide) (by decide) rfl ht
theorem e93_38 : decode (j_co 93) 38 = .ok (.iload_n 2, 1) := by decide +kernel
set_option maxRecDepth 20000 in
theorem w93_38 {d : Nat} {st : List Value} {Q : Option Value × jW → Prop} {w : jW} {a0 a1 a3 a4 a5 : Option Value} {x : Int32} : Wp d 93 38 [a0, a1, some (.int x), a3, a4, a5] (st) w Q = Wp d 93 39 [a0, a1, some (.int x), a3, a4, a5] (.int x :: st) w Q := Wp.loc e93_38 rfl rfl rfl
theorem e93_39 : decode (j_co 93) 39 = .ok (.iload_n 3, 1) := by decide +kernel
set_option maxRecDepth 20000 in
theorem w93_39 {d : Nat} {st : List Value} {Q : Option Value × jW → Prop} {w : jW} {a0 a1 a2 a4 a5 : Option Value} {x : Int32} : Wp d 93 39 [a0, a1, a2, some (.int x), a4, a5] (st) w Q = Wp d 93 40 [a0, a1, a2, some (.int x), a4, a5] (.int x :: st) w Q := Wp.loc e93_39 rfl rfl rfl
theorem e93_40 : decode (j_co 93) 40 = .ok (.iload 4, 2) := by decide +kernel
set_option maxRecDepth 20000 in
theorem w93_40 {d : Nat} {st : List Value} {Q : Option Value × jW → Prop} {w : jW} {a0 a1 a2 a3 a5 : Option Value} {x : Int32} : Wp d 93 40 [a0, a1, a2, a3, some (.int x), a5] (st) w Q = Wp d 93 42 [a0, a1, a2, a3, some (.int x), a5] (.int x :: st) w Q := Wp.loc e93_40 rfl rfl rfl
theorem e93_42 : decode (j_co 93) 42 = .ok (.invokevirtual 42, 3) := by decide +kernel
set_option maxRecDepth 20000 in
theorem w93_42 {d : Nat} {st : List Value} {Q : Option Value × jW → Prop} {ls : jL} {xs : List Value} {I : fI} {L : fL} {r : Nat} {x0 : Int32} {x1 : Int32} {x2 : Int32} (hs : j_sumc st ≤ 8) (ht : f_tg r = 0) : Wp (d + 1) 93 42 ls (.int x2 :: .int x1 :: .int x0 :: .ref r :: st) (f_W xs I L) Q = Wp d 88 0 [some (.ref r), some (.int x0), some (.int x1), some (.int x2)] [] (f_W xs I L) (fun r1 => Wp (d + 1) 93 45 ls (r1.1.toList ++ st) r1.2 Q) := Wp.cv (y' := 88) (as := [.int x0, .int x1, .int x2]) e93_42 rfl (by decide) rfl (show 4 ≤ 4 by decide) (by decide) hs ht
theorem e93_45 : decode (j_co 93) 45 = .ok (.iconst 0, 1) := by decide +kernel
set_option maxRecDepth 20000 in
theorem w93_45 {d : Nat} {st : List Value} {Q : Option Value × jW → Prop} {ls : jL} {w : jW} : Wp d 93 45 ls (st) w Q = Wp d 93 46 ls (.int (nI 0) :: st) w Q := Wp.alu e93_45 rfl rfl
theorem e93_46 : decode (j_co 93) 46 = .ok (.istore 5, 2) := by decide +kernel
set_option maxRecDepth 20000 in
theorem w93_46 {d : Nat} {st : List Value} {Q : Option Value × jW → Prop} {w : jW} {a0 a1 a2 a3 a4 a5 : Option Value} {x : Int32} (h : j_cp a4) : Wp d 93 46 [a0, a1, a2, a3, a4, a5] (.int x :: st) w Q = Wp d 93 48 [a0, a1, a2, a3, a4, some (.int x)] (st) w Q := Wp.loc e93_46 rfl rfl (v_stI (ls := [a0, a1, a2, a3, a4, a5]) (k := 5) (show 5 < 6 by decide) h)
theorem e93_48 : decode (j_co 93) 48 = .ok (.iload 5, 2) := by decide +kernel
set_option maxRecDepth 20000 in
theorem w93_48 {d : Nat} {st : List Value} {Q : Option Value × jW → Prop} {w : jW} {a0 a1 a2 a3 a4 : Option Value} {x : Int32} : Wp d 93 48 [a0, a1, a2, a3, a4, some (.int x)] (st) w Q = Wp d 93 50 [a0, a1, a2, a3, a4, some (.int x)] (.int x :: st) w Q := Wp.loc e93_48 rfl rfl rfl
theorem e93_50 : decode (j_co 93) 50 = .ok (.iconst 3, 1) := by decide +kernel
set_option maxRecDepth 20000 in
theorem w93_50 {d : Nat} {st : List Value} {Q : Option Value × jW → Prop} {ls : jL} {w : jW} : Wp d 93 50 ls (st) w Q = Wp d 93 51 ls (.int (nI 3) :: st) w Q := Wp.alu e93_50 rfl rfl
theorem e93_51 : decode (j_co 93) 51 = .ok (.if_icmp .ge 71, 3) := by decide +kernel
set_option maxRecDepth 20000 in
theorem w93_51 {d : Nat} {st : List Value} {Q : Option Value × jW → Prop} {ls : jL} {w : jW} {a b : Int32} : Wp d 93 51 ls (.int b :: .int a :: st) w Q = ((b ≤ a → Wp d 93 122 ls st w Q) ∧ (¬ b ≤ a → Wp d 93 54 ls st w Q)) := Wp.if2 (c := b ≤ a) (off := 71) e93_51 rfl rfl rfl rfl rfl
theorem e93_54 : decode (j_co 93) 54 = .ok (.aload_n 1, 1) := by decide +kernel
set_option maxRecDepth 20000 in
theorem w93_54 {d : Nat} {st : List Value} {Q : Option Value × jW → Prop} {w : jW} {a0 a2 a3 a4 a5 : Option Value} {x : Nat} : Wp d 93 54 [a0, some (.ref x), a2, a3, a4, a5] (st) w Q = Wp d 93 55 [a0, some (.ref x), a2, a3, a4, a5] (.ref x :: st) w Q := Wp.loc e93_54 rfl rfl rfl
theorem e93_55 : decode (j_co 93) 55 = .ok (.iload 5, 2) := by decide +kernel
set_option maxRecDepth 20000 in
theorem w93_55 {d : Nat} {st : List Value} {Q : Option Value × jW → Prop} {w : jW} {a0 a1 a2 a3 a4 : Option Value} {x : Int32} : Wp d 93 55 [a0, a1, a2, a3, a4, some (.int x)] (st) w Q = Wp d 93 57 [a0, a1, a2, a3, a4, some (.int x)] (.int x :: st) w Q := Wp.loc e93_55 rfl rfl rfl
theorem e93_57 : decode (j_co 93) 57 = .ok (.invokevirtual 81, 3) := by decide +kernel
set_option maxRecDepth 20000 in
theorem w93_57 {d : Nat} {st : List Value} {Q : Option Value × jW → Prop} {ls : jL} {xs : List Value} {I : fI} {L : fL} {r : Nat} {x0 : Int32} (hs : j_sumc st ≤ 8) (ht : f_tg r = 4) : Wp (d + 1) 93 57 ls (.int x0 :: .ref r :: st) (f_W xs I L) Q = Wp d 48 0 [some (.ref r), some (.int x0)] [] (f_W xs I L) (fun r1 => Wp (d + 1) 93 60 ls (r1.1.toList ++ st) r1.2 Q) := Wp.cv (y' := 48) (as := [.int x0]) e93_57 rfl (by decide) rfl (show 2 ≤ 2 by decide) (by decide) hs ht
theorem e93_60 : decode (j_co 93) 60 = .ok (.ifCond .ne 33, 3) := by decide +kernel
set_option maxRecDepth 20000 in
theorem w93_60 {d : Nat} {st : List Value} {Q : Option Value × jW → Prop} {ls : jL} {w : jW} {a : Int32} : Wp d 93 60 ls (.int a :: st) w Q = ((a = nI 0 → Wp d 93 63 ls st w Q) ∧ (¬ a = nI 0 → Wp d 93 93 ls st w Q)) := Wp.if2n (c := a = nI 0) (off := 33) e93_60 rfl rfl rfl rfl rfl
theorem e93_63 : decode (j_co 93) 63 = .ok (.aload_n 0, 1) := by decide +kernel
set_option maxRecDepth 20000 in
theorem w93_63 {d : Nat} {st : List Value} {Q : Option Value × jW → Prop} {w : jW} {a1 a2 a3 a4 a5 : Option Value} {x : Nat} : Wp d 93 63 [some (.ref x), a1, a2, a3, a4, a5] (st) w Q = Wp d 93 64 [some (.ref x), a1, a2, a3, a4, a5] (.ref x :: st) w Q := Wp.loc e93_63 rfl rfl rfl
theorem e93_64 : decode (j_co 93) 64 = .ok (.getfield 18, 3) := by decide +kernel
set_option maxRecDepth 20000 in
theorem w93_64 {d : Nat} {st : List Value} {Q : Option Value × jW → Prop} {ls : jL} {xs : List Value} {I : fI} {L : fL} {o : Nat} (ht : f_tg o = 2) : Wp d 93 64 ls (.ref o :: st) (f_W xs I L) Q = Wp d 93 67 ls (.ref (f_rf o 2) :: st) (f_W xs I L) Q := Wp.getR (ci := 2) (k := 2) e93_64 rfl (by decide) (by decide) rfl ht
theorem e93_67 : decode (j_co 93) 67 = .ok (.iload 5, 2) := by decide +kernel
set_option maxRecDepth 20000 in
theorem w93_67 {d : Nat} {st : List Value} {Q : Option Value × jW → Prop} {w : jW} {a0 a1 a2 a3 a4 : Option Value} {x : Int32} : Wp d 93 67 [a0, a1, a2, a3, a4, some (.int x)] (st) w Q = Wp d 93 69 [a0, a1, a2, a3, a4, some (.int x)] (.int x :: st) w Q := Wp.loc e93_67 rfl rfl rfl
theorem e93_69 : decode (j_co 93) 69 = .ok (.aload_n 0, 1) := by decide +kernel
set_option maxRecDepth 20000 in
theorem w93_69 {d : Nat} {st : List Value} {Q : Option Value × jW → Prop} {w : jW} {a1 a2 a3 a4 a5 : Option Value} {x : Nat} : Wp d 93 69 [some (.ref x), a1, a2, a3, a4, a5] (st) w Q = Wp d 93 70 [some (.ref x), a1, a2, a3, a4, a5] (.ref x :: st) w Q := Wp.loc e93_69 rfl rfl rfl
theorem e93_70 : decode (j_co 93) 70 = .ok (.getfield 12, 3) := by decide +kernel
set_option maxRecDepth 20000 in
theorem w93_70 {d : Nat} {st : List Value} {Q : Option Value × jW → Prop} {ls : jL} {xs : List Value} {I : fI} {L : fL} {o : Nat} (ht : f_tg o = 2) : Wp d 93 70 ls (.ref o :: st) (f_W xs I L) Q = Wp d 93 73 ls (.ref (f_rf o 1) :: st) (f_W xs I L) Q := Wp.getR (ci := 2) (k := 1) e93_70 rfl (by decide) (by decide) rfl ht
theorem e93_73 : decode (j_co 93) 73 = .ok (.iload 5, 2) := by decide +kernel
set_option maxRecDepth 20000 in
theorem w93_73 {d : Nat} {st : List Value} {Q : Option Value × jW → Prop} {w : jW} {a0 a1 a2 a3 a4 : Option Value} {x : Int32} : Wp d 93 73 [a0, a1, a2, a3, a4, some (.int x)] (st) w Q = Wp d 93 75 [a0, a1, a2, a3, a4, some (.int x)] (.int x :: st) w Q := Wp.loc e93_73 rfl rfl rfl
theorem e93_75 : decode (j_co 93) 75 = .ok (.invokevirtual 62, 3) := by decide +kernel
set_option maxRecDepth 20000 in
theorem w93_75 {d : Nat} {st : List Value} {Q : Option Value × jW → Prop} {ls : jL} {xs : List Value} {I : fI} {L : fL} {r : Nat} {x0 : Int32} (hs : j_sumc st ≤ 8) (ht : f_tg r = 0) : Wp (d + 1) 93 75 ls (.int x0 :: .ref r :: st) (f_W xs I L) Q = Wp d 33 0 [some (.ref r), some (.int x0)] [] (f_W xs I L) (fun r1 => Wp (d + 1) 93 78 ls (r1.1.toList ++ st) r1.2 Q) := Wp.cv (y' := 33) (as := [.int x0]) e93_75 rfl (by decide) rfl (show 2 ≤ 2 by decide) (by decide) hs ht
theorem e93_78 : decode (j_co 93) 78 = .ok (.aload_n 0, 1) := by decide +kernel
set_option maxRecDepth 20000 in
theorem w93_78 {d : Nat} {st : List Value} {Q : Option Value × jW → Prop} {w : jW} {a1 a2 a3 a4 a5 : Option Value} {x : Nat} : Wp d 93 78 [some (.ref x), a1, a2, a3, a4, a5] (st) w Q = Wp d 93 79 [some (.ref x), a1, a2, a3, a4, a5] (.ref x :: st) w Q := Wp.loc e93_78 rfl rfl rfl
theorem e93_79 : decode (j_co 93) 79 = .ok (.getfield 12, 3) := by decide +kernel
set_option maxRecDepth 20000 in
theorem w93_79 {d : Nat} {st : List Value} {Q : Option Value × jW → Prop} {ls : jL} {xs : List Value} {I : fI} {L : fL} {o : Nat} (ht : f_tg o = 2) : Wp d 93 79 ls (.ref o :: st) (f_W xs I L) Q = Wp d 93 82 ls (.ref (f_rf o 1) :: st) (f_W xs I L) Q := Wp.getR (ci := 2) (k := 1) e93_79 rfl (by decide) (by decide) rfl ht
theorem e93_82 : decode (j_co 93) 82 = .ok (.iload 5, 2) := by decide +kernel
set_option maxRecDepth 20000 in
theorem w93_82 {d : Nat} {st : List Value} {Q : Option Value × jW → Prop} {w : jW} {a0 a1 a2 a3 a4 : Option Value} {x : Int32} : Wp d 93 82 [a0, a1, a2, a3, a4, some (.int x)] (st) w Q = Wp d 93 84 [a0, a1, a2, a3, a4, some (.int x)] (.int x :: st) w Q := Wp.loc e93_82 rfl rfl rfl
theorem e93_84 : decode (j_co 93) 84 = .ok (.invokevirtual 62, 3) := by decide +kernel
set_option maxRecDepth 20000 in
theorem w93_84 {d : Nat} {st : List Value} {Q : Option Value × jW → Prop} {ls : jL} {xs : List Value} {I : fI} {L : fL} {r : Nat} {x0 : Int32} (hs : j_sumc st ≤ 8) (ht : f_tg r = 0) : Wp (d + 1) 93 84 ls (.int x0 :: .ref r :: st) (f_W xs I L) Q = Wp d 33 0 [some (.ref r), some (.int x0)] [] (f_W xs I L) (fun r1 => Wp (d + 1) 93 87 ls (r1.1.toList ++ st) r1.2 Q) := Wp.cv (y' := 33) (as := [.int x0]) e93_84 rfl (by decide) rfl (show 2 ≤ 2 by decide) (by decide) hs ht
theorem e93_87 : decode (j_co 93) 87 = .ok (.invokevirtual 84, 3) := by decide +kernel
set_option maxRecDepth 20000 in
theorem w93_87 {d : Nat} {st : List Value} {Q : Option Value × jW → Prop} {ls : jL} {xs : List Value} {I : fI} {L : fL} {r : Nat} {x0 : Int32} {x1 : Int32} {x2 : Int32} (hs : j_sumc st ≤ 8) (ht : f_tg r = 0) : Wp (d + 1) 93 87 ls (.int x2 :: .int x1 :: .int x0 :: .ref r :: st) (f_W xs I L) Q = Wp d 5 0 [some (.ref r), some (.int x0), some (.int x1), some (.int x2)] [] (f_W xs I L) (fun r1 => Wp (d + 1) 93 90 ls (r1.1.toList ++ st) r1.2 Q) := Wp.cv (y' := 5) (as := [.int x0, .int x1, .int x2]) e93_87 rfl (by decide) rfl (show 4 ≤ 4 by decide) (by decide) hs ht
theorem e93_90 : decode (j_co 93) 90 = .ok (.goto 26, 3) := by decide +kernel
set_option maxRecDepth 20000 in
theorem w93_90 {d : Nat} {st : List Value} {Q : Option Value × jW → Prop} {ls : jL} {w : jW} : Wp d 93 90 ls (st) w Q = Wp d 93 116 ls (st) w Q := Wp.br e93_90 (Or.inl rfl) rfl rfl rfl rfl
theorem e93_93 : decode (j_co 93) 93 = .ok (.aload_n 1, 1) := by decide +kernel
set_option maxRecDepth 20000 in
theorem w93_93 {d : Nat} {st : List Value} {Q : Option Value × jW → Prop} {w : jW} {a0 a2 a3 a4 a5 : Option Value} {x : Nat} : Wp d 93 93 [a0, some (.ref x), a2, a3, a4, a5] (st) w Q = Wp d 93 94 [a0, some (.ref x), a2, a3, a4, a5] (.ref x :: st) w Q := Wp.loc e93_93 rfl rfl rfl
theorem e93_94 : decode (j_co 93) 94 = .ok (.getfield 87, 3) := by decide +kernel
set_option maxRecDepth 20000 in
theorem w93_94 {d : Nat} {st : List Value} {Q : Option Value × jW → Prop} {ls : jL} {xs : List Value} {I : fI} {L : fL} {o : Nat} (ht : f_tg o = 4) : Wp d 93 94 ls (.ref o :: st) (f_W xs I L) Q = Wp d 93 97 ls (.ref (f_rf o 1) :: st) (f_W xs I L) Q := Wp.getR (ci := 4) (k := 1) e93_94 rfl (by decide) (by decide) rfl ht
theorem e93_97 : decode (j_co 93) 97 = .ok (.iload 5, 2) := by decide +kernel
set_option maxRecDepth 20000 in
theorem w93_97 {d : Nat} {st : List Value} {Q : Option Value × jW → Prop} {w : jW} {a0 a1 a2 a3 a4 : Option Value} {x : Int32} : Wp d 93 97 [a0, a1, a2, a3, a4, some (.int x)] (st) w Q = Wp d 93 99 [a0, a1, a2, a3, a4, some (.int x)] (.int x :: st) w Q := Wp.loc e93_97 rfl rfl rfl
theorem e93_99 : decode (j_co 93) 99 = .ok (.aload_n 0, 1) := by decide +kernel
set_option maxRecDepth 20000 in
theorem w93_99 {d : Nat} {st : List Value} {Q : Option Value × jW → Prop} {w : jW} {a1 a2 a3 a4 a5 : Option Value} {x : Nat} : Wp d 93 99 [some (.ref x), a1, a2, a3, a4, a5] (st) w Q = Wp d 93 100 [some (.ref x), a1, a2, a3, a4, a5] (.ref x :: st) w Q := Wp.loc e93_99 rfl rfl rfl
theorem e93_100 : decode (j_co 93) 100 = .ok (.getfield 18, 3) := by decide +kernel
set_option maxRecDepth 20000 in
theorem w93_100 {d : Nat} {st : List Value} {Q : Option Value × jW → Prop} {ls : jL} {xs : List Value} {I : fI} {L : fL} {o : Nat} (ht : f_tg o = 2) : Wp d 93 100 ls (.ref o :: st) (f_W xs I L) Q = Wp d 93 103 ls (.ref (f_rf o 2) :: st) (f_W xs I L) Q := Wp.getR (ci := 2) (k := 2) e93_100 rfl (by decide) (by decide) rfl ht
theorem e93_103 : decode (j_co 93) 103 = .ok (.iload 5, 2) := by decide +kernel
set_option maxRecDepth 20000 in
theorem w93_103 {d : Nat} {st : List Value} {Q : Option Value × jW → Prop} {w : jW} {a0 a1 a2 a3 a4 : Option Value} {x : Int32} : Wp d 93 103 [a0, a1, a2, a3, a4, some (.int x)] (st) w Q = Wp d 93 105 [a0, a1, a2, a3, a4, some (.int x)] (.int x :: st) w Q := Wp.loc e93_103 rfl rfl rfl
theorem e93_105 : decode (j_co 93) 105 = .ok (.invokevirtual 62, 3) := by decide +kernel
set_option maxRecDepth 20000 in
theorem w93_105 {d : Nat} {st : List Value} {Q : Option Value × jW → Prop} {ls : jL} {xs : List Value} {I : fI} {L : fL} {r : Nat} {x0 : Int32} (hs : j_sumc st ≤ 8) (ht : f_tg r = 0) : Wp (d + 1) 93 105 ls (.int x0 :: .ref r :: st) (f_W xs I L) Q = Wp d 33 0 [some (.ref r), some (.int x0)] [] (f_W xs I L) (fun r1 => Wp (d + 1) 93 108 ls (r1.1.toList ++ st) r1.2 Q) := Wp.cv (y' := 33) (as := [.int x0]) e93_105 rfl (by decide) rfl (show 2 ≤ 2 by decide) (by decide) hs ht
theorem e93_108 : decode (j_co 93) 108 = .ok (.invokevirtual 90, 3) := by decide +kernel
set_option maxRecDepth 20000 in
theorem w93_108 {d : Nat} {st : List Value} {Q : Option Value × jW → Prop} {ls : jL} {xs : List Value} {I : fI} {L : fL} {r : Nat} {x0 : Int32} {x1 : Int32} (hs : j_sumc st ≤ 8) (ht : f_tg r = 0) : Wp (d + 1) 93 108 ls (.int x1 :: .int x0 :: .ref r :: st) (f_W xs I L) Q = Wp d 62 0 [some (.ref r), some (.int x0), some (.int x1)] [] (f_W xs I L) (fun r1 => Wp (d + 1) 93 111 ls (r1.1.toList ++ st) r1.2 Q) := Wp.cv (y' := 62) (as := [.int x0, .int x1]) e93_108 rfl (by decide) rfl (show 3 ≤ 3 by decide) (by decide) hs ht
theorem e93_111 : decode (j_co 93) 111 = .ok (.ifCond .ne 5, 3) := by decide +kernel
set_option maxRecDepth 20000 in
theorem w93_111 {d : Nat} {st : List Value} {Q : Option Value × jW → Prop} {ls : jL} {w : jW} {a : Int32} : Wp d 93 111 ls (.int a :: st) w Q = ((a = nI 0 → Wp d 93 114 ls st w Q) ∧ (¬ a = nI 0 → Wp d 93 116 ls st w Q)) := Wp.if2n (c := a = nI 0) (off := 5) e93_111 rfl rfl rfl rfl rfl
theorem e93_114 : decode (j_co 93) 114 = .ok (.iconst 0, 1) := by decide +kernel
set_option maxRecDepth 20000 in
theorem w93_114 {d : Nat} {st : List Value} {Q : Option Value × jW → Prop} {ls : jL} {w : jW} : Wp d 93 114 ls (st) w Q = Wp d 93 115 ls (.int (nI 0) :: st) w Q := Wp.alu e93_114 rfl rfl
theorem e93_115 : decode (j_co 93) 115 = .ok (.ireturn, 1) := by decide +kernel
set_option maxRecDepth 20000 in
theorem w93_115 {d : Nat} {Q : Option Value × jW → Prop} {ls : jL} {w : jW} {x : Int32} (hx : x = 0 ∨ x = 1) : Wp d 93 115 ls [.int x] w Q = Q (some (.int x), w) := Wp.ret e93_115 (by rcases hx with rfl | rfl <;> rfl)
theorem e93_116 : decode (j_co 93) 116 = .ok (.iinc 5 1, 3) := by decide +kernel
set_option maxRecDepth 20000 in
theorem w93_116 {d : Nat} {st : List Value} {Q : Option Value × jW → Prop} {w : jW} {a0 a1 a2 a3 a4 : Option Value} {x : Int32} (h : j_cp a4) : Wp d 93 116 [a0, a1, a2, a3, a4, some (.int x)] (st) w Q = Wp d 93 119 [a0, a1, a2, a3, a4, some (.int (x + nI 1))] (st) w Q := Wp.loc e93_116 rfl rfl (v_inc (ls := [a0, a1, a2, a3, a4, some (.int x)]) (k := 5) (n := 1) rfl (show 5 < 6 by decide) h)
theorem e93_119 : decode (j_co 93) 119 = .ok (.goto (-71), 3) := by decide +kernel
set_option maxRecDepth 20000 in
theorem w93_119 {d : Nat} {st : List Value} {Q : Option Value × jW → Prop} {ls : jL} {w : jW} : Wp d 93 119 ls (st) w Q = Wp d 93 48 ls (st) w Q := Wp.br e93_119 (Or.inl rfl) rfl rfl rfl rfl
theorem e93_122 : decode (j_co 93) 122 = .ok (.aload_n 0, 1) := by decide +kernel
set_option maxRecDepth 20000 in
theorem w93_122 {d : Nat} {st : List Value} {Q : Option Value × jW → Prop} {w : jW} {a1 a2 a3 a4 a5 : Option Value} {x : Nat} : Wp d 93 122 [some (.ref x), a1, a2, a3, a4, a5] (st) w Q = Wp d 93 123 [some (.ref x), a1, a2, a3, a4, a5] (.ref x :: st) w Q := Wp.loc e93_122 rfl rfl rfl
theorem e93_123 : decode (j_co 93) 123 = .ok (.aload_n 1, 1) := by decide +kernel
set_option maxRecDepth 20000 in
theorem w93_123 {d : Nat} {st : List Value} {Q : Option Value × jW → Prop} {w : jW} {a0 a2 a3 a4 a5 : Option Value} {x : Nat} : Wp d 93 123 [a0, some (.ref x), a2, a3, a4, a5] (st) w Q = Wp d 93 124 [a0, some (.ref x), a2, a3, a4, a5] (.ref x :: st) w Q := Wp.loc e93_123 rfl rfl rfl
theorem e93_124 : decode (j_co 93) 124 = .ok (.getfield 94, 3) := by decide +kernel
set_option maxRecDepth 20000 in
theorem w93_124 {d : Nat} {st : List Value} {Q : Option Value × jW → Prop} {ls : jL} {xs : List Value} {I : fI} {L : fL} {o : Nat} (ht : f_tg o = 4) : Wp d 93 124 ls (.ref o :: st) (f_W xs I L) Q = Wp d 93 127 ls (.int (I o 4) :: st) (f_W xs I L) Q := Wp.getI (ci := 4) (k := 4) e93_124 rfl (by decide) (by decide) (by decide) ht
theorem e93_127 : decode (j_co 93) 127 = .ok (.invokevirtual 66, 3) := by decide +kernel
set_option maxRecDepth 20000 in
theorem w93_127 {d : Nat} {st : List Value} {Q : Option Value × jW → Prop} {ls : jL} {xs : List Value} {I : fI} {L : fL} {r : Nat} {x0 : Int32} (hs : j_sumc st ≤ 8) (ht : f_tg r = 2) : Wp (d + 1) 93 127 ls (.int x0 :: .ref r :: st) (f_W xs I L) Q = Wp d 91 0 [some (.ref r), some (.int x0)] [] (f_W xs I L) (fun r1 => Wp (d + 1) 93 130 ls (r1.1.toList ++ st) r1.2 Q) := Wp.cv (y' := 91) (as := [.int x0]) e93_127 rfl (by decide) rfl (show 2 ≤ 2 by decide) (by decide) hs ht
theorem e93_130 : decode (j_co 93) 130 = .ok (.ireturn, 1) := by decide +kernel
set_option maxRecDepth 20000 in
theorem w93_130 {d : Nat} {Q : Option Value × jW → Prop} {ls : jL} {w : jW} {x : Int32} (hx : x = 0 ∨ x = 1) : Wp d 93 130 ls [.int x] w Q = Q (some (.int x), w) := Wp.ret e93_130 (by rcases hx with rfl | rfl <;> rfl)
/-! Hand.partOf -/
theorem e95_0 : decode (j_co 95) 0 = .ok (.iload_n 1, 1) := by decide +kernel
set_option maxRecDepth 20000 in
theorem w95_0 {d : Nat} {st : List Value} {Q : Option Value × jW → Prop} {w : jW} {a0 : Option Value} {x : Int32} : Wp d 95 0 [a0, some (.int x)] (st) w Q = Wp d 95 1 [a0, some (.int x)] (.int x :: st) w Q := Wp.loc e95_0 rfl rfl rfl
theorem e95_1 : decode (j_co 95) 1 = .ok (.tableswitch 112 0 7 #[47, 112, 112, 112, 52, 57, 76, 107], 47) := by decide +kernel
theorem e95_48 : decode (j_co 95) 48 = .ok (.aload_n 0, 1) := by decide +kernel
set_option maxRecDepth 20000 in
theorem w95_48 {d : Nat} {st : List Value} {Q : Option Value × jW → Prop} {w : jW} {a1 : Option Value} {x : Nat} : Wp d 95 48 [some (.ref x), a1] (st) w Q = Wp d 95 49 [some (.ref x), a1] (.ref x :: st) w Q := Wp.loc e95_48 rfl rfl rfl
theorem e95_49 : decode (j_co 95) 49 = .ok (.getfield 39, 3) := by decide +kernel
set_option maxRecDepth 20000 in
theorem w95_49 {d : Nat} {st : List Value} {Q : Option Value × jW → Prop} {ls : jL} {xs : List Value} {I : fI} {L : fL} {o : Nat} (ht : f_tg o = 2) : Wp d 95 49 ls (.ref o :: st) (f_W xs I L) Q = Wp d 95 52 ls (.int (I o 3) :: st) (f_W xs I L) Q := Wp.getI (ci := 2) (k := 3) e95_49 rfl (by decide) (by decide) (by decide) ht
theorem e95_52 : decode (j_co 95) 52 = .ok (.ireturn, 1) := by decide +kernel
set_option maxRecDepth 20000 in
theorem w95_52 {d : Nat} {Q : Option Value × jW → Prop} {ls : jL} {w : jW} {x : Int32} : Wp d 95 52 ls [.int x] w Q = Q (some (.int x), w) := Wp.ret e95_52 rfl
theorem e95_53 : decode (j_co 95) 53 = .ok (.aload_n 0, 1) := by decide +kernel
set_option maxRecDepth 20000 in
theorem w95_53 {d : Nat} {st : List Value} {Q : Option Value × jW → Prop} {w : jW} {a1 : Option Value} {x : Nat} : Wp d 95 53 [some (.ref x), a1] (st) w Q = Wp d 95 54 [some (.ref x), a1] (.ref x :: st) w Q := Wp.loc e95_53 rfl rfl rfl
theorem e95_54 : decode (j_co 95) 54 = .ok (.getfield 46, 3) := by decide +kernel
set_option maxRecDepth 20000 in
theorem w95_54 {d : Nat} {st : List Value} {Q : Option Value × jW → Prop} {ls : jL} {xs : List Value} {I : fI} {L : fL} {o : Nat} (ht : f_tg o = 2) : Wp d 95 54 ls (.ref o :: st) (f_W xs I L) Q = Wp d 95 57 ls (.int (I o 4) :: st) (f_W xs I L) Q := Wp.getI (ci := 2) (k := 4) e95_54 rfl (by decide) (by decide) (by decide) ht
theorem e95_57 : decode (j_co 95) 57 = .ok (.ireturn, 1) := by decide +kernel
set_option maxRecDepth 20000 in
theorem w95_57 {d : Nat} {Q : Option Value × jW → Prop} {ls : jL} {w : jW} {x : Int32} : Wp d 95 57 ls [.int x] w Q = Q (some (.int x), w) := Wp.ret e95_57 rfl
theorem e95_58 : decode (j_co 95) 58 = .ok (.aload_n 0, 1) := by decide +kernel
set_option maxRecDepth 20000 in
theorem w95_58 {d : Nat} {st : List Value} {Q : Option Value × jW → Prop} {w : jW} {a1 : Option Value} {x : Nat} : Wp d 95 58 [some (.ref x), a1] (st) w Q = Wp d 95 59 [some (.ref x), a1] (.ref x :: st) w Q := Wp.loc e95_58 rfl rfl rfl
theorem e95_59 : decode (j_co 95) 59 = .ok (.getfield 21, 3) := by decide +kernel
set_option maxRecDepth 20000 in
theorem w95_59 {d : Nat} {st : List Value} {Q : Option Value × jW → Prop} {ls : jL} {xs : List Value} {I : fI} {L : fL} {o : Nat} (ht : f_tg o = 2) : Wp d 95 59 ls (.ref o :: st) (f_W xs I L) Q = Wp d 95 62 ls (.ref (f_rf o 0) :: st) (f_W xs I L) Q := Wp.getR (ci := 2) (k := 0) e95_59 rfl (by decide) (by decide) rfl ht
theorem e95_62 : decode (j_co 95) 62 = .ok (.aload_n 0, 1) := by decide +kernel
set_option maxRecDepth 20000 in
theorem w95_62 {d : Nat} {st : List Value} {Q : Option Value × jW → Prop} {w : jW} {a1 : Option Value} {x : Nat} : Wp d 95 62 [some (.ref x), a1] (st) w Q = Wp d 95 63 [some (.ref x), a1] (.ref x :: st) w Q := Wp.loc e95_62 rfl rfl rfl
theorem e95_63 : decode (j_co 95) 63 = .ok (.getfield 39, 3) := by decide +kernel
set_option maxRecDepth 20000 in
theorem w95_63 {d : Nat} {st : List Value} {Q : Option Value × jW → Prop} {ls : jL} {xs : List Value} {I : fI} {L : fL} {o : Nat} (ht : f_tg o = 2) : Wp d 95 63 ls (.ref o :: st) (f_W xs I L) Q = Wp d 95 66 ls (.int (I o 3) :: st) (f_W xs I L) Q := Wp.getI (ci := 2) (k := 3) e95_63 rfl (by decide) (by decide) (by decide) ht
theorem e95_66 : decode (j_co 95) 66 = .ok (.aload_n 0, 1) := by decide +kernel
set_option maxRecDepth 20000 in
theorem w95_66 {d : Nat} {st : List Value} {Q : Option Value × jW → Prop} {w : jW} {a1 : Option Value} {x : Nat} : Wp d 95 66 [some (.ref x), a1] (st) w Q = Wp d 95 67 [some (.ref x), a1] (.ref x :: st) w Q := Wp.loc e95_66 rfl rfl rfl
theorem e95_67 : decode (j_co 95) 67 = .ok (.getfield 12, 3) := by decide +kernel
set_option maxRecDepth 20000 in
theorem w95_67 {d : Nat} {st : List Value} {Q : Option Value × jW → Prop} {ls : jL} {xs : List Value} {I : fI} {L : fL} {o : Nat} (ht : f_tg o = 2) : Wp d 95 67 ls (.ref o :: st) (f_W xs I L) Q = Wp d 95 70 ls (.ref (f_rf o 1) :: st) (f_W xs I L) Q := Wp.getR (ci := 2) (k := 1) e95_67 rfl (by decide) (by decide) rfl ht
theorem e95_70 : decode (j_co 95) 70 = .ok (.invokevirtual 97, 3) := by decide +kernel
set_option maxRecDepth 20000 in
theorem w95_70 {d : Nat} {st : List Value} {Q : Option Value × jW → Prop} {ls : jL} {xs : List Value} {I : fI} {L : fL} {r : Nat} {x0 : Int32} {x1 : Nat} (hs : j_sumc st ≤ 8) (ht : f_tg r = 5) : Wp (d + 1) 95 70 ls (.ref x1 :: .int x0 :: .ref r :: st) (f_W xs I L) Q = Wp d 52 0 [some (.ref r), some (.int x0), some (.ref x1)] [] (f_W xs I L) (fun r1 => Wp (d + 1) 95 73 ls (r1.1.toList ++ st) r1.2 Q) := Wp.cv (y' := 52) (as := [.int x0, .ref x1]) e95_70 rfl (by decide) rfl (show 3 ≤ 3 by decide) (by decide) hs ht
theorem e95_73 : decode (j_co 95) 73 = .ok (.invokestatic 101, 3) := by decide +kernel
set_option maxRecDepth 20000 in
theorem w95_73 {d : Nat} {st : List Value} {Q : Option Value × jW → Prop} {ls : jL} {w : jW} {x0 : Int32} (hs : j_sumc st ≤ 8) : Wp (d + 1) 95 73 ls (.int x0 :: st) w Q = Wp d 55 0 [some (.int x0)] [] w (fun r1 => Wp (d + 1) 95 76 ls (r1.1.toList ++ st) r1.2 Q) := Wp.cs (kd := 4) (y' := 55) (as := [.int x0]) e95_73 rfl (by decide) (by decide) rfl (show 1 ≤ 1 by decide) hs
theorem e95_76 : decode (j_co 95) 76 = .ok (.ireturn, 1) := by decide +kernel
set_option maxRecDepth 20000 in
theorem w95_76 {d : Nat} {Q : Option Value × jW → Prop} {ls : jL} {w : jW} {x : Int32} : Wp d 95 76 ls [.int x] w Q = Q (some (.int x), w) := Wp.ret e95_76 rfl
theorem e95_77 : decode (j_co 95) 77 = .ok (.aload_n 0, 1) := by decide +kernel
set_option maxRecDepth 20000 in
theorem w95_77 {d : Nat} {st : List Value} {Q : Option Value × jW → Prop} {w : jW} {a1 : Option Value} {x : Nat} : Wp d 95 77 [some (.ref x), a1] (st) w Q = Wp d 95 78 [some (.ref x), a1] (.ref x :: st) w Q := Wp.loc e95_77 rfl rfl rfl
theorem e95_78 : decode (j_co 95) 78 = .ok (.getfield 21, 3) := by decide +kernel
set_option maxRecDepth 20000 in
theorem w95_78 {d : Nat} {st : List Value} {Q : Option Value × jW → Prop} {ls : jL} {xs : List Value} {I : fI} {L : fL} {o : Nat} (ht : f_tg o = 2) : Wp d 95 78 ls (.ref o :: st) (f_W xs I L) Q = Wp d 95 81 ls (.ref (f_rf o 0) :: st) (f_W xs I L) Q := Wp.getR (ci := 2) (k := 0) e95_78 rfl (by decide) (by decide) rfl ht
theorem e95_81 : decode (j_co 95) 81 = .ok (.aload_n 0, 1) := by decide +kernel
set_option maxRecDepth 20000 in
theorem w95_81 {d : Nat} {st : List Value} {Q : Option Value × jW → Prop} {w : jW} {a1 : Option Value} {x : Nat} : Wp d 95 81 [some (.ref x), a1] (st) w Q = Wp d 95 82 [some (.ref x), a1] (.ref x :: st) w Q := Wp.loc e95_81 rfl rfl rfl
theorem e95_82 : decode (j_co 95) 82 = .ok (.getfield 39, 3) := by decide +kernel
set_option maxRecDepth 20000 in
theorem w95_82 {d : Nat} {st : List Value} {Q : Option Value × jW → Prop} {ls : jL} {xs : List Value} {I : fI} {L : fL} {o : Nat} (ht : f_tg o = 2) : Wp d 95 82 ls (.ref o :: st) (f_W xs I L) Q = Wp d 95 85 ls (.int (I o 3) :: st) (f_W xs I L) Q := Wp.getI (ci := 2) (k := 3) e95_82 rfl (by decide) (by decide) (by decide) ht
theorem e95_85 : decode (j_co 95) 85 = .ok (.aload_n 0, 1) := by decide +kernel
set_option maxRecDepth 20000 in
theorem w95_85 {d : Nat} {st : List Value} {Q : Option Value × jW → Prop} {w : jW} {a1 : Option Value} {x : Nat} : Wp d 95 85 [some (.ref x), a1] (st) w Q = Wp d 95 86 [some (.ref x), a1] (.ref x :: st) w Q := Wp.loc e95_85 rfl rfl rfl
theorem e95_86 : decode (j_co 95) 86 = .ok (.getfield 12, 3) := by decide +kernel
set_option maxRecDepth 20000 in
theorem w95_86 {d : Nat} {st : List Value} {Q : Option Value × jW → Prop} {ls : jL} {xs : List Value} {I : fI} {L : fL} {o : Nat} (ht : f_tg o = 2) : Wp d 95 86 ls (.ref o :: st) (f_W xs I L) Q = Wp d 95 89 ls (.ref (f_rf o 1) :: st) (f_W xs I L) Q := Wp.getR (ci := 2) (k := 1) e95_86 rfl (by decide) (by decide) rfl ht
theorem e95_89 : decode (j_co 95) 89 = .ok (.aload_n 0, 1) := by decide +kernel
set_option maxRecDepth 20000 in
theorem w95_89 {d : Nat} {st : List Value} {Q : Option Value × jW → Prop} {w : jW} {a1 : Option Value} {x : Nat} : Wp d 95 89 [some (.ref x), a1] (st) w Q = Wp d 95 90 [some (.ref x), a1] (.ref x :: st) w Q := Wp.loc e95_89 rfl rfl rfl
theorem e95_90 : decode (j_co 95) 90 = .ok (.getfield 18, 3) := by decide +kernel
set_option maxRecDepth 20000 in
theorem w95_90 {d : Nat} {st : List Value} {Q : Option Value × jW → Prop} {ls : jL} {xs : List Value} {I : fI} {L : fL} {o : Nat} (ht : f_tg o = 2) : Wp d 95 90 ls (.ref o :: st) (f_W xs I L) Q = Wp d 95 93 ls (.ref (f_rf o 2) :: st) (f_W xs I L) Q := Wp.getR (ci := 2) (k := 2) e95_90 rfl (by decide) (by decide) rfl ht
theorem e95_93 : decode (j_co 95) 93 = .ok (.invokevirtual 105, 3) := by decide +kernel
set_option maxRecDepth 20000 in
theorem w95_93 {d : Nat} {st : List Value} {Q : Option Value × jW → Prop} {ls : jL} {xs : List Value} {I : fI} {L : fL} {r : Nat} {x0 : Int32} {x1 : Nat} {x2 : Nat} (hs : j_sumc st ≤ 8) (ht : f_tg r = 5) : Wp (d + 1) 95 93 ls (.ref x2 :: .ref x1 :: .int x0 :: .ref r :: st) (f_W xs I L) Q = Wp d 42 0 [some (.ref r), some (.int x0), some (.ref x1), some (.ref x2), none] [] (f_W xs I L) (fun r1 => Wp (d + 1) 95 96 ls (r1.1.toList ++ st) r1.2 Q) := Wp.cv (y' := 42) (as := [.int x0, .ref x1, .ref x2]) e95_93 rfl (by decide) rfl (show 4 ≤ 5 by decide) (by decide) hs ht
theorem e95_96 : decode (j_co 95) 96 = .ok (.ifCond .ne 7, 3) := by decide +kernel
set_option maxRecDepth 20000 in
theorem w95_96 {d : Nat} {st : List Value} {Q : Option Value × jW → Prop} {ls : jL} {w : jW} {a : Int32} : Wp d 95 96 ls (.int a :: st) w Q = ((a = nI 0 → Wp d 95 99 ls st w Q) ∧ (¬ a = nI 0 → Wp d 95 103 ls st w Q)) := Wp.if2n (c := a = nI 0) (off := 7) e95_96 rfl rfl rfl rfl rfl
theorem e95_99 : decode (j_co 95) 99 = .ok (.iconst 1, 1) := by decide +kernel
set_option maxRecDepth 20000 in
theorem w95_99 {d : Nat} {st : List Value} {Q : Option Value × jW → Prop} {ls : jL} {w : jW} : Wp d 95 99 ls (st) w Q = Wp d 95 100 ls (.int (nI 1) :: st) w Q := Wp.alu e95_99 rfl rfl
theorem e95_100 : decode (j_co 95) 100 = .ok (.goto 4, 3) := by decide +kernel
set_option maxRecDepth 20000 in
theorem w95_100 {d : Nat} {st : List Value} {Q : Option Value × jW → Prop} {ls : jL} {w : jW} : Wp d 95 100 ls (st) w Q = Wp d 95 104 ls (st) w Q := Wp.br e95_100 (Or.inl rfl) rfl rfl rfl rfl
theorem e95_103 : decode (j_co 95) 103 = .ok (.iconst 0, 1) := by decide +kernel
set_option maxRecDepth 20000 in
theorem w95_103 {d : Nat} {st : List Value} {Q : Option Value × jW → Prop} {ls : jL} {w : jW} : Wp d 95 103 ls (st) w Q = Wp d 95 104 ls (.int (nI 0) :: st) w Q := Wp.alu e95_103 rfl rfl
theorem e95_104 : decode (j_co 95) 104 = .ok (.invokestatic 101, 3) := by decide +kernel
set_option maxRecDepth 20000 in
theorem w95_104 {d : Nat} {st : List Value} {Q : Option Value × jW → Prop} {ls : jL} {w : jW} {x0 : Int32} (hs : j_sumc st ≤ 8) : Wp (d + 1) 95 104 ls (.int x0 :: st) w Q = Wp d 55 0 [some (.int x0)] [] w (fun r1 => Wp (d + 1) 95 107 ls (r1.1.toList ++ st) r1.2 Q) := Wp.cs (kd := 4) (y' := 55) (as := [.int x0]) e95_104 rfl (by decide) (by decide) rfl (show 1 ≤ 1 by decide) hs
theorem e95_107 : decode (j_co 95) 107 = .ok (.ireturn, 1) := by decide +kernel
set_option maxRecDepth 20000 in
theorem w95_107 {d : Nat} {Q : Option Value × jW → Prop} {ls : jL} {w : jW} {x : Int32} : Wp d 95 107 ls [.int x] w Q = Q (some (.int x), w) := Wp.ret e95_107 rfl
theorem e95_108 : decode (j_co 95) 108 = .ok (.aload_n 0, 1) := by decide +kernel
set_option maxRecDepth 20000 in
theorem w95_108 {d : Nat} {st : List Value} {Q : Option Value × jW → Prop} {w : jW} {a1 : Option Value} {x : Nat} : Wp d 95 108 [some (.ref x), a1] (st) w Q = Wp d 95 109 [some (.ref x), a1] (.ref x :: st) w Q := Wp.loc e95_108 rfl rfl rfl
theorem e95_109 : decode (j_co 95) 109 = .ok (.invokevirtual 109, 3) := by decide +kernel
set_option maxRecDepth 20000 in
theorem w95_109 {d : Nat} {st : List Value} {Q : Option Value × jW → Prop} {ls : jL} {xs : List Value} {I : fI} {L : fL} {r : Nat} (hs : j_sumc st ≤ 8) (ht : f_tg r = 2) : Wp (d + 1) 95 109 ls (.ref r :: st) (f_W xs I L) Q = Wp d 96 0 [some (.ref r), none, none] [] (f_W xs I L) (fun r1 => Wp (d + 1) 95 112 ls (r1.1.toList ++ st) r1.2 Q) := Wp.cv (y' := 96) (as := []) e95_109 rfl (by decide) rfl (show 1 ≤ 3 by decide) (by decide) hs ht
theorem e95_112 : decode (j_co 95) 112 = .ok (.ireturn, 1) := by decide +kernel
set_option maxRecDepth 20000 in
theorem w95_112 {d : Nat} {Q : Option Value × jW → Prop} {ls : jL} {w : jW} {x : Int32} : Wp d 95 112 ls [.int x] w Q = Q (some (.int x), w) := Wp.ret e95_112 rfl
theorem e95_113 : decode (j_co 95) 113 = .ok (.aload_n 0, 1) := by decide +kernel
set_option maxRecDepth 20000 in
theorem w95_113 {d : Nat} {st : List Value} {Q : Option Value × jW → Prop} {w : jW} {a1 : Option Value} {x : Nat} : Wp d 95 113 [some (.ref x), a1] (st) w Q = Wp d 95 114 [some (.ref x), a1] (.ref x :: st) w Q := Wp.loc e95_113 rfl rfl rfl
theorem e95_114 : decode (j_co 95) 114 = .ok (.getfield 12, 3) := by decide +kernel
set_option maxRecDepth 20000 in
theorem w95_114 {d : Nat} {st : List Value} {Q : Option Value × jW → Prop} {ls : jL} {xs : List Value} {I : fI} {L : fL} {o : Nat} (ht : f_tg o = 2) : Wp d 95 114 ls (.ref o :: st) (f_W xs I L) Q = Wp d 95 117 ls (.ref (f_rf o 1) :: st) (f_W xs I L) Q := Wp.getR (ci := 2) (k := 1) e95_114 rfl (by decide) (by decide) rfl ht
theorem e95_117 : decode (j_co 95) 117 = .ok (.iload_n 1, 1) := by decide +kernel
set_option maxRecDepth 20000 in
theorem w95_117 {d : Nat} {st : List Value} {Q : Option Value × jW → Prop} {w : jW} {a0 : Option Value} {x : Int32} : Wp d 95 117 [a0, some (.int x)] (st) w Q = Wp d 95 118 [a0, some (.int x)] (.int x :: st) w Q := Wp.loc e95_117 rfl rfl rfl
theorem e95_118 : decode (j_co 95) 118 = .ok (.iconst 1, 1) := by decide +kernel
set_option maxRecDepth 20000 in
theorem w95_118 {d : Nat} {st : List Value} {Q : Option Value × jW → Prop} {ls : jL} {w : jW} : Wp d 95 118 ls (st) w Q = Wp d 95 119 ls (.int (nI 1) :: st) w Q := Wp.alu e95_118 rfl rfl
theorem e95_119 : decode (j_co 95) 119 = .ok (.isub, 1) := by decide +kernel
set_option maxRecDepth 20000 in
theorem w95_119 {d : Nat} {st : List Value} {Q : Option Value × jW → Prop} {ls : jL} {w : jW} {a b : Int32} : Wp d 95 119 ls (.int b :: .int a :: st) w Q = Wp d 95 120 ls (.int (a - b) :: st) w Q := Wp.alu e95_119 rfl rfl
theorem e95_120 : decode (j_co 95) 120 = .ok (.invokevirtual 62, 3) := by decide +kernel
set_option maxRecDepth 20000 in
theorem w95_120 {d : Nat} {st : List Value} {Q : Option Value × jW → Prop} {ls : jL} {xs : List Value} {I : fI} {L : fL} {r : Nat} {x0 : Int32} (hs : j_sumc st ≤ 8) (ht : f_tg r = 0) : Wp (d + 1) 95 120 ls (.int x0 :: .ref r :: st) (f_W xs I L) Q = Wp d 33 0 [some (.ref r), some (.int x0)] [] (f_W xs I L) (fun r1 => Wp (d + 1) 95 123 ls (r1.1.toList ++ st) r1.2 Q) := Wp.cv (y' := 33) (as := [.int x0]) e95_120 rfl (by decide) rfl (show 2 ≤ 2 by decide) (by decide) hs ht
theorem e95_123 : decode (j_co 95) 123 = .ok (.ireturn, 1) := by decide +kernel
set_option maxRecDepth 20000 in
theorem w95_123 {d : Nat} {Q : Option Value × jW → Prop} {ls : jL} {w : jW} {x : Int32} : Wp d 95 123 ls [.int x] w Q = Q (some (.int x), w) := Wp.ret e95_123 rfl
/-! Hand.openJumps -/
theorem e96_0 : decode (j_co 96) 0 = .ok (.iconst 0, 1) := by decide +kernel
set_option maxRecDepth 20000 in
theorem w96_0 {d : Nat} {st : List Value} {Q : Option Value × jW → Prop} {ls : jL} {w : jW} : Wp d 96 0 ls (st) w Q = Wp d 96 1 ls (.int (nI 0) :: st) w Q := Wp.alu e96_0 rfl rfl
theorem e96_1 : decode (j_co 96) 1 = .ok (.istore_n 1, 1) := by decide +kernel
set_option maxRecDepth 20000 in
theorem w96_1 {d : Nat} {st : List Value} {Q : Option Value × jW → Prop} {w : jW} {a0 a1 a2 : Option Value} {x : Int32} (h : j_cp a0) : Wp d 96 1 [a0, a1, a2] (.int x :: st) w Q = Wp d 96 2 [a0, some (.int x), a2] (st) w Q := Wp.loc e96_1 rfl rfl (v_stI (ls := [a0, a1, a2]) (k := 1) (show 1 < 3 by decide) h)
theorem e96_2 : decode (j_co 96) 2 = .ok (.iconst 0, 1) := by decide +kernel
set_option maxRecDepth 20000 in
theorem w96_2 {d : Nat} {st : List Value} {Q : Option Value × jW → Prop} {ls : jL} {w : jW} : Wp d 96 2 ls (st) w Q = Wp d 96 3 ls (.int (nI 0) :: st) w Q := Wp.alu e96_2 rfl rfl
theorem e96_3 : decode (j_co 96) 3 = .ok (.istore_n 2, 1) := by decide +kernel
set_option maxRecDepth 20000 in
theorem w96_3 {d : Nat} {st : List Value} {Q : Option Value × jW → Prop} {w : jW} {a0 a1 a2 : Option Value} {x : Int32} (h : j_cp a1) : Wp d 96 3 [a0, a1, a2] (.int x :: st) w Q = Wp d 96 4 [a0, a1, some (.int x)] (st) w Q := Wp.loc e96_3 rfl rfl (v_stI (ls := [a0, a1, a2]) (k := 2) (show 2 < 3 by decide) h)
theorem e96_4 : decode (j_co 96) 4 = .ok (.iload_n 2, 1) := by decide +kernel
set_option maxRecDepth 20000 in
theorem w96_4 {d : Nat} {st : List Value} {Q : Option Value × jW → Prop} {w : jW} {a0 a1 : Option Value} {x : Int32} : Wp d 96 4 [a0, a1, some (.int x)] (st) w Q = Wp d 96 5 [a0, a1, some (.int x)] (.int x :: st) w Q := Wp.loc e96_4 rfl rfl rfl
theorem e96_5 : decode (j_co 96) 5 = .ok (.aload_n 0, 1) := by decide +kernel
set_option maxRecDepth 20000 in
theorem w96_5 {d : Nat} {st : List Value} {Q : Option Value × jW → Prop} {w : jW} {a1 a2 : Option Value} {x : Nat} : Wp d 96 5 [some (.ref x), a1, a2] (st) w Q = Wp d 96 6 [some (.ref x), a1, a2] (.ref x :: st) w Q := Wp.loc e96_5 rfl rfl rfl
theorem e96_6 : decode (j_co 96) 6 = .ok (.getfield 21, 3) := by decide +kernel
set_option maxRecDepth 20000 in
theorem w96_6 {d : Nat} {st : List Value} {Q : Option Value × jW → Prop} {ls : jL} {xs : List Value} {I : fI} {L : fL} {o : Nat} (ht : f_tg o = 2) : Wp d 96 6 ls (.ref o :: st) (f_W xs I L) Q = Wp d 96 9 ls (.ref (f_rf o 0) :: st) (f_W xs I L) Q := Wp.getR (ci := 2) (k := 0) e96_6 rfl (by decide) (by decide) rfl ht
theorem e96_9 : decode (j_co 96) 9 = .ok (.getfield 120, 3) := by decide +kernel
set_option maxRecDepth 20000 in
theorem w96_9 {d : Nat} {st : List Value} {Q : Option Value × jW → Prop} {ls : jL} {xs : List Value} {I : fI} {L : fL} {o : Nat} (ht : f_tg o = 5) : Wp d 96 9 ls (.ref o :: st) (f_W xs I L) Q = Wp d 96 12 ls (.int (I o 5) :: st) (f_W xs I L) Q := Wp.getI (ci := 5) (k := 5) e96_9 rfl (by decide) (by decide) (by decide) ht
theorem e96_12 : decode (j_co 96) 12 = .ok (.if_icmp .ge 58, 3) := by decide +kernel
set_option maxRecDepth 20000 in
theorem w96_12 {d : Nat} {st : List Value} {Q : Option Value × jW → Prop} {ls : jL} {w : jW} {a b : Int32} : Wp d 96 12 ls (.int b :: .int a :: st) w Q = ((b ≤ a → Wp d 96 70 ls st w Q) ∧ (¬ b ≤ a → Wp d 96 15 ls st w Q)) := Wp.if2 (c := b ≤ a) (off := 58) e96_12 rfl rfl rfl rfl rfl
theorem e96_15 : decode (j_co 96) 15 = .ok (.aload_n 0, 1) := by decide +kernel
set_option maxRecDepth 20000 in
theorem w96_15 {d : Nat} {st : List Value} {Q : Option Value × jW → Prop} {w : jW} {a1 a2 : Option Value} {x : Nat} : Wp d 96 15 [some (.ref x), a1, a2] (st) w Q = Wp d 96 16 [some (.ref x), a1, a2] (.ref x :: st) w Q := Wp.loc e96_15 rfl rfl rfl
theorem e96_16 : decode (j_co 96) 16 = .ok (.getfield 21, 3) := by decide +kernel
set_option maxRecDepth 20000 in
theorem w96_16 {d : Nat} {st : List Value} {Q : Option Value × jW → Prop} {ls : jL} {xs : List Value} {I : fI} {L : fL} {o : Nat} (ht : f_tg o = 2) : Wp d 96 16 ls (.ref o :: st) (f_W xs I L) Q = Wp d 96 19 ls (.ref (f_rf o 0) :: st) (f_W xs I L) Q := Wp.getR (ci := 2) (k := 0) e96_16 rfl (by decide) (by decide) rfl ht
theorem e96_19 : decode (j_co 96) 19 = .ok (.getfield 123, 3) := by decide +kernel
set_option maxRecDepth 20000 in
theorem w96_19 {d : Nat} {st : List Value} {Q : Option Value × jW → Prop} {ls : jL} {xs : List Value} {I : fI} {L : fL} {o : Nat} (ht : f_tg o = 5) : Wp d 96 19 ls (.ref o :: st) (f_W xs I L) Q = Wp d 96 22 ls (.ref (f_rf o 1) :: st) (f_W xs I L) Q := Wp.getR (ci := 5) (k := 1) e96_19 rfl (by decide) (by decide) rfl ht
theorem e96_22 : decode (j_co 96) 22 = .ok (.iload_n 2, 1) := by decide +kernel
set_option maxRecDepth 20000 in
theorem w96_22 {d : Nat} {st : List Value} {Q : Option Value × jW → Prop} {w : jW} {a0 a1 : Option Value} {x : Int32} : Wp d 96 22 [a0, a1, some (.int x)] (st) w Q = Wp d 96 23 [a0, a1, some (.int x)] (.int x :: st) w Q := Wp.loc e96_22 rfl rfl rfl
theorem e96_23 : decode (j_co 96) 23 = .ok (.aaload, 1) := by decide +kernel
set_option maxRecDepth 20000 in
theorem w96_23 {d : Nat} {st : List Value} {Q : Option Value × jW → Prop} {ls : jL} {xs : List Value} {I : fI} {L : fL} {o : Nat} {i : Int32} (ht : 103 ≤ f_tg o ∧ f_tg o ≤ 106) (hi : ¬ (i < 0 ∨ f_ln o ≤ i.toNatClampNeg)) : Wp d 96 23 ls (.int i :: .ref o :: st) (f_W xs I L) Q = Wp d 96 24 ls (.ref (f_rf o i.toNatClampNeg) :: st) (f_W xs I L) Q := Wp.aald e96_23 rfl ht hi
theorem e96_24 : decode (j_co 96) 24 = .ok (.getfield 70, 3) := by decide +kernel
set_option maxRecDepth 20000 in
theorem w96_24 {d : Nat} {st : List Value} {Q : Option Value × jW → Prop} {ls : jL} {xs : List Value} {I : fI} {L : fL} {o : Nat} (ht : f_tg o = 4) : Wp d 96 24 ls (.ref o :: st) (f_W xs I L) Q = Wp d 96 27 ls (.int (I o 3) :: st) (f_W xs I L) Q := Wp.getI (ci := 4) (k := 3) e96_24 rfl (by decide) (by decide) (by decide) ht
theorem e96_27 : decode (j_co 96) 27 = .ok (.aload_n 0, 1) := by decide +kernel
set_option maxRecDepth 20000 in
theorem w96_27 {d : Nat} {st : List Value} {Q : Option Value × jW → Prop} {w : jW} {a1 a2 : Option Value} {x : Nat} : Wp d 96 27 [some (.ref x), a1, a2] (st) w Q = Wp d 96 28 [some (.ref x), a1, a2] (.ref x :: st) w Q := Wp.loc e96_27 rfl rfl rfl
theorem e96_28 : decode (j_co 96) 28 = .ok (.getfield 39, 3) := by decide +kernel
set_option maxRecDepth 20000 in
theorem w96_28 {d : Nat} {st : List Value} {Q : Option Value × jW → Prop} {ls : jL} {xs : List Value} {I : fI} {L : fL} {o : Nat} (ht : f_tg o = 2) : Wp d 96 28 ls (.ref o :: st) (f_W xs I L) Q = Wp d 96 31 ls (.int (I o 3) :: st) (f_W xs I L) Q := Wp.getI (ci := 2) (k := 3) e96_28 rfl (by decide) (by decide) (by decide) ht
theorem e96_31 : decode (j_co 96) 31 = .ok (.if_icmp .ne 33, 3) := by decide +kernel
set_option maxRecDepth 20000 in
theorem w96_31 {d : Nat} {st : List Value} {Q : Option Value × jW → Prop} {ls : jL} {w : jW} {a b : Int32} : Wp d 96 31 ls (.int b :: .int a :: st) w Q = ((a = b → Wp d 96 34 ls st w Q) ∧ (¬ a = b → Wp d 96 64 ls st w Q)) := Wp.if2n (c := a = b) (off := 33) e96_31 rfl rfl rfl rfl rfl
theorem e96_34 : decode (j_co 96) 34 = .ok (.aload_n 0, 1) := by decide +kernel
set_option maxRecDepth 20000 in
theorem w96_34 {d : Nat} {st : List Value} {Q : Option Value × jW → Prop} {w : jW} {a1 a2 : Option Value} {x : Nat} : Wp d 96 34 [some (.ref x), a1, a2] (st) w Q = Wp d 96 35 [some (.ref x), a1, a2] (.ref x :: st) w Q := Wp.loc e96_34 rfl rfl rfl
theorem e96_35 : decode (j_co 96) 35 = .ok (.getfield 21, 3) := by decide +kernel
set_option maxRecDepth 20000 in
theorem w96_35 {d : Nat} {st : List Value} {Q : Option Value × jW → Prop} {ls : jL} {xs : List Value} {I : fI} {L : fL} {o : Nat} (ht : f_tg o = 2) : Wp d 96 35 ls (.ref o :: st) (f_W xs I L) Q = Wp d 96 38 ls (.ref (f_rf o 0) :: st) (f_W xs I L) Q := Wp.getR (ci := 2) (k := 0) e96_35 rfl (by decide) (by decide) rfl ht
theorem e96_38 : decode (j_co 96) 38 = .ok (.aload_n 0, 1) := by decide +kernel
set_option maxRecDepth 20000 in
theorem w96_38 {d : Nat} {st : List Value} {Q : Option Value × jW → Prop} {w : jW} {a1 a2 : Option Value} {x : Nat} : Wp d 96 38 [some (.ref x), a1, a2] (st) w Q = Wp d 96 39 [some (.ref x), a1, a2] (.ref x :: st) w Q := Wp.loc e96_38 rfl rfl rfl
theorem e96_39 : decode (j_co 96) 39 = .ok (.getfield 21, 3) := by decide +kernel
set_option maxRecDepth 20000 in
theorem w96_39 {d : Nat} {st : List Value} {Q : Option Value × jW → Prop} {ls : jL} {xs : List Value} {I : fI} {L : fL} {o : Nat} (ht : f_tg o = 2) : Wp d 96 39 ls (.ref o :: st) (f_W xs I L) Q = Wp d 96 42 ls (.ref (f_rf o 0) :: st) (f_W xs I L) Q := Wp.getR (ci := 2) (k := 0) e96_39 rfl (by decide) (by decide) rfl ht
theorem e96_42 : decode (j_co 96) 42 = .ok (.getfield 123, 3) := by decide +kernel
set_option maxRecDepth 20000 in
theorem w96_42 {d : Nat} {st : List Value} {Q : Option Value × jW → Prop} {ls : jL} {xs : List Value} {I : fI} {L : fL} {o : Nat} (ht : f_tg o = 5) : Wp d 96 42 ls (.ref o :: st) (f_W xs I L) Q = Wp d 96 45 ls (.ref (f_rf o 1) :: st) (f_W xs I L) Q := Wp.getR (ci := 5) (k := 1) e96_42 rfl (by decide) (by decide) rfl ht
theorem e96_45 : decode (j_co 96) 45 = .ok (.iload_n 2, 1) := by decide +kernel
set_option maxRecDepth 20000 in
theorem w96_45 {d : Nat} {st : List Value} {Q : Option Value × jW → Prop} {w : jW} {a0 a1 : Option Value} {x : Int32} : Wp d 96 45 [a0, a1, some (.int x)] (st) w Q = Wp d 96 46 [a0, a1, some (.int x)] (.int x :: st) w Q := Wp.loc e96_45 rfl rfl rfl
theorem e96_46 : decode (j_co 96) 46 = .ok (.aaload, 1) := by decide +kernel
set_option maxRecDepth 20000 in
theorem w96_46 {d : Nat} {st : List Value} {Q : Option Value × jW → Prop} {ls : jL} {xs : List Value} {I : fI} {L : fL} {o : Nat} {i : Int32} (ht : 103 ≤ f_tg o ∧ f_tg o ≤ 106) (hi : ¬ (i < 0 ∨ f_ln o ≤ i.toNatClampNeg)) : Wp d 96 46 ls (.int i :: .ref o :: st) (f_W xs I L) Q = Wp d 96 47 ls (.ref (f_rf o i.toNatClampNeg) :: st) (f_W xs I L) Q := Wp.aald e96_46 rfl ht hi
theorem e96_47 : decode (j_co 96) 47 = .ok (.aload_n 0, 1) := by decide +kernel
set_option maxRecDepth 20000 in
theorem w96_47 {d : Nat} {st : List Value} {Q : Option Value × jW → Prop} {w : jW} {a1 a2 : Option Value} {x : Nat} : Wp d 96 47 [some (.ref x), a1, a2] (st) w Q = Wp d 96 48 [some (.ref x), a1, a2] (.ref x :: st) w Q := Wp.loc e96_47 rfl rfl rfl
theorem e96_48 : decode (j_co 96) 48 = .ok (.getfield 12, 3) := by decide +kernel
set_option maxRecDepth 20000 in
theorem w96_48 {d : Nat} {st : List Value} {Q : Option Value × jW → Prop} {ls : jL} {xs : List Value} {I : fI} {L : fL} {o : Nat} (ht : f_tg o = 2) : Wp d 96 48 ls (.ref o :: st) (f_W xs I L) Q = Wp d 96 51 ls (.ref (f_rf o 1) :: st) (f_W xs I L) Q := Wp.getR (ci := 2) (k := 1) e96_48 rfl (by decide) (by decide) rfl ht
theorem e96_51 : decode (j_co 96) 51 = .ok (.aload_n 0, 1) := by decide +kernel
set_option maxRecDepth 20000 in
theorem w96_51 {d : Nat} {st : List Value} {Q : Option Value × jW → Prop} {w : jW} {a1 a2 : Option Value} {x : Nat} : Wp d 96 51 [some (.ref x), a1, a2] (st) w Q = Wp d 96 52 [some (.ref x), a1, a2] (.ref x :: st) w Q := Wp.loc e96_51 rfl rfl rfl
theorem e96_52 : decode (j_co 96) 52 = .ok (.getfield 18, 3) := by decide +kernel
set_option maxRecDepth 20000 in
theorem w96_52 {d : Nat} {st : List Value} {Q : Option Value × jW → Prop} {ls : jL} {xs : List Value} {I : fI} {L : fL} {o : Nat} (ht : f_tg o = 2) : Wp d 96 52 ls (.ref o :: st) (f_W xs I L) Q = Wp d 96 55 ls (.ref (f_rf o 2) :: st) (f_W xs I L) Q := Wp.getR (ci := 2) (k := 2) e96_52 rfl (by decide) (by decide) rfl ht
theorem e96_55 : decode (j_co 96) 55 = .ok (.invokevirtual 127, 3) := by decide +kernel
set_option maxRecDepth 20000 in
theorem w96_55 {d : Nat} {st : List Value} {Q : Option Value × jW → Prop} {ls : jL} {xs : List Value} {I : fI} {L : fL} {r : Nat} {x0 : Nat} {x1 : Nat} {x2 : Nat} (hs : j_sumc st ≤ 8) (ht : f_tg r = 5) : Wp (d + 1) 96 55 ls (.ref x2 :: .ref x1 :: .ref x0 :: .ref r :: st) (f_W xs I L) Q = Wp d 47 0 [some (.ref r), some (.ref x0), some (.ref x1), some (.ref x2), none] [] (f_W xs I L) (fun r1 => Wp (d + 1) 96 58 ls (r1.1.toList ++ st) r1.2 Q) := Wp.cv (y' := 47) (as := [.ref x0, .ref x1, .ref x2]) e96_55 rfl (by decide) rfl (show 4 ≤ 5 by decide) (by decide) hs ht
theorem e96_58 : decode (j_co 96) 58 = .ok (.ifCond .eq 6, 3) := by decide +kernel
set_option maxRecDepth 20000 in
theorem w96_58 {d : Nat} {st : List Value} {Q : Option Value × jW → Prop} {ls : jL} {w : jW} {a : Int32} : Wp d 96 58 ls (.int a :: st) w Q = ((a = nI 0 → Wp d 96 64 ls st w Q) ∧ (¬ a = nI 0 → Wp d 96 61 ls st w Q)) := Wp.if2 (c := a = nI 0) (off := 6) e96_58 rfl rfl rfl rfl rfl
theorem e96_61 : decode (j_co 96) 61 = .ok (.iinc 1 1, 3) := by decide +kernel
set_option maxRecDepth 20000 in
theorem w96_61 {d : Nat} {st : List Value} {Q : Option Value × jW → Prop} {w : jW} {a0 a2 : Option Value} {x : Int32} (h : j_cp a0) : Wp d 96 61 [a0, some (.int x), a2] (st) w Q = Wp d 96 64 [a0, some (.int (x + nI 1)), a2] (st) w Q := Wp.loc e96_61 rfl rfl (v_inc (ls := [a0, some (.int x), a2]) (k := 1) (n := 1) rfl (show 1 < 3 by decide) h)
theorem e96_64 : decode (j_co 96) 64 = .ok (.iinc 2 1, 3) := by decide +kernel
set_option maxRecDepth 20000 in
theorem w96_64 {d : Nat} {st : List Value} {Q : Option Value × jW → Prop} {w : jW} {a0 a1 : Option Value} {x : Int32} (h : j_cp a1) : Wp d 96 64 [a0, a1, some (.int x)] (st) w Q = Wp d 96 67 [a0, a1, some (.int (x + nI 1))] (st) w Q := Wp.loc e96_64 rfl rfl (v_inc (ls := [a0, a1, some (.int x)]) (k := 2) (n := 1) rfl (show 2 < 3 by decide) h)
theorem e96_67 : decode (j_co 96) 67 = .ok (.goto (-63), 3) := by decide +kernel
set_option maxRecDepth 20000 in
theorem w96_67 {d : Nat} {st : List Value} {Q : Option Value × jW → Prop} {ls : jL} {w : jW} : Wp d 96 67 ls (st) w Q = Wp d 96 4 ls (st) w Q := Wp.br e96_67 (Or.inl rfl) rfl rfl rfl rfl
theorem e96_70 : decode (j_co 96) 70 = .ok (.iload_n 1, 1) := by decide +kernel
set_option maxRecDepth 20000 in
theorem w96_70 {d : Nat} {st : List Value} {Q : Option Value × jW → Prop} {w : jW} {a0 a2 : Option Value} {x : Int32} : Wp d 96 70 [a0, some (.int x), a2] (st) w Q = Wp d 96 71 [a0, some (.int x), a2] (.int x :: st) w Q := Wp.loc e96_70 rfl rfl rfl
theorem e96_71 : decode (j_co 96) 71 = .ok (.ireturn, 1) := by decide +kernel
set_option maxRecDepth 20000 in
theorem w96_71 {d : Nat} {Q : Option Value × jW → Prop} {ls : jL} {w : jW} {x : Int32} : Wp d 96 71 ls [.int x] w Q = Q (some (.int x), w) := Wp.ret e96_71 rfl
/-! Sheet.renew -/
theorem e100_0 : decode (j_co 100) 0 = .ok (.aload_n 0, 1) := by decide +kernel
set_option maxRecDepth 20000 in
theorem w100_0 {d : Nat} {st : List Value} {Q : Option Value × jW → Prop} {w : jW} {a1 a2 a3 : Option Value} {x : Nat} : Wp d 100 0 [some (.ref x), a1, a2, a3] (st) w Q = Wp d 100 1 [some (.ref x), a1, a2, a3] (.ref x :: st) w Q := Wp.loc e100_0 rfl rfl rfl
theorem e100_1 : decode (j_co 100) 1 = .ok (.iload_n 1, 1) := by decide +kernel
set_option maxRecDepth 20000 in
theorem w100_1 {d : Nat} {st : List Value} {Q : Option Value × jW → Prop} {w : jW} {a0 a2 a3 : Option Value} {x : Int32} : Wp d 100 1 [a0, some (.int x), a2, a3] (st) w Q = Wp d 100 2 [a0, some (.int x), a2, a3] (.int x :: st) w Q := Wp.loc e100_1 rfl rfl rfl
theorem e100_2 : decode (j_co 100) 2 = .ok (.putfield 15, 3) := by decide +kernel
set_option maxRecDepth 20000 in
theorem w100_2 {d : Nat} {st : List Value} {Q : Option Value × jW → Prop} {ls : jL} {xs : List Value} {I : fI} {L : fL} {o : Nat} {x : Int32} (ht : f_tg o = 8) : Wp d 100 2 ls (.int x :: .ref o :: st) (f_W xs I L) Q = Wp d 100 5 ls (st) (f_W xs (f_up I o 1 x) L) Q := Wp.putI (ci := 8) (k := 1) e100_2 rfl (by decide) (by decide) rfl (by decide) ht
theorem e100_5 : decode (j_co 100) 5 = .ok (.aload_n 0, 1) := by decide +kernel
set_option maxRecDepth 20000 in
theorem w100_5 {d : Nat} {st : List Value} {Q : Option Value × jW → Prop} {w : jW} {a1 a2 a3 : Option Value} {x : Nat} : Wp d 100 5 [some (.ref x), a1, a2, a3] (st) w Q = Wp d 100 6 [some (.ref x), a1, a2, a3] (.ref x :: st) w Q := Wp.loc e100_5 rfl rfl rfl
theorem e100_6 : decode (j_co 100) 6 = .ok (.iload_n 2, 1) := by decide +kernel
set_option maxRecDepth 20000 in
theorem w100_6 {d : Nat} {st : List Value} {Q : Option Value × jW → Prop} {w : jW} {a0 a1 a3 : Option Value} {x : Int32} : Wp d 100 6 [a0, a1, some (.int x), a3] (st) w Q = Wp d 100 7 [a0, a1, some (.int x), a3] (.int x :: st) w Q := Wp.loc e100_6 rfl rfl rfl
theorem e100_7 : decode (j_co 100) 7 = .ok (.bipush 60, 2) := by decide +kernel
set_option maxRecDepth 20000 in
theorem w100_7 {d : Nat} {st : List Value} {Q : Option Value × jW → Prop} {ls : jL} {w : jW} : Wp d 100 7 ls (st) w Q = Wp d 100 9 ls (.int (nI 60) :: st) w Q := Wp.alu e100_7 rfl rfl
theorem e100_9 : decode (j_co 100) 9 = .ok (.invokestatic 19, 3) := by decide +kernel
set_option maxRecDepth 20000 in
theorem w100_9 {d : Nat} {st : List Value} {Q : Option Value × jW → Prop} {ls : jL} {w : jW} {a b : Int32} (hs : j_sumc st ≤ 8) : Wp (d + 1) 100 9 ls (.int b :: .int a :: st) w Q = Wp (d + 1) 100 12 ls (.int (if b < a then b else a) :: st) w Q := Wp.mn e100_9 rfl hs
theorem e100_12 : decode (j_co 100) 12 = .ok (.putfield 25, 3) := by decide +kernel
set_option maxRecDepth 20000 in
theorem w100_12 {d : Nat} {st : List Value} {Q : Option Value × jW → Prop} {ls : jL} {xs : List Value} {I : fI} {L : fL} {o : Nat} {x : Int32} (ht : f_tg o = 8) : Wp d 100 12 ls (.int x :: .ref o :: st) (f_W xs I L) Q = Wp d 100 15 ls (st) (f_W xs (f_up I o 2 x) L) Q := Wp.putI (ci := 8) (k := 2) e100_12 rfl (by decide) (by decide) rfl (by decide) ht
theorem e100_15 : decode (j_co 100) 15 = .ok (.iconst 0, 1) := by decide +kernel
set_option maxRecDepth 20000 in
theorem w100_15 {d : Nat} {st : List Value} {Q : Option Value × jW → Prop} {ls : jL} {w : jW} : Wp d 100 15 ls (st) w Q = Wp d 100 16 ls (.int (nI 0) :: st) w Q := Wp.alu e100_15 rfl rfl
theorem e100_16 : decode (j_co 100) 16 = .ok (.istore_n 3, 1) := by decide +kernel
set_option maxRecDepth 20000 in
theorem w100_16 {d : Nat} {st : List Value} {Q : Option Value × jW → Prop} {w : jW} {a0 a1 a2 a3 : Option Value} {x : Int32} (h : j_cp a2) : Wp d 100 16 [a0, a1, a2, a3] (.int x :: st) w Q = Wp d 100 17 [a0, a1, a2, some (.int x)] (st) w Q := Wp.loc e100_16 rfl rfl (v_stI (ls := [a0, a1, a2, a3]) (k := 3) (show 3 < 4 by decide) h)
theorem e100_17 : decode (j_co 100) 17 = .ok (.iload_n 3, 1) := by decide +kernel
set_option maxRecDepth 20000 in
theorem w100_17 {d : Nat} {st : List Value} {Q : Option Value × jW → Prop} {w : jW} {a0 a1 a2 : Option Value} {x : Int32} : Wp d 100 17 [a0, a1, a2, some (.int x)] (st) w Q = Wp d 100 18 [a0, a1, a2, some (.int x)] (.int x :: st) w Q := Wp.loc e100_17 rfl rfl rfl
theorem e100_18 : decode (j_co 100) 18 = .ok (.bipush 60, 2) := by decide +kernel
set_option maxRecDepth 20000 in
theorem w100_18 {d : Nat} {st : List Value} {Q : Option Value × jW → Prop} {ls : jL} {w : jW} : Wp d 100 18 ls (st) w Q = Wp d 100 20 ls (.int (nI 60) :: st) w Q := Wp.alu e100_18 rfl rfl
theorem e100_20 : decode (j_co 100) 20 = .ok (.if_icmp .ge 16, 3) := by decide +kernel
set_option maxRecDepth 20000 in
theorem w100_20 {d : Nat} {st : List Value} {Q : Option Value × jW → Prop} {ls : jL} {w : jW} {a b : Int32} : Wp d 100 20 ls (.int b :: .int a :: st) w Q = ((b ≤ a → Wp d 100 36 ls st w Q) ∧ (¬ b ≤ a → Wp d 100 23 ls st w Q)) := Wp.if2 (c := b ≤ a) (off := 16) e100_20 rfl rfl rfl rfl rfl
theorem e100_23 : decode (j_co 100) 23 = .ok (.aload_n 0, 1) := by decide +kernel
set_option maxRecDepth 20000 in
theorem w100_23 {d : Nat} {st : List Value} {Q : Option Value × jW → Prop} {w : jW} {a1 a2 a3 : Option Value} {x : Nat} : Wp d 100 23 [some (.ref x), a1, a2, a3] (st) w Q = Wp d 100 24 [some (.ref x), a1, a2, a3] (.ref x :: st) w Q := Wp.loc e100_23 rfl rfl rfl
theorem e100_24 : decode (j_co 100) 24 = .ok (.getfield 9, 3) := by decide +kernel
set_option maxRecDepth 20000 in
theorem w100_24 {d : Nat} {st : List Value} {Q : Option Value × jW → Prop} {ls : jL} {xs : List Value} {I : fI} {L : fL} {o : Nat} (ht : f_tg o = 8) : Wp d 100 24 ls (.ref o :: st) (f_W xs I L) Q = Wp d 100 27 ls (.ref (f_rf o 0) :: st) (f_W xs I L) Q := Wp.getR (ci := 8) (k := 0) e100_24 rfl (by decide) (by decide) rfl ht
theorem e100_27 : decode (j_co 100) 27 = .ok (.iload_n 3, 1) := by decide +kernel
set_option maxRecDepth 20000 in
theorem w100_27 {d : Nat} {st : List Value} {Q : Option Value × jW → Prop} {w : jW} {a0 a1 a2 : Option Value} {x : Int32} : Wp d 100 27 [a0, a1, a2, some (.int x)] (st) w Q = Wp d 100 28 [a0, a1, a2, some (.int x)] (.int x :: st) w Q := Wp.loc e100_27 rfl rfl rfl
theorem e100_28 : decode (j_co 100) 28 = .ok (.iconst 0, 1) := by decide +kernel
set_option maxRecDepth 20000 in
theorem w100_28 {d : Nat} {st : List Value} {Q : Option Value × jW → Prop} {ls : jL} {w : jW} : Wp d 100 28 ls (st) w Q = Wp d 100 29 ls (.int (nI 0) :: st) w Q := Wp.alu e100_28 rfl rfl
theorem e100_29 : decode (j_co 100) 29 = .ok (.iastore, 1) := by decide +kernel
set_option maxRecDepth 20000 in
theorem w100_29 {d : Nat} {st : List Value} {Q : Option Value × jW → Prop} {ls : jL} {xs : List Value} {I : fI} {L : fL} {o : Nat} {i x : Int32} (ht : f_tg o = 100) (hi : ¬ (i < 0 ∨ f_ln o ≤ i.toNatClampNeg)) : Wp d 100 29 ls (.int x :: .int i :: .ref o :: st) (f_W xs I L) Q = Wp d 100 30 ls (st) (f_W xs (f_up I o i.toNatClampNeg x) L) Q := Wp.iast e100_29 ht hi
theorem e100_30 : decode (j_co 100) 30 = .ok (.iinc 3 1, 3) := by decide +kernel
set_option maxRecDepth 20000 in
theorem w100_30 {d : Nat} {st : List Value} {Q : Option Value × jW → Prop} {w : jW} {a0 a1 a2 : Option Value} {x : Int32} (h : j_cp a2) : Wp d 100 30 [a0, a1, a2, some (.int x)] (st) w Q = Wp d 100 33 [a0, a1, a2, some (.int (x + nI 1))] (st) w Q := Wp.loc e100_30 rfl rfl (v_inc (ls := [a0, a1, a2, some (.int x)]) (k := 3) (n := 1) rfl (show 3 < 4 by decide) h)
theorem e100_33 : decode (j_co 100) 33 = .ok (.goto (-16), 3) := by decide +kernel
set_option maxRecDepth 20000 in
theorem w100_33 {d : Nat} {st : List Value} {Q : Option Value × jW → Prop} {ls : jL} {w : jW} : Wp d 100 33 ls (st) w Q = Wp d 100 17 ls (st) w Q := Wp.br e100_33 (Or.inl rfl) rfl rfl rfl rfl
theorem e100_36 : decode (j_co 100) 36 = .ok (.return_, 1) := by decide +kernel
set_option maxRecDepth 20000 in
theorem w100_36 {d : Nat} {Q : Option Value × jW → Prop} {ls : jL} {w : jW} : Wp d 100 36 ls [] w Q = Q (none, w) := Wp.ret e100_36 rfl
/-! Sheet.write -/
theorem e102_0 : decode (j_co 102) 0 = .ok (.aload_n 0, 1) := by decide +kernel
set_option maxRecDepth 20000 in
theorem w102_0 {d : Nat} {st : List Value} {Q : Option Value × jW → Prop} {w : jW} {a1 a2 : Option Value} {x : Nat} : Wp d 102 0 [some (.ref x), a1, a2] (st) w Q = Wp d 102 1 [some (.ref x), a1, a2] (.ref x :: st) w Q := Wp.loc e102_0 rfl rfl rfl
theorem e102_1 : decode (j_co 102) 1 = .ok (.getfield 15, 3) := by decide +kernel
set_option maxRecDepth 20000 in
theorem w102_1 {d : Nat} {st : List Value} {Q : Option Value × jW → Prop} {ls : jL} {xs : List Value} {I : fI} {L : fL} {o : Nat} (ht : f_tg o = 8) : Wp d 102 1 ls (.ref o :: st) (f_W xs I L) Q = Wp d 102 4 ls (.int (I o 1) :: st) (f_W xs I L) Q := Wp.getI (ci := 8) (k := 1) e102_1 rfl (by decide) (by decide) (by decide) ht
theorem e102_4 : decode (j_co 102) 4 = .ok (.bipush (-4), 2) := by decide +kernel
set_option maxRecDepth 20000 in
theorem w102_4 {d : Nat} {st : List Value} {Q : Option Value × jW → Prop} {ls : jL} {w : jW} : Wp d 102 4 ls (st) w Q = Wp d 102 6 ls (.int (-4) :: st) w Q := Wp.alu e102_4 rfl rfl
theorem e102_6 : decode (j_co 102) 6 = .ok (.if_icmp .ne 6, 3) := by decide +kernel
set_option maxRecDepth 20000 in
theorem w102_6 {d : Nat} {st : List Value} {Q : Option Value × jW → Prop} {ls : jL} {w : jW} {a b : Int32} : Wp d 102 6 ls (.int b :: .int a :: st) w Q = ((a = b → Wp d 102 9 ls st w Q) ∧ (¬ a = b → Wp d 102 12 ls st w Q)) := Wp.if2n (c := a = b) (off := 6) e102_6 rfl rfl rfl rfl rfl
theorem e102_9 : decode (j_co 102) 9 = .ok (.bipush (-11), 2) := by decide +kernel
set_option maxRecDepth 20000 in
theorem w102_9 {d : Nat} {st : List Value} {Q : Option Value × jW → Prop} {ls : jL} {w : jW} : Wp d 102 9 ls (st) w Q = Wp d 102 11 ls (.int (-11) :: st) w Q := Wp.alu e102_9 rfl rfl
theorem e102_11 : decode (j_co 102) 11 = .ok (.ireturn, 1) := by decide +kernel
set_option maxRecDepth 20000 in
theorem w102_11 {d : Nat} {Q : Option Value × jW → Prop} {ls : jL} {w : jW} {x : Int32} : Wp d 102 11 ls [.int x] w Q = Q (some (.int x), w) := Wp.ret e102_11 rfl
theorem e102_12 : decode (j_co 102) 12 = .ok (.aload_n 0, 1) := by decide +kernel
set_option maxRecDepth 20000 in
theorem w102_12 {d : Nat} {st : List Value} {Q : Option Value × jW → Prop} {w : jW} {a1 a2 : Option Value} {x : Nat} : Wp d 102 12 [some (.ref x), a1, a2] (st) w Q = Wp d 102 13 [some (.ref x), a1, a2] (.ref x :: st) w Q := Wp.loc e102_12 rfl rfl rfl
theorem e102_13 : decode (j_co 102) 13 = .ok (.iload_n 1, 1) := by decide +kernel
set_option maxRecDepth 20000 in
theorem w102_13 {d : Nat} {st : List Value} {Q : Option Value × jW → Prop} {w : jW} {a0 a2 : Option Value} {x : Int32} : Wp d 102 13 [a0, some (.int x), a2] (st) w Q = Wp d 102 14 [a0, some (.int x), a2] (.int x :: st) w Q := Wp.loc e102_13 rfl rfl rfl
theorem e102_14 : decode (j_co 102) 14 = .ok (.invokevirtual 28, 3) := by decide +kernel
set_option maxRecDepth 20000 in
theorem w102_14 {d : Nat} {st : List Value} {Q : Option Value × jW → Prop} {ls : jL} {xs : List Value} {I : fI} {L : fL} {r : Nat} {x0 : Int32} (hs : j_sumc st ≤ 8) (ht : f_tg r = 8) : Wp (d + 1) 102 14 ls (.int x0 :: .ref r :: st) (f_W xs I L) Q = Wp d 103 0 [some (.ref r), some (.int x0)] [] (f_W xs I L) (fun r1 => Wp (d + 1) 102 17 ls (r1.1.toList ++ st) r1.2 Q) := Wp.cv (y' := 103) (as := [.int x0]) e102_14 rfl (by decide) rfl (show 2 ≤ 2 by decide) (by decide) hs ht
theorem e102_17 : decode (j_co 102) 17 = .ok (.ifCond .ne 6, 3) := by decide +kernel
set_option maxRecDepth 20000 in
theorem w102_17 {d : Nat} {st : List Value} {Q : Option Value × jW → Prop} {ls : jL} {w : jW} {a : Int32} : Wp d 102 17 ls (.int a :: st) w Q = ((a = nI 0 → Wp d 102 20 ls st w Q) ∧ (¬ a = nI 0 → Wp d 102 23 ls st w Q)) := Wp.if2n (c := a = nI 0) (off := 6) e102_17 rfl rfl rfl rfl rfl
theorem e102_20 : decode (j_co 102) 20 = .ok (.bipush (-12), 2) := by decide +kernel
set_option maxRecDepth 20000 in
theorem w102_20 {d : Nat} {st : List Value} {Q : Option Value × jW → Prop} {ls : jL} {w : jW} : Wp d 102 20 ls (st) w Q = Wp d 102 22 ls (.int (-12) :: st) w Q := Wp.alu e102_20 rfl rfl
theorem e102_22 : decode (j_co 102) 22 = .ok (.ireturn, 1) := by decide +kernel
set_option maxRecDepth 20000 in
theorem w102_22 {d : Nat} {Q : Option Value × jW → Prop} {ls : jL} {w : jW} {x : Int32} : Wp d 102 22 ls [.int x] w Q = Q (some (.int x), w) := Wp.ret e102_22 rfl
theorem e102_23 : decode (j_co 102) 23 = .ok (.aload_n 0, 1) := by decide +kernel
set_option maxRecDepth 20000 in
theorem w102_23 {d : Nat} {st : List Value} {Q : Option Value × jW → Prop} {w : jW} {a1 a2 : Option Value} {x : Nat} : Wp d 102 23 [some (.ref x), a1, a2] (st) w Q = Wp d 102 24 [some (.ref x), a1, a2] (.ref x :: st) w Q := Wp.loc e102_23 rfl rfl rfl
theorem e102_24 : decode (j_co 102) 24 = .ok (.getfield 9, 3) := by decide +kernel
set_option maxRecDepth 20000 in
theorem w102_24 {d : Nat} {st : List Value} {Q : Option Value × jW → Prop} {ls : jL} {xs : List Value} {I : fI} {L : fL} {o : Nat} (ht : f_tg o = 8) : Wp d 102 24 ls (.ref o :: st) (f_W xs I L) Q = Wp d 102 27 ls (.ref (f_rf o 0) :: st) (f_W xs I L) Q := Wp.getR (ci := 8) (k := 0) e102_24 rfl (by decide) (by decide) rfl ht
theorem e102_27 : decode (j_co 102) 27 = .ok (.iload_n 1, 1) := by decide +kernel
set_option maxRecDepth 20000 in
theorem w102_27 {d : Nat} {st : List Value} {Q : Option Value × jW → Prop} {w : jW} {a0 a2 : Option Value} {x : Int32} : Wp d 102 27 [a0, some (.int x), a2] (st) w Q = Wp d 102 28 [a0, some (.int x), a2] (.int x :: st) w Q := Wp.loc e102_27 rfl rfl rfl
theorem e102_28 : decode (j_co 102) 28 = .ok (.aload_n 0, 1) := by decide +kernel
set_option maxRecDepth 20000 in
theorem w102_28 {d : Nat} {st : List Value} {Q : Option Value × jW → Prop} {w : jW} {a1 a2 : Option Value} {x : Nat} : Wp d 102 28 [some (.ref x), a1, a2] (st) w Q = Wp d 102 29 [some (.ref x), a1, a2] (.ref x :: st) w Q := Wp.loc e102_28 rfl rfl rfl
theorem e102_29 : decode (j_co 102) 29 = .ok (.iload_n 2, 1) := by decide +kernel
set_option maxRecDepth 20000 in
theorem w102_29 {d : Nat} {st : List Value} {Q : Option Value × jW → Prop} {w : jW} {a0 a1 : Option Value} {x : Int32} : Wp d 102 29 [a0, a1, some (.int x)] (st) w Q = Wp d 102 30 [a0, a1, some (.int x)] (.int x :: st) w Q := Wp.loc e102_29 rfl rfl rfl
theorem e102_30 : decode (j_co 102) 30 = .ok (.invokevirtual 32, 3) := by decide +kernel
set_option maxRecDepth 20000 in
theorem w102_30 {d : Nat} {st : List Value} {Q : Option Value × jW → Prop} {ls : jL} {xs : List Value} {I : fI} {L : fL} {r : Nat} {x0 : Int32} (hs : j_sumc st ≤ 8) (ht : f_tg r = 8) : Wp (d + 1) 102 30 ls (.int x0 :: .ref r :: st) (f_W xs I L) Q = Wp d 104 0 [some (.ref r), some (.int x0)] [] (f_W xs I L) (fun r1 => Wp (d + 1) 102 33 ls (r1.1.toList ++ st) r1.2 Q) := Wp.cv (y' := 104) (as := [.int x0]) e102_30 rfl (by decide) rfl (show 2 ≤ 2 by decide) (by decide) hs ht
theorem e102_33 : decode (j_co 102) 33 = .ok (.iastore, 1) := by decide +kernel
set_option maxRecDepth 20000 in
theorem w102_33 {d : Nat} {st : List Value} {Q : Option Value × jW → Prop} {ls : jL} {xs : List Value} {I : fI} {L : fL} {o : Nat} {i x : Int32} (ht : f_tg o = 100) (hi : ¬ (i < 0 ∨ f_ln o ≤ i.toNatClampNeg)) : Wp d 102 33 ls (.int x :: .int i :: .ref o :: st) (f_W xs I L) Q = Wp d 102 34 ls (st) (f_W xs (f_up I o i.toNatClampNeg x) L) Q := Wp.iast e102_33 ht hi
theorem e102_34 : decode (j_co 102) 34 = .ok (.iconst 1, 1) := by decide +kernel
set_option maxRecDepth 20000 in
theorem w102_34 {d : Nat} {st : List Value} {Q : Option Value × jW → Prop} {ls : jL} {w : jW} : Wp d 102 34 ls (st) w Q = Wp d 102 35 ls (.int (nI 1) :: st) w Q := Wp.alu e102_34 rfl rfl
theorem e102_35 : decode (j_co 102) 35 = .ok (.ireturn, 1) := by decide +kernel
set_option maxRecDepth 20000 in
theorem w102_35 {d : Nat} {Q : Option Value × jW → Prop} {ls : jL} {w : jW} {x : Int32} : Wp d 102 35 ls [.int x] w Q = Q (some (.int x), w) := Wp.ret e102_35 rfl
/-! Sheet.hasCell -/
theorem e103_0 : decode (j_co 103) 0 = .ok (.iload_n 1, 1) := by decide +kernel
set_option maxRecDepth 20000 in
theorem w103_0 {d : Nat} {st : List Value} {Q : Option Value × jW → Prop} {w : jW} {a0 : Option Value} {x : Int32} : Wp d 103 0 [a0, some (.int x)] (st) w Q = Wp d 103 1 [a0, some (.int x)] (.int x :: st) w Q := Wp.loc e103_0 rfl rfl rfl
theorem e103_1 : decode (j_co 103) 1 = .ok (.ifCond .lt 21, 3) := by decide +kernel
set_option maxRecDepth 20000 in
theorem w103_1 {d : Nat} {st : List Value} {Q : Option Value × jW → Prop} {ls : jL} {w : jW} {a : Int32} : Wp d 103 1 ls (.int a :: st) w Q = ((a < nI 0 → Wp d 103 22 ls st w Q) ∧ (¬ a < nI 0 → Wp d 103 4 ls st w Q)) := Wp.if2 (c := a < nI 0) (off := 21) e103_1 rfl rfl rfl rfl rfl
theorem e103_4 : decode (j_co 103) 4 = .ok (.iload_n 1, 1) := by decide +kernel
set_option maxRecDepth 20000 in
theorem w103_4 {d : Nat} {st : List Value} {Q : Option Value × jW → Prop} {w : jW} {a0 : Option Value} {x : Int32} : Wp d 103 4 [a0, some (.int x)] (st) w Q = Wp d 103 5 [a0, some (.int x)] (.int x :: st) w Q := Wp.loc e103_4 rfl rfl rfl
theorem e103_5 : decode (j_co 103) 5 = .ok (.aload_n 0, 1) := by decide +kernel
set_option maxRecDepth 20000 in
theorem w103_5 {d : Nat} {st : List Value} {Q : Option Value × jW → Prop} {w : jW} {a1 : Option Value} {x : Nat} : Wp d 103 5 [some (.ref x), a1] (st) w Q = Wp d 103 6 [some (.ref x), a1] (.ref x :: st) w Q := Wp.loc e103_5 rfl rfl rfl
theorem e103_6 : decode (j_co 103) 6 = .ok (.getfield 25, 3) := by decide +kernel
set_option maxRecDepth 20000 in
theorem w103_6 {d : Nat} {st : List Value} {Q : Option Value × jW → Prop} {ls : jL} {xs : List Value} {I : fI} {L : fL} {o : Nat} (ht : f_tg o = 8) : Wp d 103 6 ls (.ref o :: st) (f_W xs I L) Q = Wp d 103 9 ls (.int (I o 2) :: st) (f_W xs I L) Q := Wp.getI (ci := 8) (k := 2) e103_6 rfl (by decide) (by decide) (by decide) ht
theorem e103_9 : decode (j_co 103) 9 = .ok (.if_icmp .ge 13, 3) := by decide +kernel
set_option maxRecDepth 20000 in
theorem w103_9 {d : Nat} {st : List Value} {Q : Option Value × jW → Prop} {ls : jL} {w : jW} {a b : Int32} : Wp d 103 9 ls (.int b :: .int a :: st) w Q = ((b ≤ a → Wp d 103 22 ls st w Q) ∧ (¬ b ≤ a → Wp d 103 12 ls st w Q)) := Wp.if2 (c := b ≤ a) (off := 13) e103_9 rfl rfl rfl rfl rfl
theorem e103_12 : decode (j_co 103) 12 = .ok (.iload_n 1, 1) := by decide +kernel
set_option maxRecDepth 20000 in
theorem w103_12 {d : Nat} {st : List Value} {Q : Option Value × jW → Prop} {w : jW} {a0 : Option Value} {x : Int32} : Wp d 103 12 [a0, some (.int x)] (st) w Q = Wp d 103 13 [a0, some (.int x)] (.int x :: st) w Q := Wp.loc e103_12 rfl rfl rfl
theorem e103_13 : decode (j_co 103) 13 = .ok (.bipush 60, 2) := by decide +kernel
set_option maxRecDepth 20000 in
theorem w103_13 {d : Nat} {st : List Value} {Q : Option Value × jW → Prop} {ls : jL} {w : jW} : Wp d 103 13 ls (st) w Q = Wp d 103 15 ls (.int (nI 60) :: st) w Q := Wp.alu e103_13 rfl rfl
theorem e103_15 : decode (j_co 103) 15 = .ok (.if_icmp .ge 7, 3) := by decide +kernel
set_option maxRecDepth 20000 in
theorem w103_15 {d : Nat} {st : List Value} {Q : Option Value × jW → Prop} {ls : jL} {w : jW} {a b : Int32} : Wp d 103 15 ls (.int b :: .int a :: st) w Q = ((b ≤ a → Wp d 103 22 ls st w Q) ∧ (¬ b ≤ a → Wp d 103 18 ls st w Q)) := Wp.if2 (c := b ≤ a) (off := 7) e103_15 rfl rfl rfl rfl rfl
theorem e103_18 : decode (j_co 103) 18 = .ok (.iconst 1, 1) := by decide +kernel
set_option maxRecDepth 20000 in
theorem w103_18 {d : Nat} {st : List Value} {Q : Option Value × jW → Prop} {ls : jL} {w : jW} : Wp d 103 18 ls (st) w Q = Wp d 103 19 ls (.int (nI 1) :: st) w Q := Wp.alu e103_18 rfl rfl
theorem e103_19 : decode (j_co 103) 19 = .ok (.goto 4, 3) := by decide +kernel
set_option maxRecDepth 20000 in
theorem w103_19 {d : Nat} {st : List Value} {Q : Option Value × jW → Prop} {ls : jL} {w : jW} : Wp d 103 19 ls (st) w Q = Wp d 103 23 ls (st) w Q := Wp.br e103_19 (Or.inl rfl) rfl rfl rfl rfl
theorem e103_22 : decode (j_co 103) 22 = .ok (.iconst 0, 1) := by decide +kernel
set_option maxRecDepth 20000 in
theorem w103_22 {d : Nat} {st : List Value} {Q : Option Value × jW → Prop} {ls : jL} {w : jW} : Wp d 103 22 ls (st) w Q = Wp d 103 23 ls (.int (nI 0) :: st) w Q := Wp.alu e103_22 rfl rfl
theorem e103_23 : decode (j_co 103) 23 = .ok (.ireturn, 1) := by decide +kernel
set_option maxRecDepth 20000 in
theorem w103_23 {d : Nat} {Q : Option Value × jW → Prop} {ls : jL} {w : jW} {x : Int32} (hx : x = 0 ∨ x = 1) : Wp d 103 23 ls [.int x] w Q = Q (some (.int x), w) := Wp.ret e103_23 (by rcases hx with rfl | rfl <;> rfl)
/-! Sheet.lowestBits -/
theorem e104_0 : decode (j_co 104) 0 = .ok (.aload_n 0, 1) := by decide +kernel
set_option maxRecDepth 20000 in
theorem w104_0 {d : Nat} {st : List Value} {Q : Option Value × jW → Prop} {w : jW} {a1 : Option Value} {x : Nat} : Wp d 104 0 [some (.ref x), a1] (st) w Q = Wp d 104 1 [some (.ref x), a1] (.ref x :: st) w Q := Wp.loc e104_0 rfl rfl rfl
theorem e104_1 : decode (j_co 104) 1 = .ok (.getfield 15, 3) := by decide +kernel
set_option maxRecDepth 20000 in
theorem w104_1 {d : Nat} {st : List Value} {Q : Option Value × jW → Prop} {ls : jL} {xs : List Value} {I : fI} {L : fL} {o : Nat} (ht : f_tg o = 8) : Wp d 104 1 ls (.ref o :: st) (f_W xs I L) Q = Wp d 104 4 ls (.int (I o 1) :: st) (f_W xs I L) Q := Wp.getI (ci := 8) (k := 1) e104_1 rfl (by decide) (by decide) (by decide) ht
theorem e104_4 : decode (j_co 104) 4 = .ok (.ifCond .ne 6, 3) := by decide +kernel
set_option maxRecDepth 20000 in
theorem w104_4 {d : Nat} {st : List Value} {Q : Option Value × jW → Prop} {ls : jL} {w : jW} {a : Int32} : Wp d 104 4 ls (.int a :: st) w Q = ((a = nI 0 → Wp d 104 7 ls st w Q) ∧ (¬ a = nI 0 → Wp d 104 10 ls st w Q)) := Wp.if2n (c := a = nI 0) (off := 6) e104_4 rfl rfl rfl rfl rfl
theorem e104_7 : decode (j_co 104) 7 = .ok (.iload_n 1, 1) := by decide +kernel
set_option maxRecDepth 20000 in
theorem w104_7 {d : Nat} {st : List Value} {Q : Option Value × jW → Prop} {w : jW} {a0 : Option Value} {x : Int32} : Wp d 104 7 [a0, some (.int x)] (st) w Q = Wp d 104 8 [a0, some (.int x)] (.int x :: st) w Q := Wp.loc e104_7 rfl rfl rfl
theorem e104_8 : decode (j_co 104) 8 = .ok (.i2b, 1) := by decide +kernel
set_option maxRecDepth 20000 in
theorem w104_8 {d : Nat} {st : List Value} {Q : Option Value × jW → Prop} {ls : jL} {w : jW} {a : Int32} : Wp d 104 8 ls (.int a :: st) w Q = Wp d 104 9 ls (.int a.toInt8.toInt32 :: st) w Q := Wp.alu e104_8 rfl rfl
theorem e104_9 : decode (j_co 104) 9 = .ok (.ireturn, 1) := by decide +kernel
set_option maxRecDepth 20000 in
theorem w104_9 {d : Nat} {Q : Option Value × jW → Prop} {ls : jL} {w : jW} {x : Int32} : Wp d 104 9 ls [.int x] w Q = Q (some (.int x), w) := Wp.ret e104_9 rfl
theorem e104_10 : decode (j_co 104) 10 = .ok (.aload_n 0, 1) := by decide +kernel
set_option maxRecDepth 20000 in
theorem w104_10 {d : Nat} {st : List Value} {Q : Option Value × jW → Prop} {w : jW} {a1 : Option Value} {x : Nat} : Wp d 104 10 [some (.ref x), a1] (st) w Q = Wp d 104 11 [some (.ref x), a1] (.ref x :: st) w Q := Wp.loc e104_10 rfl rfl rfl
theorem e104_11 : decode (j_co 104) 11 = .ok (.getfield 15, 3) := by decide +kernel
set_option maxRecDepth 20000 in
theorem w104_11 {d : Nat} {st : List Value} {Q : Option Value × jW → Prop} {ls : jL} {xs : List Value} {I : fI} {L : fL} {o : Nat} (ht : f_tg o = 8) : Wp d 104 11 ls (.ref o :: st) (f_W xs I L) Q = Wp d 104 14 ls (.int (I o 1) :: st) (f_W xs I L) Q := Wp.getI (ci := 8) (k := 1) e104_11 rfl (by decide) (by decide) (by decide) ht
theorem e104_14 : decode (j_co 104) 14 = .ok (.iconst 1, 1) := by decide +kernel
set_option maxRecDepth 20000 in
theorem w104_14 {d : Nat} {st : List Value} {Q : Option Value × jW → Prop} {ls : jL} {w : jW} : Wp d 104 14 ls (st) w Q = Wp d 104 15 ls (.int (nI 1) :: st) w Q := Wp.alu e104_14 rfl rfl
theorem e104_15 : decode (j_co 104) 15 = .ok (.if_icmp .ne 8, 3) := by decide +kernel
set_option maxRecDepth 20000 in
theorem w104_15 {d : Nat} {st : List Value} {Q : Option Value × jW → Prop} {ls : jL} {w : jW} {a b : Int32} : Wp d 104 15 ls (.int b :: .int a :: st) w Q = ((a = b → Wp d 104 18 ls st w Q) ∧ (¬ a = b → Wp d 104 23 ls st w Q)) := Wp.if2n (c := a = b) (off := 8) e104_15 rfl rfl rfl rfl rfl
theorem e104_18 : decode (j_co 104) 18 = .ok (.iload_n 1, 1) := by decide +kernel
set_option maxRecDepth 20000 in
theorem w104_18 {d : Nat} {st : List Value} {Q : Option Value × jW → Prop} {w : jW} {a0 : Option Value} {x : Int32} : Wp d 104 18 [a0, some (.int x)] (st) w Q = Wp d 104 19 [a0, some (.int x)] (.int x :: st) w Q := Wp.loc e104_18 rfl rfl rfl
theorem e104_19 : decode (j_co 104) 19 = .ok (.i2s, 1) := by decide +kernel
set_option maxRecDepth 20000 in
theorem w104_19 {d : Nat} {st : List Value} {Q : Option Value × jW → Prop} {ls : jL} {w : jW} {a : Int32} : Wp d 104 19 ls (.int a :: st) w Q = Wp d 104 20 ls (.int a.toInt16.toInt32 :: st) w Q := Wp.alu e104_19 rfl rfl
theorem e104_20 : decode (j_co 104) 20 = .ok (.goto 4, 3) := by decide +kernel
set_option maxRecDepth 20000 in
theorem w104_20 {d : Nat} {st : List Value} {Q : Option Value × jW → Prop} {ls : jL} {w : jW} : Wp d 104 20 ls (st) w Q = Wp d 104 24 ls (st) w Q := Wp.br e104_20 (Or.inl rfl) rfl rfl rfl rfl
theorem e104_23 : decode (j_co 104) 23 = .ok (.iload_n 1, 1) := by decide +kernel
set_option maxRecDepth 20000 in
theorem w104_23 {d : Nat} {st : List Value} {Q : Option Value × jW → Prop} {w : jW} {a0 : Option Value} {x : Int32} : Wp d 104 23 [a0, some (.int x)] (st) w Q = Wp d 104 24 [a0, some (.int x)] (.int x :: st) w Q := Wp.loc e104_23 rfl rfl rfl
theorem e104_24 : decode (j_co 104) 24 = .ok (.ireturn, 1) := by decide +kernel
set_option maxRecDepth 20000 in
theorem w104_24 {d : Nat} {Q : Option Value × jW → Prop} {ls : jL} {w : jW} {x : Int32} : Wp d 104 24 ls [.int x] w Q = Q (some (.int x), w) := Wp.ret e104_24 rfl
/-! Sheet.read -/
theorem e107_0 : decode (j_co 107) 0 = .ok (.aload_n 0, 1) := by decide +kernel
set_option maxRecDepth 20000 in
theorem w107_0 {d : Nat} {st : List Value} {Q : Option Value × jW → Prop} {w : jW} {a1 a2 a3 a4 a5 a6 a7 a8 : Option Value} {x : Nat} : Wp d 107 0 [some (.ref x), a1, a2, a3, a4, a5, a6, a7, a8] (st) w Q = Wp d 107 1 [some (.ref x), a1, a2, a3, a4, a5, a6, a7, a8] (.ref x :: st) w Q := Wp.loc e107_0 rfl rfl rfl
theorem e107_1 : decode (j_co 107) 1 = .ok (.getfield 15, 3) := by decide +kernel
set_option maxRecDepth 20000 in
theorem w107_1 {d : Nat} {st : List Value} {Q : Option Value × jW → Prop} {ls : jL} {xs : List Value} {I : fI} {L : fL} {o : Nat} (ht : f_tg o = 8) : Wp d 107 1 ls (.ref o :: st) (f_W xs I L) Q = Wp d 107 4 ls (.int (I o 1) :: st) (f_W xs I L) Q := Wp.getI (ci := 8) (k := 1) e107_1 rfl (by decide) (by decide) (by decide) ht
theorem e107_4 : decode (j_co 107) 4 = .ok (.bipush (-4), 2) := by decide +kernel
set_option maxRecDepth 20000 in
theorem w107_4 {d : Nat} {st : List Value} {Q : Option Value × jW → Prop} {ls : jL} {w : jW} : Wp d 107 4 ls (st) w Q = Wp d 107 6 ls (.int (-4) :: st) w Q := Wp.alu e107_4 rfl rfl
theorem e107_6 : decode (j_co 107) 6 = .ok (.if_icmp .ne 6, 3) := by decide +kernel
set_option maxRecDepth 20000 in
theorem w107_6 {d : Nat} {st : List Value} {Q : Option Value × jW → Prop} {ls : jL} {w : jW} {a b : Int32} : Wp d 107 6 ls (.int b :: .int a :: st) w Q = ((a = b → Wp d 107 9 ls st w Q) ∧ (¬ a = b → Wp d 107 12 ls st w Q)) := Wp.if2n (c := a = b) (off := 6) e107_6 rfl rfl rfl rfl rfl
theorem e107_9 : decode (j_co 107) 9 = .ok (.bipush (-11), 2) := by decide +kernel
set_option maxRecDepth 20000 in
theorem w107_9 {d : Nat} {st : List Value} {Q : Option Value × jW → Prop} {ls : jL} {w : jW} : Wp d 107 9 ls (st) w Q = Wp d 107 11 ls (.int (-11) :: st) w Q := Wp.alu e107_9 rfl rfl
theorem e107_11 : decode (j_co 107) 11 = .ok (.ireturn, 1) := by decide +kernel
set_option maxRecDepth 20000 in
theorem w107_11 {d : Nat} {Q : Option Value × jW → Prop} {ls : jL} {w : jW} {x : Int32} : Wp d 107 11 ls [.int x] w Q = Q (some (.int x), w) := Wp.ret e107_11 rfl
theorem e107_12 : decode (j_co 107) 12 = .ok (.aload_n 0, 1) := by decide +kernel
set_option maxRecDepth 20000 in
theorem w107_12 {d : Nat} {st : List Value} {Q : Option Value × jW → Prop} {w : jW} {a1 a2 a3 a4 a5 a6 a7 a8 : Option Value} {x : Nat} : Wp d 107 12 [some (.ref x), a1, a2, a3, a4, a5, a6, a7, a8] (st) w Q = Wp d 107 13 [some (.ref x), a1, a2, a3, a4, a5, a6, a7, a8] (.ref x :: st) w Q := Wp.loc e107_12 rfl rfl rfl
theorem e107_13 : decode (j_co 107) 13 = .ok (.getfield 15, 3) := by decide +kernel
set_option maxRecDepth 20000 in
theorem w107_13 {d : Nat} {st : List Value} {Q : Option Value × jW → Prop} {ls : jL} {xs : List Value} {I : fI} {L : fL} {o : Nat} (ht : f_tg o = 8) : Wp d 107 13 ls (.ref o :: st) (f_W xs I L) Q = Wp d 107 16 ls (.int (I o 1) :: st) (f_W xs I L) Q := Wp.getI (ci := 8) (k := 1) e107_13 rfl (by decide) (by decide) (by decide) ht
theorem e107_16 : decode (j_co 107) 16 = .ok (.iload_n 1, 1) := by decide +kernel
set_option maxRecDepth 20000 in
theorem w107_16 {d : Nat} {st : List Value} {Q : Option Value × jW → Prop} {w : jW} {a0 a2 a3 a4 a5 a6 a7 a8 : Option Value} {x : Int32} : Wp d 107 16 [a0, some (.int x), a2, a3, a4, a5, a6, a7, a8] (st) w Q = Wp d 107 17 [a0, some (.int x), a2, a3, a4, a5, a6, a7, a8] (.int x :: st) w Q := Wp.loc e107_16 rfl rfl rfl
theorem e107_17 : decode (j_co 107) 17 = .ok (.if_icmp .eq 6, 3) := by decide +kernel
set_option maxRecDepth 20000 in
theorem w107_17 {d : Nat} {st : List Value} {Q : Option Value × jW → Prop} {ls : jL} {w : jW} {a b : Int32} : Wp d 107 17 ls (.int b :: .int a :: st) w Q = ((a = b → Wp d 107 23 ls st w Q) ∧ (¬ a = b → Wp d 107 20 ls st w Q)) := Wp.if2 (c := a = b) (off := 6) e107_17 rfl rfl rfl rfl rfl
theorem e107_20 : decode (j_co 107) 20 = .ok (.bipush (-13), 2) := by decide +kernel
set_option maxRecDepth 20000 in
theorem w107_20 {d : Nat} {st : List Value} {Q : Option Value × jW → Prop} {ls : jL} {w : jW} : Wp d 107 20 ls (st) w Q = Wp d 107 22 ls (.int (-13) :: st) w Q := Wp.alu e107_20 rfl rfl
theorem e107_22 : decode (j_co 107) 22 = .ok (.ireturn, 1) := by decide +kernel
set_option maxRecDepth 20000 in
theorem w107_22 {d : Nat} {Q : Option Value × jW → Prop} {ls : jL} {w : jW} {x : Int32} : Wp d 107 22 ls [.int x] w Q = Q (some (.int x), w) := Wp.ret e107_22 rfl
theorem e107_23 : decode (j_co 107) 23 = .ok (.iconst 0, 1) := by decide +kernel
set_option maxRecDepth 20000 in
theorem w107_23 {d : Nat} {st : List Value} {Q : Option Value × jW → Prop} {ls : jL} {w : jW} : Wp d 107 23 ls (st) w Q = Wp d 107 24 ls (.int (nI 0) :: st) w Q := Wp.alu e107_23 rfl rfl
theorem e107_24 : decode (j_co 107) 24 = .ok (.istore 5, 2) := by decide +kernel
set_option maxRecDepth 20000 in
theorem w107_24 {d : Nat} {st : List Value} {Q : Option Value × jW → Prop} {w : jW} {a0 a1 a2 a3 a4 a5 a6 a7 a8 : Option Value} {x : Int32} (h : j_cp a4) : Wp d 107 24 [a0, a1, a2, a3, a4, a5, a6, a7, a8] (.int x :: st) w Q = Wp d 107 26 [a0, a1, a2, a3, a4, some (.int x), a6, a7, a8] (st) w Q := Wp.loc e107_24 rfl rfl (v_stI (ls := [a0, a1, a2, a3, a4, a5, a6, a7, a8]) (k := 5) (show 5 < 9 by decide) h)
theorem e107_26 : decode (j_co 107) 26 = .ok (.iconst 0, 1) := by decide +kernel
set_option maxRecDepth 20000 in
theorem w107_26 {d : Nat} {st : List Value} {Q : Option Value × jW → Prop} {ls : jL} {w : jW} : Wp d 107 26 ls (st) w Q = Wp d 107 27 ls (.int (nI 0) :: st) w Q := Wp.alu e107_26 rfl rfl
theorem e107_27 : decode (j_co 107) 27 = .ok (.istore 6, 2) := by decide +kernel
set_option maxRecDepth 20000 in
theorem w107_27 {d : Nat} {st : List Value} {Q : Option Value × jW → Prop} {w : jW} {a0 a1 a2 a3 a4 a5 a6 a7 a8 : Option Value} {x : Int32} (h : j_cp a5) : Wp d 107 27 [a0, a1, a2, a3, a4, a5, a6, a7, a8] (.int x :: st) w Q = Wp d 107 29 [a0, a1, a2, a3, a4, a5, some (.int x), a7, a8] (st) w Q := Wp.loc e107_27 rfl rfl (v_stI (ls := [a0, a1, a2, a3, a4, a5, a6, a7, a8]) (k := 6) (show 6 < 9 by decide) h)
theorem e107_29 : decode (j_co 107) 29 = .ok (.iload 6, 2) := by decide +kernel
set_option maxRecDepth 20000 in
theorem w107_29 {d : Nat} {st : List Value} {Q : Option Value × jW → Prop} {w : jW} {a0 a1 a2 a3 a4 a5 a7 a8 : Option Value} {x : Int32} : Wp d 107 29 [a0, a1, a2, a3, a4, a5, some (.int x), a7, a8] (st) w Q = Wp d 107 31 [a0, a1, a2, a3, a4, a5, some (.int x), a7, a8] (.int x :: st) w Q := Wp.loc e107_29 rfl rfl rfl
theorem e107_31 : decode (j_co 107) 31 = .ok (.bipush 6, 2) := by decide +kernel
set_option maxRecDepth 20000 in
theorem w107_31 {d : Nat} {st : List Value} {Q : Option Value × jW → Prop} {ls : jL} {w : jW} : Wp d 107 31 ls (st) w Q = Wp d 107 33 ls (.int (nI 6) :: st) w Q := Wp.alu e107_31 rfl rfl
theorem e107_33 : decode (j_co 107) 33 = .ok (.if_icmp .ge 89, 3) := by decide +kernel
set_option maxRecDepth 20000 in
theorem w107_33 {d : Nat} {st : List Value} {Q : Option Value × jW → Prop} {ls : jL} {w : jW} {a b : Int32} : Wp d 107 33 ls (.int b :: .int a :: st) w Q = ((b ≤ a → Wp d 107 122 ls st w Q) ∧ (¬ b ≤ a → Wp d 107 36 ls st w Q)) := Wp.if2 (c := b ≤ a) (off := 89) e107_33 rfl rfl rfl rfl rfl
theorem e107_36 : decode (j_co 107) 36 = .ok (.aload_n 0, 1) := by decide +kernel
set_option maxRecDepth 20000 in
theorem w107_36 {d : Nat} {st : List Value} {Q : Option Value × jW → Prop} {w : jW} {a1 a2 a3 a4 a5 a6 a7 a8 : Option Value} {x : Nat} : Wp d 107 36 [some (.ref x), a1, a2, a3, a4, a5, a6, a7, a8] (st) w Q = Wp d 107 37 [some (.ref x), a1, a2, a3, a4, a5, a6, a7, a8] (.ref x :: st) w Q := Wp.loc e107_36 rfl rfl rfl
theorem e107_37 : decode (j_co 107) 37 = .ok (.iload_n 2, 1) := by decide +kernel
set_option maxRecDepth 20000 in
theorem w107_37 {d : Nat} {st : List Value} {Q : Option Value × jW → Prop} {w : jW} {a0 a1 a3 a4 a5 a6 a7 a8 : Option Value} {x : Int32} : Wp d 107 37 [a0, a1, some (.int x), a3, a4, a5, a6, a7, a8] (st) w Q = Wp d 107 38 [a0, a1, some (.int x), a3, a4, a5, a6, a7, a8] (.int x :: st) w Q := Wp.loc e107_37 rfl rfl rfl
theorem e107_38 : decode (j_co 107) 38 = .ok (.iload 6, 2) := by decide +kernel
set_option maxRecDepth 20000 in
theorem w107_38 {d : Nat} {st : List Value} {Q : Option Value × jW → Prop} {w : jW} {a0 a1 a2 a3 a4 a5 a7 a8 : Option Value} {x : Int32} : Wp d 107 38 [a0, a1, a2, a3, a4, a5, some (.int x), a7, a8] (st) w Q = Wp d 107 40 [a0, a1, a2, a3, a4, a5, some (.int x), a7, a8] (.int x :: st) w Q := Wp.loc e107_38 rfl rfl rfl
theorem e107_40 : decode (j_co 107) 40 = .ok (.iadd, 1) := by decide +kernel
set_option maxRecDepth 20000 in
theorem w107_40 {d : Nat} {st : List Value} {Q : Option Value × jW → Prop} {ls : jL} {w : jW} {a b : Int32} : Wp d 107 40 ls (.int b :: .int a :: st) w Q = Wp d 107 41 ls (.int (a + b) :: st) w Q := Wp.alu e107_40 rfl rfl
theorem e107_41 : decode (j_co 107) 41 = .ok (.invokevirtual 28, 3) := by decide +kernel
set_option maxRecDepth 20000 in
theorem w107_41 {d : Nat} {st : List Value} {Q : Option Value × jW → Prop} {ls : jL} {xs : List Value} {I : fI} {L : fL} {r : Nat} {x0 : Int32} (hs : j_sumc st ≤ 8) (ht : f_tg r = 8) : Wp (d + 1) 107 41 ls (.int x0 :: .ref r :: st) (f_W xs I L) Q = Wp d 103 0 [some (.ref r), some (.int x0)] [] (f_W xs I L) (fun r1 => Wp (d + 1) 107 44 ls (r1.1.toList ++ st) r1.2 Q) := Wp.cv (y' := 103) (as := [.int x0]) e107_41 rfl (by decide) rfl (show 2 ≤ 2 by decide) (by decide) hs ht
theorem e107_44 : decode (j_co 107) 44 = .ok (.ifCond .ne 6, 3) := by decide +kernel
set_option maxRecDepth 20000 in
theorem w107_44 {d : Nat} {st : List Value} {Q : Option Value × jW → Prop} {ls : jL} {w : jW} {a : Int32} : Wp d 107 44 ls (.int a :: st) w Q = ((a = nI 0 → Wp d 107 47 ls st w Q) ∧ (¬ a = nI 0 → Wp d 107 50 ls st w Q)) := Wp.if2n (c := a = nI 0) (off := 6) e107_44 rfl rfl rfl rfl rfl
theorem e107_47 : decode (j_co 107) 47 = .ok (.bipush (-12), 2) := by decide +kernel
set_option maxRecDepth 20000 in
theorem w107_47 {d : Nat} {st : List Value} {Q : Option Value × jW → Prop} {ls : jL} {w : jW} : Wp d 107 47 ls (st) w Q = Wp d 107 49 ls (.int (-12) :: st) w Q := Wp.alu e107_47 rfl rfl
theorem e107_49 : decode (j_co 107) 49 = .ok (.ireturn, 1) := by decide +kernel
set_option maxRecDepth 20000 in
theorem w107_49 {d : Nat} {Q : Option Value × jW → Prop} {ls : jL} {w : jW} {x : Int32} : Wp d 107 49 ls [.int x] w Q = Q (some (.int x), w) := Wp.ret e107_49 rfl
theorem e107_50 : decode (j_co 107) 50 = .ok (.aload_n 0, 1) := by decide +kernel
set_option maxRecDepth 20000 in
theorem w107_50 {d : Nat} {st : List Value} {Q : Option Value × jW → Prop} {w : jW} {a1 a2 a3 a4 a5 a6 a7 a8 : Option Value} {x : Nat} : Wp d 107 50 [some (.ref x), a1, a2, a3, a4, a5, a6, a7, a8] (st) w Q = Wp d 107 51 [some (.ref x), a1, a2, a3, a4, a5, a6, a7, a8] (.ref x :: st) w Q := Wp.loc e107_50 rfl rfl rfl
theorem e107_51 : decode (j_co 107) 51 = .ok (.getfield 9, 3) := by decide +kernel
set_option maxRecDepth 20000 in
theorem w107_51 {d : Nat} {st : List Value} {Q : Option Value × jW → Prop} {ls : jL} {xs : List Value} {I : fI} {L : fL} {o : Nat} (ht : f_tg o = 8) : Wp d 107 51 ls (.ref o :: st) (f_W xs I L) Q = Wp d 107 54 ls (.ref (f_rf o 0) :: st) (f_W xs I L) Q := Wp.getR (ci := 8) (k := 0) e107_51 rfl (by decide) (by decide) rfl ht
theorem e107_54 : decode (j_co 107) 54 = .ok (.iload_n 2, 1) := by decide +kernel
set_option maxRecDepth 20000 in
theorem w107_54 {d : Nat} {st : List Value} {Q : Option Value × jW → Prop} {w : jW} {a0 a1 a3 a4 a5 a6 a7 a8 : Option Value} {x : Int32} : Wp d 107 54 [a0, a1, some (.int x), a3, a4, a5, a6, a7, a8] (st) w Q = Wp d 107 55 [a0, a1, some (.int x), a3, a4, a5, a6, a7, a8] (.int x :: st) w Q := Wp.loc e107_54 rfl rfl rfl
theorem e107_55 : decode (j_co 107) 55 = .ok (.iload 6, 2) := by decide +kernel
set_option maxRecDepth 20000 in
theorem w107_55 {d : Nat} {st : List Value} {Q : Option Value × jW → Prop} {w : jW} {a0 a1 a2 a3 a4 a5 a7 a8 : Option Value} {x : Int32} : Wp d 107 55 [a0, a1, a2, a3, a4, a5, some (.int x), a7, a8] (st) w Q = Wp d 107 57 [a0, a1, a2, a3, a4, a5, some (.int x), a7, a8] (.int x :: st) w Q := Wp.loc e107_55 rfl rfl rfl
theorem e107_57 : decode (j_co 107) 57 = .ok (.iadd, 1) := by decide +kernel
set_option maxRecDepth 20000 in
theorem w107_57 {d : Nat} {st : List Value} {Q : Option Value × jW → Prop} {ls : jL} {w : jW} {a b : Int32} : Wp d 107 57 ls (.int b :: .int a :: st) w Q = Wp d 107 58 ls (.int (a + b) :: st) w Q := Wp.alu e107_57 rfl rfl
theorem e107_58 : decode (j_co 107) 58 = .ok (.iaload, 1) := by decide +kernel
set_option maxRecDepth 20000 in
theorem w107_58 {d : Nat} {st : List Value} {Q : Option Value × jW → Prop} {ls : jL} {xs : List Value} {I : fI} {L : fL} {o : Nat} {i : Int32} (ht : f_tg o = 100) (hi : ¬ (i < 0 ∨ f_ln o ≤ i.toNatClampNeg)) : Wp d 107 58 ls (.int i :: .ref o :: st) (f_W xs I L) Q = Wp d 107 59 ls (.int (I o i.toNatClampNeg) :: st) (f_W xs I L) Q := Wp.iald e107_58 ht hi
theorem e107_59 : decode (j_co 107) 59 = .ok (.istore 7, 2) := by decide +kernel
set_option maxRecDepth 20000 in
theorem w107_59 {d : Nat} {st : List Value} {Q : Option Value × jW → Prop} {w : jW} {a0 a1 a2 a3 a4 a5 a6 a7 a8 : Option Value} {x : Int32} (h : j_cp a6) : Wp d 107 59 [a0, a1, a2, a3, a4, a5, a6, a7, a8] (.int x :: st) w Q = Wp d 107 61 [a0, a1, a2, a3, a4, a5, a6, some (.int x), a8] (st) w Q := Wp.loc e107_59 rfl rfl (v_stI (ls := [a0, a1, a2, a3, a4, a5, a6, a7, a8]) (k := 7) (show 7 < 9 by decide) h)
theorem e107_61 : decode (j_co 107) 61 = .ok (.iload 6, 2) := by decide +kernel
set_option maxRecDepth 20000 in
theorem w107_61 {d : Nat} {st : List Value} {Q : Option Value × jW → Prop} {w : jW} {a0 a1 a2 a3 a4 a5 a7 a8 : Option Value} {x : Int32} : Wp d 107 61 [a0, a1, a2, a3, a4, a5, some (.int x), a7, a8] (st) w Q = Wp d 107 63 [a0, a1, a2, a3, a4, a5, some (.int x), a7, a8] (.int x :: st) w Q := Wp.loc e107_61 rfl rfl rfl
theorem e107_63 : decode (j_co 107) 63 = .ok (.iconst 2, 1) := by decide +kernel
set_option maxRecDepth 20000 in
theorem w107_63 {d : Nat} {st : List Value} {Q : Option Value × jW → Prop} {ls : jL} {w : jW} : Wp d 107 63 ls (st) w Q = Wp d 107 64 ls (.int (nI 2) :: st) w Q := Wp.alu e107_63 rfl rfl
theorem e107_64 : decode (j_co 107) 64 = .ok (.irem, 1) := by decide +kernel
set_option maxRecDepth 20000 in
theorem w107_64 {d : Nat} {st : List Value} {Q : Option Value × jW → Prop} {ls : jL} {w : jW} {a b : Int32} (hb : ¬ b = 0) : Wp d 107 64 ls (.int b :: .int a :: st) w Q = Wp d 107 65 ls (.int (a - a / b * b) :: st) w Q := Wp.alu e107_64 rfl (by unfold j_alu; simp only [if_neg hb])
theorem e107_65 : decode (j_co 107) 65 = .ok (.iconst 1, 1) := by decide +kernel
set_option maxRecDepth 20000 in
theorem w107_65 {d : Nat} {st : List Value} {Q : Option Value × jW → Prop} {ls : jL} {w : jW} : Wp d 107 65 ls (st) w Q = Wp d 107 66 ls (.int (nI 1) :: st) w Q := Wp.alu e107_65 rfl rfl
theorem e107_66 : decode (j_co 107) 66 = .ok (.if_icmp .ne 7, 3) := by decide +kernel
set_option maxRecDepth 20000 in
theorem w107_66 {d : Nat} {st : List Value} {Q : Option Value × jW → Prop} {ls : jL} {w : jW} {a b : Int32} : Wp d 107 66 ls (.int b :: .int a :: st) w Q = ((a = b → Wp d 107 69 ls st w Q) ∧ (¬ a = b → Wp d 107 73 ls st w Q)) := Wp.if2n (c := a = b) (off := 7) e107_66 rfl rfl rfl rfl rfl
theorem e107_69 : decode (j_co 107) 69 = .ok (.iconst 1, 1) := by decide +kernel
set_option maxRecDepth 20000 in
theorem w107_69 {d : Nat} {st : List Value} {Q : Option Value × jW → Prop} {ls : jL} {w : jW} : Wp d 107 69 ls (st) w Q = Wp d 107 70 ls (.int (nI 1) :: st) w Q := Wp.alu e107_69 rfl rfl
theorem e107_70 : decode (j_co 107) 70 = .ok (.goto 4, 3) := by decide +kernel
set_option maxRecDepth 20000 in
theorem w107_70 {d : Nat} {st : List Value} {Q : Option Value × jW → Prop} {ls : jL} {w : jW} : Wp d 107 70 ls (st) w Q = Wp d 107 74 ls (st) w Q := Wp.br e107_70 (Or.inl rfl) rfl rfl rfl rfl
theorem e107_73 : decode (j_co 107) 73 = .ok (.iconst 0, 1) := by decide +kernel
set_option maxRecDepth 20000 in
theorem w107_73 {d : Nat} {st : List Value} {Q : Option Value × jW → Prop} {ls : jL} {w : jW} : Wp d 107 73 ls (st) w Q = Wp d 107 74 ls (.int (nI 0) :: st) w Q := Wp.alu e107_73 rfl rfl
theorem e107_74 : decode (j_co 107) 74 = .ok (.istore 8, 2) := by decide +kernel
set_option maxRecDepth 20000 in
theorem w107_74 {d : Nat} {st : List Value} {Q : Option Value × jW → Prop} {w : jW} {a0 a1 a2 a3 a4 a5 a6 a7 a8 : Option Value} {x : Int32} (h : j_cp a7) : Wp d 107 74 [a0, a1, a2, a3, a4, a5, a6, a7, a8] (.int x :: st) w Q = Wp d 107 76 [a0, a1, a2, a3, a4, a5, a6, a7, some (.int x)] (st) w Q := Wp.loc e107_74 rfl rfl (v_stI (ls := [a0, a1, a2, a3, a4, a5, a6, a7, a8]) (k := 8) (show 8 < 9 by decide) h)
theorem e107_76 : decode (j_co 107) 76 = .ok (.iload 7, 2) := by decide +kernel
set_option maxRecDepth 20000 in
theorem w107_76 {d : Nat} {st : List Value} {Q : Option Value × jW → Prop} {w : jW} {a0 a1 a2 a3 a4 a5 a6 a8 : Option Value} {x : Int32} : Wp d 107 76 [a0, a1, a2, a3, a4, a5, a6, some (.int x), a8] (st) w Q = Wp d 107 78 [a0, a1, a2, a3, a4, a5, a6, some (.int x), a8] (.int x :: st) w Q := Wp.loc e107_76 rfl rfl rfl
theorem e107_78 : decode (j_co 107) 78 = .ok (.iload_n 3, 1) := by decide +kernel
set_option maxRecDepth 20000 in
theorem w107_78 {d : Nat} {st : List Value} {Q : Option Value × jW → Prop} {w : jW} {a0 a1 a2 a4 a5 a6 a7 a8 : Option Value} {x : Int32} : Wp d 107 78 [a0, a1, a2, some (.int x), a4, a5, a6, a7, a8] (st) w Q = Wp d 107 79 [a0, a1, a2, some (.int x), a4, a5, a6, a7, a8] (.int x :: st) w Q := Wp.loc e107_78 rfl rfl rfl
theorem e107_79 : decode (j_co 107) 79 = .ok (.invokestatic 36, 3) := by decide +kernel
set_option maxRecDepth 20000 in
theorem w107_79 {d : Nat} {st : List Value} {Q : Option Value × jW → Prop} {ls : jL} {w : jW} {x0 : Int32} {x1 : Int32} (hs : j_sumc st ≤ 8) : Wp (d + 1) 107 79 ls (.int x1 :: .int x0 :: st) w Q = Wp d 59 0 [some (.int x0), some (.int x1)] [] w (fun r1 => Wp (d + 1) 107 82 ls (r1.1.toList ++ st) r1.2 Q) := Wp.cs (kd := 4) (y' := 59) (as := [.int x0, .int x1]) e107_79 rfl (by decide) (by decide) rfl (show 2 ≤ 2 by decide) hs
theorem e107_82 : decode (j_co 107) 82 = .ok (.ifCond .eq 15, 3) := by decide +kernel
set_option maxRecDepth 20000 in
theorem w107_82 {d : Nat} {st : List Value} {Q : Option Value × jW → Prop} {ls : jL} {w : jW} {a : Int32} : Wp d 107 82 ls (.int a :: st) w Q = ((a = nI 0 → Wp d 107 97 ls st w Q) ∧ (¬ a = nI 0 → Wp d 107 85 ls st w Q)) := Wp.if2 (c := a = nI 0) (off := 15) e107_82 rfl rfl rfl rfl rfl
theorem e107_85 : decode (j_co 107) 85 = .ok (.iload 8, 2) := by decide +kernel
set_option maxRecDepth 20000 in
theorem w107_85 {d : Nat} {st : List Value} {Q : Option Value × jW → Prop} {w : jW} {a0 a1 a2 a3 a4 a5 a6 a7 : Option Value} {x : Int32} : Wp d 107 85 [a0, a1, a2, a3, a4, a5, a6, a7, some (.int x)] (st) w Q = Wp d 107 87 [a0, a1, a2, a3, a4, a5, a6, a7, some (.int x)] (.int x :: st) w Q := Wp.loc e107_85 rfl rfl rfl
theorem e107_87 : decode (j_co 107) 87 = .ok (.ifCond .eq 16, 3) := by decide +kernel
set_option maxRecDepth 20000 in
theorem w107_87 {d : Nat} {st : List Value} {Q : Option Value × jW → Prop} {ls : jL} {w : jW} {a : Int32} : Wp d 107 87 ls (.int a :: st) w Q = ((a = nI 0 → Wp d 107 103 ls st w Q) ∧ (¬ a = nI 0 → Wp d 107 90 ls st w Q)) := Wp.if2 (c := a = nI 0) (off := 16) e107_87 rfl rfl rfl rfl rfl
theorem e107_90 : decode (j_co 107) 90 = .ok (.iload 7, 2) := by decide +kernel
set_option maxRecDepth 20000 in
theorem w107_90 {d : Nat} {st : List Value} {Q : Option Value × jW → Prop} {w : jW} {a0 a1 a2 a3 a4 a5 a6 a8 : Option Value} {x : Int32} : Wp d 107 90 [a0, a1, a2, a3, a4, a5, a6, some (.int x), a8] (st) w Q = Wp d 107 92 [a0, a1, a2, a3, a4, a5, a6, some (.int x), a8] (.int x :: st) w Q := Wp.loc e107_90 rfl rfl rfl
theorem e107_92 : decode (j_co 107) 92 = .ok (.iload 5, 2) := by decide +kernel
set_option maxRecDepth 20000 in
theorem w107_92 {d : Nat} {st : List Value} {Q : Option Value × jW → Prop} {w : jW} {a0 a1 a2 a3 a4 a6 a7 a8 : Option Value} {x : Int32} : Wp d 107 92 [a0, a1, a2, a3, a4, some (.int x), a6, a7, a8] (st) w Q = Wp d 107 94 [a0, a1, a2, a3, a4, some (.int x), a6, a7, a8] (.int x :: st) w Q := Wp.loc e107_92 rfl rfl rfl
theorem e107_94 : decode (j_co 107) 94 = .ok (.if_icmp .ge 9, 3) := by decide +kernel
set_option maxRecDepth 20000 in
theorem w107_94 {d : Nat} {st : List Value} {Q : Option Value × jW → Prop} {ls : jL} {w : jW} {a b : Int32} : Wp d 107 94 ls (.int b :: .int a :: st) w Q = ((b ≤ a → Wp d 107 103 ls st w Q) ∧ (¬ b ≤ a → Wp d 107 97 ls st w Q)) := Wp.if2 (c := b ≤ a) (off := 9) e107_94 rfl rfl rfl rfl rfl
theorem e107_97 : decode (j_co 107) 97 = .ok (.bipush (-20), 2) := by decide +kernel
set_option maxRecDepth 20000 in
theorem w107_97 {d : Nat} {st : List Value} {Q : Option Value × jW → Prop} {ls : jL} {w : jW} : Wp d 107 97 ls (st) w Q = Wp d 107 99 ls (.int (-20) :: st) w Q := Wp.alu e107_97 rfl rfl
theorem e107_99 : decode (j_co 107) 99 = .ok (.iload 6, 2) := by decide +kernel
set_option maxRecDepth 20000 in
theorem w107_99 {d : Nat} {st : List Value} {Q : Option Value × jW → Prop} {w : jW} {a0 a1 a2 a3 a4 a5 a7 a8 : Option Value} {x : Int32} : Wp d 107 99 [a0, a1, a2, a3, a4, a5, some (.int x), a7, a8] (st) w Q = Wp d 107 101 [a0, a1, a2, a3, a4, a5, some (.int x), a7, a8] (.int x :: st) w Q := Wp.loc e107_99 rfl rfl rfl
theorem e107_101 : decode (j_co 107) 101 = .ok (.isub, 1) := by decide +kernel
set_option maxRecDepth 20000 in
theorem w107_101 {d : Nat} {st : List Value} {Q : Option Value × jW → Prop} {ls : jL} {w : jW} {a b : Int32} : Wp d 107 101 ls (.int b :: .int a :: st) w Q = Wp d 107 102 ls (.int (a - b) :: st) w Q := Wp.alu e107_101 rfl rfl
theorem e107_102 : decode (j_co 107) 102 = .ok (.ireturn, 1) := by decide +kernel
set_option maxRecDepth 20000 in
theorem w107_102 {d : Nat} {Q : Option Value × jW → Prop} {ls : jL} {w : jW} {x : Int32} : Wp d 107 102 ls [.int x] w Q = Q (some (.int x), w) := Wp.ret e107_102 rfl
theorem e107_103 : decode (j_co 107) 103 = .ok (.aload 4, 2) := by decide +kernel
set_option maxRecDepth 20000 in
theorem w107_103 {d : Nat} {st : List Value} {Q : Option Value × jW → Prop} {w : jW} {a0 a1 a2 a3 a5 a6 a7 a8 : Option Value} {x : Nat} : Wp d 107 103 [a0, a1, a2, a3, some (.ref x), a5, a6, a7, a8] (st) w Q = Wp d 107 105 [a0, a1, a2, a3, some (.ref x), a5, a6, a7, a8] (.ref x :: st) w Q := Wp.loc e107_103 rfl rfl rfl
theorem e107_105 : decode (j_co 107) 105 = .ok (.iload 6, 2) := by decide +kernel
set_option maxRecDepth 20000 in
theorem w107_105 {d : Nat} {st : List Value} {Q : Option Value × jW → Prop} {w : jW} {a0 a1 a2 a3 a4 a5 a7 a8 : Option Value} {x : Int32} : Wp d 107 105 [a0, a1, a2, a3, a4, a5, some (.int x), a7, a8] (st) w Q = Wp d 107 107 [a0, a1, a2, a3, a4, a5, some (.int x), a7, a8] (.int x :: st) w Q := Wp.loc e107_105 rfl rfl rfl
theorem e107_107 : decode (j_co 107) 107 = .ok (.iload 7, 2) := by decide +kernel
set_option maxRecDepth 20000 in
theorem w107_107 {d : Nat} {st : List Value} {Q : Option Value × jW → Prop} {w : jW} {a0 a1 a2 a3 a4 a5 a6 a8 : Option Value} {x : Int32} : Wp d 107 107 [a0, a1, a2, a3, a4, a5, a6, some (.int x), a8] (st) w Q = Wp d 107 109 [a0, a1, a2, a3, a4, a5, a6, some (.int x), a8] (.int x :: st) w Q := Wp.loc e107_107 rfl rfl rfl
theorem e107_109 : decode (j_co 107) 109 = .ok (.invokevirtual 40, 3) := by decide +kernel
set_option maxRecDepth 20000 in
theorem w107_109 {d : Nat} {st : List Value} {Q : Option Value × jW → Prop} {ls : jL} {xs : List Value} {I : fI} {L : fL} {r : Nat} {x0 : Int32} {x1 : Int32} (hs : j_sumc st ≤ 8) (ht : f_tg r = 0) : Wp (d + 1) 107 109 ls (.int x1 :: .int x0 :: .ref r :: st) (f_W xs I L) Q = Wp d 108 0 [some (.ref r), some (.int x0), some (.int x1)] [] (f_W xs I L) (fun r1 => Wp (d + 1) 107 112 ls (r1.1.toList ++ st) r1.2 Q) := Wp.cv (y' := 108) (as := [.int x0, .int x1]) e107_109 rfl (by decide) rfl (show 3 ≤ 3 by decide) (by decide) hs ht
theorem e107_112 : decode (j_co 107) 112 = .ok (.iload 7, 2) := by decide +kernel
set_option maxRecDepth 20000 in
theorem w107_112 {d : Nat} {st : List Value} {Q : Option Value × jW → Prop} {w : jW} {a0 a1 a2 a3 a4 a5 a6 a8 : Option Value} {x : Int32} : Wp d 107 112 [a0, a1, a2, a3, a4, a5, a6, some (.int x), a8] (st) w Q = Wp d 107 114 [a0, a1, a2, a3, a4, a5, a6, some (.int x), a8] (.int x :: st) w Q := Wp.loc e107_112 rfl rfl rfl
theorem e107_114 : decode (j_co 107) 114 = .ok (.istore 5, 2) := by decide +kernel
set_option maxRecDepth 20000 in
theorem w107_114 {d : Nat} {st : List Value} {Q : Option Value × jW → Prop} {w : jW} {a0 a1 a2 a3 a4 a5 a6 a7 a8 : Option Value} {x : Int32} (h : j_cp a4) : Wp d 107 114 [a0, a1, a2, a3, a4, a5, a6, a7, a8] (.int x :: st) w Q = Wp d 107 116 [a0, a1, a2, a3, a4, some (.int x), a6, a7, a8] (st) w Q := Wp.loc e107_114 rfl rfl (v_stI (ls := [a0, a1, a2, a3, a4, a5, a6, a7, a8]) (k := 5) (show 5 < 9 by decide) h)
theorem e107_116 : decode (j_co 107) 116 = .ok (.iinc 6 1, 3) := by decide +kernel
set_option maxRecDepth 20000 in
theorem w107_116 {d : Nat} {st : List Value} {Q : Option Value × jW → Prop} {w : jW} {a0 a1 a2 a3 a4 a5 a7 a8 : Option Value} {x : Int32} (h : j_cp a5) : Wp d 107 116 [a0, a1, a2, a3, a4, a5, some (.int x), a7, a8] (st) w Q = Wp d 107 119 [a0, a1, a2, a3, a4, a5, some (.int (x + nI 1)), a7, a8] (st) w Q := Wp.loc e107_116 rfl rfl (v_inc (ls := [a0, a1, a2, a3, a4, a5, some (.int x), a7, a8]) (k := 6) (n := 1) rfl (show 6 < 9 by decide) h)
theorem e107_119 : decode (j_co 107) 119 = .ok (.goto (-90), 3) := by decide +kernel
set_option maxRecDepth 20000 in
theorem w107_119 {d : Nat} {st : List Value} {Q : Option Value × jW → Prop} {ls : jL} {w : jW} : Wp d 107 119 ls (st) w Q = Wp d 107 29 ls (st) w Q := Wp.br e107_119 (Or.inl rfl) rfl rfl rfl rfl
theorem e107_122 : decode (j_co 107) 122 = .ok (.iconst 1, 1) := by decide +kernel
set_option maxRecDepth 20000 in
theorem w107_122 {d : Nat} {st : List Value} {Q : Option Value × jW → Prop} {ls : jL} {w : jW} : Wp d 107 122 ls (st) w Q = Wp d 107 123 ls (.int (nI 1) :: st) w Q := Wp.alu e107_122 rfl rfl
theorem e107_123 : decode (j_co 107) 123 = .ok (.ireturn, 1) := by decide +kernel
set_option maxRecDepth 20000 in
theorem w107_123 {d : Nat} {Q : Option Value × jW → Prop} {ls : jL} {w : jW} {x : Int32} : Wp d 107 123 ls [.int x] w Q = Q (some (.int x), w) := Wp.ret e107_123 rfl
/-! Trail.heapOf -/
theorem e172_0 : decode (j_co 172) 0 = .ok (.aload_n 0, 1) := by decide +kernel
set_option maxRecDepth 20000 in
theorem w172_0 {d : Nat} {st : List Value} {Q : Option Value × jW → Prop} {w : jW} {a1 : Option Value} {x : Nat} : Wp d 172 0 [some (.ref x), a1] (st) w Q = Wp d 172 1 [some (.ref x), a1] (.ref x :: st) w Q := Wp.loc e172_0 rfl rfl rfl
theorem e172_1 : decode (j_co 172) 1 = .ok (.getfield 22, 3) := by decide +kernel
set_option maxRecDepth 20000 in
theorem w172_1 {d : Nat} {st : List Value} {Q : Option Value × jW → Prop} {ls : jL} {xs : List Value} {I : fI} {L : fL} {o : Nat} (ht : f_tg o = 9) : Wp d 172 1 ls (.ref o :: st) (f_W xs I L) Q = Wp d 172 4 ls (.ref (f_rf o 1) :: st) (f_W xs I L) Q := Wp.getR (ci := 9) (k := 1) e172_1 rfl (by decide) (by decide) rfl ht
theorem e172_4 : decode (j_co 172) 4 = .ok (.iload_n 1, 1) := by decide +kernel
set_option maxRecDepth 20000 in
theorem w172_4 {d : Nat} {st : List Value} {Q : Option Value × jW → Prop} {w : jW} {a0 : Option Value} {x : Int32} : Wp d 172 4 [a0, some (.int x)] (st) w Q = Wp d 172 5 [a0, some (.int x)] (.int x :: st) w Q := Wp.loc e172_4 rfl rfl rfl
theorem e172_5 : decode (j_co 172) 5 = .ok (.ifCond .lt 27, 3) := by decide +kernel
set_option maxRecDepth 20000 in
theorem w172_5 {d : Nat} {st : List Value} {Q : Option Value × jW → Prop} {ls : jL} {w : jW} {a : Int32} : Wp d 172 5 ls (.int a :: st) w Q = ((a < nI 0 → Wp d 172 32 ls st w Q) ∧ (¬ a < nI 0 → Wp d 172 8 ls st w Q)) := Wp.if2 (c := a < nI 0) (off := 27) e172_5 rfl rfl rfl rfl rfl
theorem e172_8 : decode (j_co 172) 8 = .ok (.iload_n 1, 1) := by decide +kernel
set_option maxRecDepth 20000 in
theorem w172_8 {d : Nat} {st : List Value} {Q : Option Value × jW → Prop} {w : jW} {a0 : Option Value} {x : Int32} : Wp d 172 8 [a0, some (.int x)] (st) w Q = Wp d 172 9 [a0, some (.int x)] (.int x :: st) w Q := Wp.loc e172_8 rfl rfl rfl
theorem e172_9 : decode (j_co 172) 9 = .ok (.aload_n 0, 1) := by decide +kernel
set_option maxRecDepth 20000 in
theorem w172_9 {d : Nat} {st : List Value} {Q : Option Value × jW → Prop} {w : jW} {a1 : Option Value} {x : Nat} : Wp d 172 9 [some (.ref x), a1] (st) w Q = Wp d 172 10 [some (.ref x), a1] (.ref x :: st) w Q := Wp.loc e172_9 rfl rfl rfl
theorem e172_10 : decode (j_co 172) 10 = .ok (.getfield 63, 3) := by decide +kernel
set_option maxRecDepth 20000 in
theorem w172_10 {d : Nat} {st : List Value} {Q : Option Value × jW → Prop} {ls : jL} {xs : List Value} {I : fI} {L : fL} {o : Nat} (ht : f_tg o = 9) : Wp d 172 10 ls (.ref o :: st) (f_W xs I L) Q = Wp d 172 13 ls (.int (I o 4) :: st) (f_W xs I L) Q := Wp.getI (ci := 9) (k := 4) e172_10 rfl (by decide) (by decide) (by decide) ht
theorem e172_13 : decode (j_co 172) 13 = .ok (.if_icmp .ge 19, 3) := by decide +kernel
set_option maxRecDepth 20000 in
theorem w172_13 {d : Nat} {st : List Value} {Q : Option Value × jW → Prop} {ls : jL} {w : jW} {a b : Int32} : Wp d 172 13 ls (.int b :: .int a :: st) w Q = ((b ≤ a → Wp d 172 32 ls st w Q) ∧ (¬ b ≤ a → Wp d 172 16 ls st w Q)) := Wp.if2 (c := b ≤ a) (off := 19) e172_13 rfl rfl rfl rfl rfl
theorem e172_16 : decode (j_co 172) 16 = .ok (.aload_n 0, 1) := by decide +kernel
set_option maxRecDepth 20000 in
theorem w172_16 {d : Nat} {st : List Value} {Q : Option Value × jW → Prop} {w : jW} {a1 : Option Value} {x : Nat} : Wp d 172 16 [some (.ref x), a1] (st) w Q = Wp d 172 17 [some (.ref x), a1] (.ref x :: st) w Q := Wp.loc e172_16 rfl rfl rfl
theorem e172_17 : decode (j_co 172) 17 = .ok (.getfield 9, 3) := by decide +kernel
set_option maxRecDepth 20000 in
theorem w172_17 {d : Nat} {st : List Value} {Q : Option Value × jW → Prop} {ls : jL} {xs : List Value} {I : fI} {L : fL} {o : Nat} (ht : f_tg o = 9) : Wp d 172 17 ls (.ref o :: st) (f_W xs I L) Q = Wp d 172 20 ls (.ref (f_rf o 2) :: st) (f_W xs I L) Q := Wp.getR (ci := 9) (k := 2) e172_17 rfl (by decide) (by decide) rfl ht
theorem e172_20 : decode (j_co 172) 20 = .ok (.aload_n 0, 1) := by decide +kernel
set_option maxRecDepth 20000 in
theorem w172_20 {d : Nat} {st : List Value} {Q : Option Value × jW → Prop} {w : jW} {a1 : Option Value} {x : Nat} : Wp d 172 20 [some (.ref x), a1] (st) w Q = Wp d 172 21 [some (.ref x), a1] (.ref x :: st) w Q := Wp.loc e172_20 rfl rfl rfl
theorem e172_21 : decode (j_co 172) 21 = .ok (.getfield 63, 3) := by decide +kernel
set_option maxRecDepth 20000 in
theorem w172_21 {d : Nat} {st : List Value} {Q : Option Value × jW → Prop} {ls : jL} {xs : List Value} {I : fI} {L : fL} {o : Nat} (ht : f_tg o = 9) : Wp d 172 21 ls (.ref o :: st) (f_W xs I L) Q = Wp d 172 24 ls (.int (I o 4) :: st) (f_W xs I L) Q := Wp.getI (ci := 9) (k := 4) e172_21 rfl (by decide) (by decide) (by decide) ht
theorem e172_24 : decode (j_co 172) 24 = .ok (.iconst 1, 1) := by decide +kernel
set_option maxRecDepth 20000 in
theorem w172_24 {d : Nat} {st : List Value} {Q : Option Value × jW → Prop} {ls : jL} {w : jW} : Wp d 172 24 ls (st) w Q = Wp d 172 25 ls (.int (nI 1) :: st) w Q := Wp.alu e172_24 rfl rfl
theorem e172_25 : decode (j_co 172) 25 = .ok (.isub, 1) := by decide +kernel
set_option maxRecDepth 20000 in
theorem w172_25 {d : Nat} {st : List Value} {Q : Option Value × jW → Prop} {ls : jL} {w : jW} {a b : Int32} : Wp d 172 25 ls (.int b :: .int a :: st) w Q = Wp d 172 26 ls (.int (a - b) :: st) w Q := Wp.alu e172_25 rfl rfl
theorem e172_26 : decode (j_co 172) 26 = .ok (.iload_n 1, 1) := by decide +kernel
set_option maxRecDepth 20000 in
theorem w172_26 {d : Nat} {st : List Value} {Q : Option Value × jW → Prop} {w : jW} {a0 : Option Value} {x : Int32} : Wp d 172 26 [a0, some (.int x)] (st) w Q = Wp d 172 27 [a0, some (.int x)] (.int x :: st) w Q := Wp.loc e172_26 rfl rfl rfl
theorem e172_27 : decode (j_co 172) 27 = .ok (.isub, 1) := by decide +kernel
set_option maxRecDepth 20000 in
theorem w172_27 {d : Nat} {st : List Value} {Q : Option Value × jW → Prop} {ls : jL} {w : jW} {a b : Int32} : Wp d 172 27 ls (.int b :: .int a :: st) w Q = Wp d 172 28 ls (.int (a - b) :: st) w Q := Wp.alu e172_27 rfl rfl
theorem e172_28 : decode (j_co 172) 28 = .ok (.iaload, 1) := by decide +kernel
set_option maxRecDepth 20000 in
theorem w172_28 {d : Nat} {st : List Value} {Q : Option Value × jW → Prop} {ls : jL} {xs : List Value} {I : fI} {L : fL} {o : Nat} {i : Int32} (ht : f_tg o = 100) (hi : ¬ (i < 0 ∨ f_ln o ≤ i.toNatClampNeg)) : Wp d 172 28 ls (.int i :: .ref o :: st) (f_W xs I L) Q = Wp d 172 29 ls (.int (I o i.toNatClampNeg) :: st) (f_W xs I L) Q := Wp.iald e172_28 ht hi
theorem e172_29 : decode (j_co 172) 29 = .ok (.goto 5, 3) := by decide +kernel
set_option maxRecDepth 20000 in
theorem w172_29 {d : Nat} {st : List Value} {Q : Option Value × jW → Prop} {ls : jL} {w : jW} : Wp d 172 29 ls (st) w Q = Wp d 172 34 ls (st) w Q := Wp.br e172_29 (Or.inl rfl) rfl rfl rfl rfl
theorem e172_32 : decode (j_co 172) 32 = .ok (.bipush (-4), 2) := by decide +kernel
set_option maxRecDepth 20000 in
theorem w172_32 {d : Nat} {st : List Value} {Q : Option Value × jW → Prop} {ls : jL} {w : jW} : Wp d 172 32 ls (st) w Q = Wp d 172 34 ls (.int (-4) :: st) w Q := Wp.alu e172_32 rfl rfl
theorem e172_34 : decode (j_co 172) 34 = .ok (.invokevirtual 36, 3) := by decide +kernel
set_option maxRecDepth 20000 in
theorem w172_34 {d : Nat} {st : List Value} {Q : Option Value × jW → Prop} {ls : jL} {xs : List Value} {I : fI} {L : fL} {r : Nat} {x0 : Int32} (hs : j_sumc st ≤ 8) (ht : f_tg r = 7) : Wp (d + 1) 172 34 ls (.int x0 :: .ref r :: st) (f_W xs I L) Q = Wp d 170 0 [some (.ref r), some (.int x0)] [] (f_W xs I L) (fun r1 => Wp (d + 1) 172 37 ls (r1.1.toList ++ st) r1.2 Q) := Wp.cv (y' := 170) (as := [.int x0]) e172_34 rfl (by decide) rfl (show 2 ≤ 2 by decide) (by decide) hs ht
theorem e172_37 : decode (j_co 172) 37 = .ok (.areturn, 1) := by decide +kernel
set_option maxRecDepth 20000 in
theorem w172_37 {d : Nat} {Q : Option Value × jW → Prop} {ls : jL} {w : jW} {x : Nat} : Wp d 172 37 ls [.ref x] w Q = Q (some (.ref x), w) := Wp.ret e172_37 rfl
set_option maxRecDepth 20000 in
theorem w172_37n {d : Nat} {Q : Option Value × jW → Prop} {ls : jL} {w : jW} : Wp d 172 37 ls [.null] w Q = Q (some .null, w) := Wp.ret e172_37 rfl
