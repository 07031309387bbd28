/-! BOXES -/
theorem n_lt {a b : Nat} (ha : a < 2147483648) (hb : b < 2147483648) : (nI a < nI b) = (a < b) := propext (nI_ltI ha hb)
theorem n_le {a b : Nat} (ha : a < 2147483648) (hb : b < 2147483648) : (nI a ≤ nI b) = (a ≤ b) := propext (nI_leI ha hb)
theorem n_eq {a b : Nat} (ha : a < 2147483648) (hb : b < 2147483648) : (nI a = nI b) = (a = b) := propext (nI_eq ha hb)
theorem n_neg {a : Nat} (ha : a < 2147483648) : (nI a < 0) = False := eq_false (nI_pos ha)
theorem n_cl {a : Nat} (ha : a < 2147483648) : (nI a).toNatClampNeg = a := nI_clamp ha
theorem n_mul (a b : Nat) : nI a * nI b = nI (a * b) := pk_mul a b
theorem n_add (a b : Nat) : nI a + nI b = nI (a + b) := nI_add a b
def b2 (b : Bool) : Int32 := if b = true then nI 1 else nI 0
theorem z_0 : (nI 0 = 0 ∨ nI 0 = 1) = True := eq_true (Or.inl rfl)
theorem z_1 : (nI 1 = 0 ∨ nI 1 = 1) = True := eq_true (Or.inr rfl)
theorem z_2 (b : Bool) : (b2 b = 0 ∨ b2 b = 1) = True := by cases b <;> decide
theorem b_f0 (b : Bool) : (b2 b = nI 0) = (b = false) := by cases b <;> decide
theorem b_t0 (b : Bool) : (¬ b2 b = nI 0) = (b = true) := by cases b <;> decide
theorem sc_0 : j_sumc [] = 0 := by simp [j_sumc]
theorem sc_i (x : Int32) (st : List Value) : j_sumc (.int x :: st) = 1 + j_sumc st := by simp [j_sumc, Value.category]
theorem sc_r (x : Nat) (st : List Value) : j_sumc (.ref x :: st) = 1 + j_sumc st := by simp [j_sumc, Value.category]
theorem sc_n (st : List Value) : j_sumc (.null :: st) = 1 + j_sumc st := by simp [j_sumc, Value.category]
theorem sc_l (x : Int64) (st : List Value) : j_sumc (.long x :: st) = 2 + j_sumc st := by simp [j_sumc, Value.category]
theorem jc_n : j_cp none = True := eq_true rfl
theorem jc_i (x : Int32) : j_cp (some (.int x)) = True := eq_true rfl
theorem jc_r (x : Nat) : j_cp (some (.ref x)) = True := eq_true rfl
theorem jc_l : j_cp (some .null) = True := eq_true rfl
def bx (b : Nat) : Prop := f_tg b = 0 ∧ f_tg (b + 1) = 100 ∧ f_ln (b + 1) = 6 ∧ f_rf b 0 = b + 1
/-- the six numbers of a box are written -/
def f_wb (I : fI) (b : Nat) (g : Nat → Int32) : fI := fun a k => if a = b + 1 then g k else I a k
theorem f_W_congr {xs : List Value} {I I' : fI} {L : fL} (h : ∀ o k, o < f_N → k < f_ln o → I o k = I' o k) : f_W xs I L = f_W xs I' L := by
  unfold f_W
  congr 1
  apply List.map_congr_left
  intro i hi
  have hi := List.mem_range.mp hi
  unfold f_ce
  congr 1
  apply List.map_congr_left
  intro k hk
  have hk := List.mem_range.mp hk
  unfold f_vl
  rw [h (i + 1) k (by omega) hk]
def bMeet (f g : Nat → Int32) : Nat → Int32 := fun k => if k % 2 = 0 then (if f k < g k then g k else f k) else (if g k < f k then g k else f k)
def bJoin (f g : Nat → Int32) : Nat → Int32 := fun k => if k % 2 = 0 then (if g k < f k then g k else f k) else (if f k < g k then g k else f k)
def bShift (f g : Nat → Int32) : Nat → Int32 := fun k => f k + g k
def bEmp (f : Nat → Int32) : Bool := decide (f 1 < f 0) || decide (f 3 < f 2) || decide (f 5 < f 4)
/-- f covers g -/
def bCov (f g : Nat → Int32) : Bool := decide (f 0 ≤ g 0) && decide (g 1 ≤ f 1) && decide (f 2 ≤ g 2) && decide (g 3 ≤ f 3) && decide (f 4 ≤ g 4) && decide (g 5 ≤ f 5)
def bTch (f g : Nat → Int32) : Bool := decide (f 0 ≤ g 1) && decide (g 0 ≤ f 1) && decide (f 2 ≤ g 3) && decide (g 2 ≤ f 3) && decide (f 4 ≤ g 5) && decide (g 4 ≤ f 5)
def bHas (f : Nat → Int32) (k : Nat) (v : Int32) : Bool := decide (f (2 * k) ≤ v) && decide (v ≤ f (2 * k + 1))
def bPt (x y z : Int32) : Nat → Int32 := fun k => if k < 2 then x else if k < 4 then y else z
theorem f_wb_ne {I : fI} {b : Nat} {g : Nat → Int32} {o : Nat} (h : o ≠ b + 1) : f_wb I b g o = I o := by
  funext k
  simp [f_wb, h]
theorem f_wb_eq {I : fI} {b : Nat} {g : Nat → Int32} : f_wb I b g (b + 1) = g := by
  funext k
  simp [f_wb]
theorem f_wb_wb {I : fI} {b : Nat} {g g' : Nat → Int32} : f_wb (f_wb I b g) b g' = f_wb I b g' := by
  funext a k
  unfold f_wb
  by_cases h : a = b + 1
  · rw [if_pos h, if_pos h]
  · rw [if_neg h, if_neg h, if_neg h]
theorem k_six {k : Nat} (h : k < 6) : k = 0 ∨ k = 1 ∨ k = 2 ∨ k = 3 ∨ k = 4 ∨ k = 5 := by omega
theorem f_six {xs : List Value} {I : fI} {L : fL} {b : Nat} {v0 v1 v2 v3 v4 v5 : Int32} {g : Nat → Int32} (hl : f_ln (b + 1) = 6) (h0 : g 0 = v0) (h1 : g 1 = v1) (h2 : g 2 = v2) (h3 : g 3 = v3) (h4 : g 4 = v4) (h5 : g 5 = v5) : f_W xs (f_up (f_up (f_up (f_up (f_up (f_up I (b + 1) 0 v0) (b + 1) 1 v1) (b + 1) 2 v2) (b + 1) 3 v3) (b + 1) 4 v4) (b + 1) 5 v5) L = f_W xs (f_wb I b g) L := by
  apply f_W_congr
  intro a k _ hk
  unfold f_wb f_up
  by_cases ha : a = b + 1
  · subst ha
    rw [hl] at hk
    rcases k_six hk with rfl | rfl | rfl | rfl | rfl | rfl <;> simp [h0, h1, h2, h3, h4, h5]
  · simp [ha]
theorem f_up_ne {I : fI} {o a k : Nat} {v : Int32} (h : o ≠ a) : f_up I a k v o = I o := by
  funext j
  simp [f_up, h]
def gUp (g : Nat → Int32) (k : Nat) (v w : Int32) : Nat → Int32 := fun i => if i = 2 * k then v else if i = 2 * k + 1 then w else g i
theorem f_up2_wb {I : fI} {b k : Nat} {v w : Int32} {g : Nat → Int32} : f_up (f_up (f_wb I b g) (b + 1) (2 * k) v) (b + 1) (2 * k + 1) w = f_wb I b (gUp g k v w) := by
  funext a i
  unfold f_up f_wb gUp
  by_cases ha : a = b + 1
  · subst ha
    by_cases h1 : i = 2 * k + 1
    · subst h1
      simp
    · simp [h1]
  · simp [ha]
theorem f_wb_up {I : fI} {b k : Nat} {v : Int32} {g : Nat → Int32} : f_wb (f_up I (b + 1) k v) b g = f_wb I b g := by
  funext a i
  unfold f_up f_wb
  by_cases ha : a = b + 1
  · simp [ha]
  · simp [ha]
theorem i_nlt {a b : Int32} : (¬ a < b) = (b ≤ a) := propext Int32.not_lt
theorem i_nle {a b : Int32} : (¬ a ≤ b) = (b < a) := propext Int32.not_le
section BXS
variable {d b c : Nat} {xs : List Value} {I : fI} {L : fL} {Q : Option Value × jW → Prop}
theorem sp_least {k : Nat} (hb : bx b) (hk : k < 3) : Wp d 33 0 [some (.ref b), some (.int (nI k))] [] (f_W xs I L) Q = Q (some (.int (I (b + 1) (2 * k))), f_W xs I L) := by
  obtain ⟨h1, h2, h3, h4⟩ := hb
  have hk : k = 0 ∨ k = 1 ∨ k = 2 := by omega
  rcases hk with rfl | rfl | rfl <;> simp only [w33_0, w33_1, w33_4, w33_5, w33_6, w33_9, w33_10, w33_13, w33_14, w33_15, w33_16, w33_17, w33_20, w33_21, eq_self, Nat.zero_le, n_lt, n_le, n_eq, n_neg, n_cl, n_mul, n_add, z_0, z_1, z_2, sc_0, sc_i, sc_r, sc_l, sc_n, jc_n, jc_i, jc_r, jc_l, Option.toList_some, Option.toList_none, List.cons_append, List.nil_append, Nat.reduceLT, Nat.reduceLeDiff, Nat.reduceMul, Nat.reduceAdd, Nat.reduceSub, Nat.reduceEqDiff, not_false_eq_true, not_true_eq_false, false_or, or_false, true_or, or_true, false_imp_iff, true_imp_iff, and_true, true_and, forall_const, false_implies, true_implies, b_t0, b_f0, h1, h2, h3, h4]
theorem sp_greatest {k : Nat} (hb : bx b) (hk : k < 3) : Wp d 35 0 [some (.ref b), some (.int (nI k))] [] (f_W xs I L) Q = Q (some (.int (I (b + 1) (2 * k + 1))), f_W xs I L) := by
  obtain ⟨h1, h2, h3, h4⟩ := hb
  have hk : k = 0 ∨ k = 1 ∨ k = 2 := by omega
  rcases hk with rfl | rfl | rfl <;> simp only [w35_0, w35_1, w35_4, w35_5, w35_6, w35_9, w35_10, w35_13, w35_14, w35_15, w35_16, w35_17, w35_18, w35_19, w35_22, w35_23, eq_self, Nat.zero_le, n_lt, n_le, n_eq, n_neg, n_cl, n_mul, n_add, z_0, z_1, z_2, sc_0, sc_i, sc_r, sc_l, sc_n, jc_n, jc_i, jc_r, jc_l, Option.toList_some, Option.toList_none, List.cons_append, List.nil_append, Nat.reduceLT, Nat.reduceLeDiff, Nat.reduceMul, Nat.reduceAdd, Nat.reduceSub, Nat.reduceEqDiff, not_false_eq_true, not_true_eq_false, false_or, or_false, true_or, or_true, false_imp_iff, true_imp_iff, and_true, true_and, forall_const, false_implies, true_implies, b_t0, b_f0, h1, h2, h3, h4]
theorem sp_put {k : Nat} {x y : Int32} (hb : bx b) (hk : k < 3) : Wp d 5 0 [some (.ref b), some (.int (nI k)), some (.int x), some (.int y)] [] (f_W xs I L) Q = Q (none, f_W xs (f_up (f_up I (b + 1) (2 * k) x) (b + 1) (2 * k + 1) y) L) := by
  obtain ⟨h1, h2, h3, h4⟩ := hb
  have hk : k = 0 ∨ k = 1 ∨ k = 2 := by omega
  rcases hk with rfl | rfl | rfl <;> simp only [w5_0, w5_1, w5_4, w5_5, w5_6, w5_9, w5_10, w5_13, w5_14, w5_15, w5_16, w5_17, w5_18, w5_19, w5_22, w5_23, w5_24, w5_25, w5_26, w5_27, w5_28, w5_29, eq_self, Nat.zero_le, n_lt, n_le, n_eq, n_neg, n_cl, n_mul, n_add, z_0, z_1, z_2, sc_0, sc_i, sc_r, sc_l, sc_n, jc_n, jc_i, jc_r, jc_l, Option.toList_some, Option.toList_none, List.cons_append, List.nil_append, Nat.reduceLT, Nat.reduceLeDiff, Nat.reduceMul, Nat.reduceAdd, Nat.reduceSub, Nat.reduceEqDiff, not_false_eq_true, not_true_eq_false, false_or, or_false, true_or, or_true, false_imp_iff, true_imp_iff, and_true, true_and, forall_const, false_implies, true_implies, b_t0, b_f0, h1, h2, h3, h4]
theorem sp_putB {k : Nat} {x y : Int32} {g : Nat → Int32} (hb : bx b) (hk : k < 3) : Wp d 5 0 [some (.ref b), some (.int (nI k)), some (.int x), some (.int y)] [] (f_W xs (f_wb I b g) L) Q = Q (none, f_W xs (f_wb I b (gUp g k x y)) L) := by
  rw [sp_put hb hk, f_up2_wb]
theorem sp_putAll {x y : Int32} (hb : bx b) : Wp (d + 1) 4 0 [some (.ref b), some (.int x), some (.int y), none] [] (f_W xs I L) Q = Q (none, f_W xs (f_wb I b (fun k => if k % 2 = 0 then x else y)) L) := by
  obtain ⟨h1, h2, h3, h4⟩ := id hb
  simp only [w4_0, w4_1, w4_2, w4_3, w4_4, w4_7, w4_8, w4_9, w4_10, w4_11, w4_14, w4_17, w4_20, eq_self, Nat.zero_le, n_lt, n_le, n_eq, n_neg, n_cl, n_mul, n_add, z_0, z_1, z_2, sc_0, sc_i, sc_r, sc_l, sc_n, jc_n, jc_i, jc_r, jc_l, Option.toList_some, Option.toList_none, List.cons_append, List.nil_append, Nat.reduceLT, Nat.reduceLeDiff, Nat.reduceMul, Nat.reduceAdd, Nat.reduceSub, Nat.reduceEqDiff, not_false_eq_true, not_true_eq_false, false_or, or_false, true_or, or_true, false_imp_iff, true_imp_iff, and_true, true_and, forall_const, false_implies, true_implies, b_t0, b_f0, h1, sp_put hb]
  rw [f_six h3 (g := fun k => if k % 2 = 0 then x else y)] <;> rfl
theorem sp_copy (hb : bx b) (hc : bx c) (hn : c ≠ b) : Wp d 31 0 [some (.ref b), some (.ref c), none] [] (f_W xs I L) Q = Q (none, f_W xs (f_wb I b (I (c + 1))) L) := by
  obtain ⟨h1, h2, h3, h4⟩ := hb
  obtain ⟨g1, g2, g3, g4⟩ := hc
  have hn' : ¬ c + 1 = b + 1 := by omega
  simp only [w31_0, w31_1, w31_2, w31_3, w31_4, w31_7, w31_8, w31_11, w31_12, w31_15, w31_16, w31_17, w31_20, w31_21, w31_22, w31_23, w31_26, w31_29, eq_self, Nat.zero_le, n_lt, n_le, n_eq, n_neg, n_cl, n_mul, n_add, z_0, z_1, z_2, sc_0, sc_i, sc_r, sc_l, sc_n, jc_n, jc_i, jc_r, jc_l, Option.toList_some, Option.toList_none, List.cons_append, List.nil_append, Nat.reduceLT, Nat.reduceLeDiff, Nat.reduceMul, Nat.reduceAdd, Nat.reduceSub, Nat.reduceEqDiff, not_false_eq_true, not_true_eq_false, false_or, or_false, true_or, or_true, false_imp_iff, true_imp_iff, and_true, true_and, forall_const, false_implies, true_implies, b_t0, b_f0, h1, h2, h3, h4, g1, g2, g3, g4]
  rw [f_six h3 (g := I (c + 1))] <;> simp [f_up, hn']
theorem sp_meet (hb : bx b) (hc : bx c) (hn : c ≠ b) : Wp (d + 1) 32 0 [some (.ref b), some (.ref c), none] [] (f_W xs I L) Q = Q (none, f_W xs (f_wb I b (bMeet (I (b + 1)) (I (c + 1)))) L) := by
  obtain ⟨h1, h2, h3, h4⟩ := id hb
  obtain ⟨g1, g2, g3, g4⟩ := id hc
  have hn' : ¬ c + 1 = b + 1 := by omega
  simp only [w32_0, w32_1, w32_2, w32_3, w32_4, w32_7, w32_8, w32_9, w32_10, w32_11, w32_14, w32_15, w32_16, w32_19, w32_22, w32_23, w32_24, w32_27, w32_28, w32_29, w32_32, w32_35, w32_38, w32_41, w32_44, eq_self, Nat.zero_le, n_lt, n_le, n_eq, n_neg, n_cl, n_mul, n_add, z_0, z_1, z_2, sc_0, sc_i, sc_r, sc_l, sc_n, jc_n, jc_i, jc_r, jc_l, Option.toList_some, Option.toList_none, List.cons_append, List.nil_append, Nat.reduceLT, Nat.reduceLeDiff, Nat.reduceMul, Nat.reduceAdd, Nat.reduceSub, Nat.reduceEqDiff, not_false_eq_true, not_true_eq_false, false_or, or_false, true_or, or_true, false_imp_iff, true_imp_iff, and_true, true_and, forall_const, false_implies, true_implies, b_t0, b_f0, h1, h2, h3, h4, g1, g2, g3, g4, sp_least hb, sp_least hc, sp_greatest hb, sp_greatest hc, sp_put hb]
  rw [f_six h3 (g := bMeet (I (b + 1)) (I (c + 1)))] <;> simp [f_up, hn', bMeet]
theorem sp_join (hb : bx b) (hc : bx c) (hn : c ≠ b) : Wp (d + 1) 46 0 [some (.ref b), some (.ref c), none] [] (f_W xs I L) Q = Q (none, f_W xs (f_wb I b (bJoin (I (b + 1)) (I (c + 1)))) L) := by
  obtain ⟨h1, h2, h3, h4⟩ := id hb
  obtain ⟨g1, g2, g3, g4⟩ := id hc
  have hn' : ¬ c + 1 = b + 1 := by omega
  simp only [w46_0, w46_1, w46_2, w46_3, w46_4, w46_7, w46_8, w46_9, w46_10, w46_11, w46_14, w46_15, w46_16, w46_19, w46_22, w46_23, w46_24, w46_27, w46_28, w46_29, w46_32, w46_35, w46_38, w46_41, w46_44, eq_self, Nat.zero_le, n_lt, n_le, n_eq, n_neg, n_cl, n_mul, n_add, z_0, z_1, z_2, sc_0, sc_i, sc_r, sc_l, sc_n, jc_n, jc_i, jc_r, jc_l, Option.toList_some, Option.toList_none, List.cons_append, List.nil_append, Nat.reduceLT, Nat.reduceLeDiff, Nat.reduceMul, Nat.reduceAdd, Nat.reduceSub, Nat.reduceEqDiff, not_false_eq_true, not_true_eq_false, false_or, or_false, true_or, or_true, false_imp_iff, true_imp_iff, and_true, true_and, forall_const, false_implies, true_implies, b_t0, b_f0, h1, h2, h3, h4, g1, g2, g3, g4, sp_least hb, sp_least hc, sp_greatest hb, sp_greatest hc, sp_put hb]
  rw [f_six h3 (g := bJoin (I (b + 1)) (I (c + 1)))] <;> simp [f_up, hn', bJoin]
theorem sp_shift (hb : bx b) (hc : bx c) (hn : c ≠ b) : Wp (d + 1) 43 0 [some (.ref b), some (.ref c), none] [] (f_W xs I L) Q = Q (none, f_W xs (f_wb I b (bShift (I (b + 1)) (I (c + 1)))) L) := by
  obtain ⟨h1, h2, h3, h4⟩ := id hb
  obtain ⟨g1, g2, g3, g4⟩ := id hc
  have hn' : ¬ c + 1 = b + 1 := by omega
  simp only [w43_0, w43_1, w43_2, w43_3, w43_4, w43_7, w43_8, w43_9, w43_10, w43_11, w43_14, w43_15, w43_16, w43_19, w43_20, w43_21, w43_22, w43_25, w43_26, w43_27, w43_30, w43_31, w43_34, w43_37, w43_40, eq_self, Nat.zero_le, n_lt, n_le, n_eq, n_neg, n_cl, n_mul, n_add, z_0, z_1, z_2, sc_0, sc_i, sc_r, sc_l, sc_n, jc_n, jc_i, jc_r, jc_l, Option.toList_some, Option.toList_none, List.cons_append, List.nil_append, Nat.reduceLT, Nat.reduceLeDiff, Nat.reduceMul, Nat.reduceAdd, Nat.reduceSub, Nat.reduceEqDiff, not_false_eq_true, not_true_eq_false, false_or, or_false, true_or, or_true, false_imp_iff, true_imp_iff, and_true, true_and, forall_const, false_implies, true_implies, b_t0, b_f0, h1, h2, h3, h4, g1, g2, g3, g4, sp_least hb, sp_least hc, sp_greatest hb, sp_greatest hc, sp_put hb]
  rw [f_six h3 (g := bShift (I (b + 1)) (I (c + 1)))] <;> simp [f_up, hn', bShift]
theorem sp_isEmpty (hb : bx b) : Wp (d + 1) 37 0 [some (.ref b), none] [] (f_W xs I L) Q = Q (some (.int (b2 (bEmp (I (b + 1))))), f_W xs I L) := by
  obtain ⟨h1, h2, h3, h4⟩ := id hb
  simp only [w37_0, w37_1, w37_2, w37_3, w37_4, w37_7, w37_8, w37_9, w37_12, w37_13, w37_14, w37_17, w37_20, w37_21, w37_22, w37_25, w37_28, w37_29, eq_self, Nat.zero_le, n_lt, n_le, n_eq, n_neg, n_cl, n_mul, n_add, z_0, z_1, z_2, sc_0, sc_i, sc_r, sc_l, sc_n, jc_n, jc_i, jc_r, jc_l, Option.toList_some, Option.toList_none, List.cons_append, List.nil_append, Nat.reduceLT, Nat.reduceLeDiff, Nat.reduceMul, Nat.reduceAdd, Nat.reduceSub, Nat.reduceEqDiff, not_false_eq_true, not_true_eq_false, false_or, or_false, true_or, or_true, false_imp_iff, true_imp_iff, and_true, true_and, forall_const, false_implies, true_implies, b_t0, b_f0, h1, h2, h3, h4, sp_least hb, sp_greatest hb]
  by_cases q0 : I (b + 1) 0 ≤ I (b + 1) 1 <;> by_cases q1 : I (b + 1) 2 ≤ I (b + 1) 3 <;> by_cases q2 : I (b + 1) 4 ≤ I (b + 1) 5 <;> simp [bEmp, b2, q0, q1, q2, ← i_nle]
theorem sp_covers (hb : bx b) (hc : bx c) : Wp (d + 1) 45 0 [some (.ref b), some (.ref c), none] [] (f_W xs I L) Q = Q (some (.int (b2 (bCov (I (b + 1)) (I (c + 1))))), f_W xs I L) := by
  obtain ⟨h1, h2, h3, h4⟩ := id hb
  obtain ⟨g1, g2, g3, g4⟩ := id hc
  simp only [w45_0, w45_1, w45_2, w45_3, w45_4, w45_7, w45_8, w45_9, w45_12, w45_13, w45_14, w45_17, w45_20, w45_21, w45_22, w45_25, w45_26, w45_27, w45_30, w45_33, w45_34, w45_35, w45_38, w45_41, w45_42, eq_self, Nat.zero_le, n_lt, n_le, n_eq, n_neg, n_cl, n_mul, n_add, z_0, z_1, z_2, sc_0, sc_i, sc_r, sc_l, sc_n, jc_n, jc_i, jc_r, jc_l, Option.toList_some, Option.toList_none, List.cons_append, List.nil_append, Nat.reduceLT, Nat.reduceLeDiff, Nat.reduceMul, Nat.reduceAdd, Nat.reduceSub, Nat.reduceEqDiff, not_false_eq_true, not_true_eq_false, false_or, or_false, true_or, or_true, false_imp_iff, true_imp_iff, and_true, true_and, forall_const, false_implies, true_implies, b_t0, b_f0, h1, h2, h3, h4, g1, g2, g3, g4, sp_least hb, sp_greatest hb, sp_least hc, sp_greatest hc]
  generalize I (b + 1) = f
  generalize I (c + 1) = g
  by_cases q0 : f 0 ≤ g 0 <;> by_cases q1 : g 1 ≤ f 1 <;> by_cases q2 : f 2 ≤ g 2 <;> by_cases q3 : g 3 ≤ f 3 <;> by_cases q4 : f 4 ≤ g 4 <;> by_cases q5 : g 5 ≤ f 5 <;> simp [bCov, b2, q0, q1, q2, q3, q4, q5, ← i_nle]
theorem sp_touches (hb : bx b) (hc : bx c) : Wp (d + 1) 53 0 [some (.ref b), some (.ref c), none] [] (f_W xs I L) Q = Q (some (.int (b2 (bTch (I (b + 1)) (I (c + 1))))), f_W xs I L) := by
  obtain ⟨h1, h2, h3, h4⟩ := id hb
  obtain ⟨g1, g2, g3, g4⟩ := id hc
  simp only [w53_0, w53_1, w53_2, w53_3, w53_4, w53_7, w53_8, w53_9, w53_12, w53_13, w53_14, w53_17, w53_20, w53_21, w53_22, w53_25, w53_26, w53_27, w53_30, w53_33, w53_34, w53_35, w53_38, w53_41, w53_42, eq_self, Nat.zero_le, n_lt, n_le, n_eq, n_neg, n_cl, n_mul, n_add, z_0, z_1, z_2, sc_0, sc_i, sc_r, sc_l, sc_n, jc_n, jc_i, jc_r, jc_l, Option.toList_some, Option.toList_none, List.cons_append, List.nil_append, Nat.reduceLT, Nat.reduceLeDiff, Nat.reduceMul, Nat.reduceAdd, Nat.reduceSub, Nat.reduceEqDiff, not_false_eq_true, not_true_eq_false, false_or, or_false, true_or, or_true, false_imp_iff, true_imp_iff, and_true, true_and, forall_const, false_implies, true_implies, b_t0, b_f0, h1, h2, h3, h4, g1, g2, g3, g4, sp_least hb, sp_greatest hb, sp_least hc, sp_greatest hc]
  generalize I (b + 1) = f
  generalize I (c + 1) = g
  by_cases q0 : f 0 ≤ g 1 <;> by_cases q1 : g 0 ≤ f 1 <;> by_cases q2 : f 2 ≤ g 3 <;> by_cases q3 : g 2 ≤ f 3 <;> by_cases q4 : f 4 ≤ g 5 <;> by_cases q5 : g 4 ≤ f 5 <;> simp [bTch, b2, q0, q1, q2, q3, q4, q5, ← i_nle]
theorem sp_has {k : Nat} {v : Int32} (hb : bx b) (hk : k < 3) : Wp (d + 1) 62 0 [some (.ref b), some (.int (nI k)), some (.int v)] [] (f_W xs I L) Q = Q (some (.int (b2 (bHas (I (b + 1)) k v))), f_W xs I L) := by
  obtain ⟨h1, h2, h3, h4⟩ := id hb
  simp only [w62_0, w62_1, w62_2, w62_5, w62_6, w62_9, w62_10, w62_11, w62_12, w62_15, w62_18, w62_19, w62_22, w62_23, eq_self, Nat.zero_le, n_lt, n_le, n_eq, n_neg, n_cl, n_mul, n_add, z_0, z_1, z_2, sc_0, sc_i, sc_r, sc_l, sc_n, jc_n, jc_i, jc_r, jc_l, Option.toList_some, Option.toList_none, List.cons_append, List.nil_append, Nat.reduceLT, Nat.reduceLeDiff, Nat.reduceMul, Nat.reduceAdd, Nat.reduceSub, Nat.reduceEqDiff, not_false_eq_true, not_true_eq_false, false_or, or_false, true_or, or_true, false_imp_iff, true_imp_iff, and_true, true_and, forall_const, false_implies, true_implies, b_t0, b_f0, h1, h2, h3, h4, sp_least hb hk, sp_greatest hb hk]
  generalize I (b + 1) = f
  by_cases q0 : f (2 * k) ≤ v <;> by_cases q1 : v ≤ f (2 * k + 1) <;> simp [bHas, b2, q0, q1, ← i_nle]
theorem sp_hasPoint {x y z : Int32} (hb : bx b) : Wp (d + 2) 61 0 [some (.ref b), some (.int x), some (.int y), some (.int z)] [] (f_W xs I L) Q = Q (some (.int (b2 (bHas (I (b + 1)) 0 x && bHas (I (b + 1)) 1 y && bHas (I (b + 1)) 2 z))), f_W xs I L) := by
  obtain ⟨h1, h2, h3, h4⟩ := id hb
  simp only [w61_0, w61_1, w61_2, w61_3, w61_6, w61_9, w61_10, w61_11, w61_12, w61_15, w61_18, w61_19, w61_20, w61_21, w61_24, w61_27, w61_28, w61_31, w61_32, eq_self, Nat.zero_le, n_lt, n_le, n_eq, n_neg, n_cl, n_mul, n_add, z_0, z_1, z_2, sc_0, sc_i, sc_r, sc_l, sc_n, jc_n, jc_i, jc_r, jc_l, Option.toList_some, Option.toList_none, List.cons_append, List.nil_append, Nat.reduceLT, Nat.reduceLeDiff, Nat.reduceMul, Nat.reduceAdd, Nat.reduceSub, Nat.reduceEqDiff, not_false_eq_true, not_true_eq_false, false_or, or_false, true_or, or_true, false_imp_iff, true_imp_iff, and_true, true_and, forall_const, false_implies, true_implies, b_t0, b_f0, h1, h2, h3, h4, sp_has hb]
  cases bHas (I (b + 1)) 0 x <;> cases bHas (I (b + 1)) 1 y <;> cases bHas (I (b + 1)) 2 z <;> simp [b2]
theorem sp_putPoint {x y z : Int32} (hb : bx b) : Wp (d + 1) 88 0 [some (.ref b), some (.int x), some (.int y), some (.int z)] [] (f_W xs I L) Q = Q (none, f_W xs (f_wb I b (bPt x y z)) L) := by
  obtain ⟨h1, h2, h3, h4⟩ := id hb
  simp only [w88_0, w88_1, w88_2, w88_3, w88_4, w88_7, w88_8, w88_9, w88_10, w88_11, w88_14, w88_15, w88_16, w88_17, w88_18, w88_21, eq_self, Nat.zero_le, n_lt, n_le, n_eq, n_neg, n_cl, n_mul, n_add, z_0, z_1, z_2, sc_0, sc_i, sc_r, sc_l, sc_n, jc_n, jc_i, jc_r, jc_l, Option.toList_some, Option.toList_none, List.cons_append, List.nil_append, Nat.reduceLT, Nat.reduceLeDiff, Nat.reduceMul, Nat.reduceAdd, Nat.reduceSub, Nat.reduceEqDiff, not_false_eq_true, not_true_eq_false, false_or, or_false, true_or, or_true, false_imp_iff, true_imp_iff, and_true, true_and, forall_const, false_implies, true_implies, b_t0, b_f0, h1, h2, h3, h4, sp_put hb]
  rw [f_six h3 (g := bPt x y z)] <;> rfl
theorem sp_putSide {k : Nat} {v : Int32} (hb : bx b) (hk : k < 6) : Wp d 108 0 [some (.ref b), some (.int (nI k)), some (.int v)] [] (f_W xs I L) Q = Q (none, f_W xs (f_up I (b + 1) k v) L) := by
  obtain ⟨h1, h2, h3, h4⟩ := id hb
  rcases k_six hk with rfl | rfl | rfl | rfl | rfl | rfl <;> simp only [w108_0, w108_1, w108_4, w108_5, w108_6, w108_9, w108_10, w108_13, w108_14, w108_17, w108_18, w108_19, w108_20, eq_self, Nat.zero_le, n_lt, n_le, n_eq, n_neg, n_cl, n_mul, n_add, z_0, z_1, z_2, sc_0, sc_i, sc_r, sc_l, sc_n, jc_n, jc_i, jc_r, jc_l, Option.toList_some, Option.toList_none, List.cons_append, List.nil_append, Nat.reduceLT, Nat.reduceLeDiff, Nat.reduceMul, Nat.reduceAdd, Nat.reduceSub, Nat.reduceEqDiff, not_false_eq_true, not_true_eq_false, false_or, or_false, true_or, or_true, false_imp_iff, true_imp_iff, and_true, true_and, forall_const, false_implies, true_implies, b_t0, b_f0, h1, h2, h3, h4]
end BXS
