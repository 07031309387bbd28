/-! MACHINE -/
def hasM (I : fI) (m : Int32) : Bool := !decide (m < nI 0) && !decide (I 2 4 ≤ m)
def hasJ (I : fI) (j : Int32) : Bool := !decide (j < nI 0) && !decide (I 2 5 ≤ j)
def isVar (x : Int32) : Bool := !decide (x < nI 0) && !decide (nI 3 ≤ x)
theorem b2_t : b2 true = nI 1 := by simp [b2]
theorem b2_f : b2 false = nI 0 := by simp [b2]
/-- the numbers of START's states -/
def rSt (I : fI) (s : Nat) : Nat → Int32 := bMeet (I 6) (I (11 + 7 * s))
def rFl (I : fI) (m : Nat) (f : Nat → Int32) : Nat → Int32 := bMeet (bShift f (I (13 + 7 * m))) (I (11 + 7 * m))
def rS1 (I : fI) (j : Nat) (f : Nat → Int32) : Nat → Int32 := bMeet f (I (53 + 6 * j))
def bSet (I : fI) (j : Nat) (f : Nat → Int32) : Nat → Int32 := fun k => if k < 6 ∧ ¬ I (56 + 6 * j) (k / 2) = nI 0 then I (55 + 6 * j) k else f k
def rS3 (I : fI) (j t : Nat) (f : Nat → Int32) : Nat → Int32 := bMeet (bSet I j (rS1 I j f)) (I (11 + 7 * t))
def isB (x : Int32) : Prop := x = 0 ∨ x = 1
def gIf (I : fI) (j k : Nat) (g : Nat → Int32) : Nat → Int32 := if I (56 + 6 * j) k = nI 0 then g else gUp g k (I (55 + 6 * j) (2 * k)) (I (55 + 6 * j) (2 * k + 1))
theorem bSet_eq (I : fI) (j : Nat) (g : Nat → Int32) : bSet I j g = gIf I j 2 (gIf I j 1 (gIf I j 0 g)) := by
  funext k
  unfold bSet gIf
  by_cases hk : k < 6
  · rcases k_six hk with rfl | rfl | rfl | rfl | rfl | rfl <;> by_cases q0 : I (56 + 6 * j) 0 = nI 0 <;> by_cases q1 : I (56 + 6 * j) 1 = nI 0 <;> by_cases q2 : I (56 + 6 * j) 2 = nI 0 <;> simp [q0, q1, q2, gUp]
  · have : k ≠ 0 ∧ k ≠ 1 ∧ k ≠ 2 ∧ k ≠ 3 ∧ k ≠ 4 ∧ k ≠ 5 := by omega
    by_cases q0 : I (56 + 6 * j) 0 = nI 0 <;> by_cases q1 : I (56 + 6 * j) 1 = nI 0 <;> by_cases q2 : I (56 + 6 * j) 2 = nI 0 <;> simp [q0, q1, q2, gUp, hk, this]
theorem hasM_n {I : fI} {mc m : Nat} (h : I 2 4 = nI mc) (h6 : mc ≤ 6) (hm : m < 64) : hasM I (nI m) = decide (m < mc) := by
  unfold hasM
  simp only [h, n_le (show mc < 2147483648 by omega) (show m < 2147483648 by omega), n_lt (show m < 2147483648 by omega) (show 0 < 2147483648 by omega)]
  by_cases q : m < mc
  · have : ¬ mc ≤ m := by omega
    simp [q, this]
  · have : mc ≤ m := by omega
    simp [q, this]
theorem hasJ_n {I : fI} {mc m : Nat} (h : I 2 5 = nI mc) (h6 : mc ≤ 12) (hm : m < 64) : hasJ I (nI m) = decide (m < mc) := by
  unfold hasJ
  simp only [h, n_le (show mc < 2147483648 by omega) (show m < 2147483648 by omega), n_lt (show m < 2147483648 by omega) (show 0 < 2147483648 by omega)]
  by_cases q : m < mc
  · have : ¬ mc ≤ m := by omega
    simp [q, this]
  · have : mc ≤ m := by omega
    simp [q, this]
theorem isB_0 : isB 0 = True := by simp [isB]
theorem isB_1 : isB 1 = True := by simp [isB]
theorem i_z0 : ((0 : Int32) = nI 0) = True := by simp [nI]
theorem i_z1 : ((1 : Int32) = nI 0) = False := by simp [nI]
section MAC
variable {d b c f : Nat} {xs : List Value} {I : fI} {L : fL} {Q : Option Value × jW → Prop}
theorem sp_hasMode {m : Int32} : Wp d 16 0 [some (.ref 2), some (.int m)] [] (f_W xs I L) Q = Q (some (.int (b2 (hasM I m))), f_W xs I L) := by
  simp only [w16_0, w16_1, w16_4, w16_5, w16_6, w16_9, w16_12, w16_13, w16_16, w16_17, eq_self, Nat.zero_le, n_lt, n_le, n_eq, n_neg, n_cl, n_mul, n_add, z_0, z_1, z_2, sc_0, sc_i, sc_r, sc_l, sc_n, jc_n, jc_i, jc_r, jc_l, Option.toList_some, Option.toList_none, List.cons_append, List.nil_append, Nat.reduceLT, Nat.reduceLeDiff, Nat.reduceMul, Nat.reduceAdd, Nat.reduceSub, Nat.reduceEqDiff, not_false_eq_true, not_true_eq_false, false_or, or_false, true_or, or_true, false_imp_iff, true_imp_iff, and_true, true_and, forall_const, false_implies, true_implies, b_t0, b_f0, tg_2]
  by_cases q0 : m < nI 0 <;> by_cases q1 : I 2 4 ≤ m <;> simp [hasM, b2, q0, q1]
theorem sp_modeAt {mc m : Nat} (hmc : I 2 4 = nI mc) (hmc6 : mc ≤ 6) (hm : m < mc) : Wp (d + 1) 171 0 [some (.ref 2), some (.int (nI m))] [] (f_W xs I L) Q = Q (some (.ref (9 + 7 * m)), f_W xs I L) := by
  obtain ⟨l1, l2, -⟩ := lay_M m (by omega)
  have s1 : m < 2147483648 := by omega
  have s2 : ¬ 6 ≤ m := by omega
  simp only [w171_0, w171_1, w171_4, w171_5, w171_6, w171_9, w171_12, w171_13, w171_16, w171_17, w171_18, w171_18n, eq_self, Nat.zero_le, n_lt, n_le, n_eq, n_neg, n_cl, n_mul, n_add, z_0, z_1, z_2, sc_0, sc_i, sc_r, sc_l, sc_n, jc_n, jc_i, jc_r, jc_l, Option.toList_some, Option.toList_none, List.cons_append, List.nil_append, Nat.reduceLT, Nat.reduceLeDiff, Nat.reduceMul, Nat.reduceAdd, Nat.reduceSub, Nat.reduceEqDiff, not_false_eq_true, not_true_eq_false, false_or, or_false, true_or, or_true, false_imp_iff, true_imp_iff, and_true, true_and, forall_const, false_implies, true_implies, b_t0, b_f0, tg_1, rf_1_0, rf_1_1, rf_1_2, rf_1_3, rf_1_4, rf_1_5, rf_1_6, tg_2, rf_2_0, rf_2_1, rf_2_2, rf_2_3, tg_3, ln_3, tg_4, ln_4, tg_5, rf_5_0, tg_6, ln_6, tg_7, rf_7_0, tg_8, ln_8, tg_123, rf_123_0, rf_123_1, rf_123_2, rf_123_3, rf_123_4, tg_124, ln_124, tg_125, rf_125_0, tg_126, ln_126, tg_127, rf_127_0, tg_128, ln_128, tg_129, ln_129, tg_322, rf_322_0, rf_322_1, rf_322_2, rf_322_3, tg_323, ln_323, tg_324, ln_324, tg_325, rf_325_0, rf_325_1, rf_325_2, tg_326, rf_326_0, tg_327, ln_327, tg_328, rf_328_0, tg_329, ln_329, tg_330, rf_330_0, rf_330_1, rf_330_2, tg_331, rf_331_0, tg_332, ln_332, tg_333, rf_333_0, tg_334, ln_334, tg_335, ln_335, tg_336, rf_336_0, tg_337, ln_337, tg_339, ln_339, tg_346, rf_346_1, rf_346_2, rf_346_4, rf_346_5, rf_346_6, rf_346_7, rf_346_8, rf_346_11, rf_346_13, rf_346_14, rf_346_15, rf_346_17, rf_346_18, rf_346_19, rf_346_20, rf_346_21, rf_346_22, rf_346_26, rf_346_28, rf_346_29, rf_346_32, rf_346_34, rf_346_35, rf_346_36, tg_347, ln_347, tg_348, ln_348, tg_349, ln_349, tg_350, ln_350, tg_351, ln_351, tg_352, ln_352, tg_353, ln_353, tg_354, ln_354, tg_355, ln_355, tg_356, ln_356, tg_357, ln_357, tg_358, ln_358, tg_359, ln_359, tg_360, ln_360, tg_361, ln_361, tg_362, ln_362, tg_363, ln_363, tg_364, ln_364, tg_365, ln_365, tg_366, ln_366, tg_367, ln_367, tg_368, ln_368, tg_369, ln_369, tg_370, ln_370, sp_hasMode, hasM_n hmc hmc6 (show m < 64 by omega), hm, decide_true, b2_t, n_cl s1, n_neg s1, s2, l1, l2]
theorem sp_hasJump {m : Int32} : Wp d 22 0 [some (.ref 2), some (.int m)] [] (f_W xs I L) Q = Q (some (.int (b2 (hasJ I m))), f_W xs I L) := by
  simp only [w22_0, w22_1, w22_4, w22_5, w22_6, w22_9, w22_12, w22_13, w22_16, w22_17, eq_self, Nat.zero_le, n_lt, n_le, n_eq, n_neg, n_cl, n_mul, n_add, z_0, z_1, z_2, sc_0, sc_i, sc_r, sc_l, sc_n, jc_n, jc_i, jc_r, jc_l, Option.toList_some, Option.toList_none, List.cons_append, List.nil_append, Nat.reduceLT, Nat.reduceLeDiff, Nat.reduceMul, Nat.reduceAdd, Nat.reduceSub, Nat.reduceEqDiff, not_false_eq_true, not_true_eq_false, false_or, or_false, true_or, or_true, false_imp_iff, true_imp_iff, and_true, true_and, forall_const, false_implies, true_implies, b_t0, b_f0, tg_2]
  by_cases q0 : m < nI 0 <;> by_cases q1 : I 2 5 ≤ m <;> simp [hasJ, b2, q0, q1]
theorem sp_isVariable {x : Int32} {w : jW} : Wp d 18 0 [some (.int x)] [] w Q = Q (some (.int (b2 (isVar x))), w) := by
  simp only [w18_0, w18_1, w18_4, w18_5, w18_6, w18_9, w18_10, w18_13, w18_14, eq_self, Nat.zero_le, n_lt, n_le, n_eq, n_neg, n_cl, n_mul, n_add, z_0, z_1, z_2, sc_0, sc_i, sc_r, sc_l, sc_n, jc_n, jc_i, jc_r, jc_l, Option.toList_some, Option.toList_none, List.cons_append, List.nil_append, Nat.reduceLT, Nat.reduceLeDiff, Nat.reduceMul, Nat.reduceAdd, Nat.reduceSub, Nat.reduceEqDiff, not_false_eq_true, not_true_eq_false, false_or, or_false, true_or, or_true, false_imp_iff, true_imp_iff, and_true, true_and, forall_const, false_implies, true_implies, b_t0, b_f0]
  by_cases q0 : x < nI 0 <;> by_cases q1 : nI 3 ≤ x <;> simp [isVar, b2, q0, q1]
theorem isVar_n {k : Nat} (hk : k < 3) : isVar (nI k) = true := by
  have hk : k = 0 ∨ k = 1 ∨ k = 2 := by omega
  rcases hk with rfl | rfl | rfl <;> decide
theorem sp_sets {j k : Nat} (hj : j < 12) (hk : k < 3) (hb : isB (I (56 + 6 * j) k)) : Wp (d + 1) 48 0 [some (.ref (51 + 6 * j)), some (.int (nI k))] [] (f_W xs I L) Q = Q (some (.int (I (56 + 6 * j) k)), f_W xs I L) := by
  obtain ⟨-, h1, -, -, h4, h5, h6⟩ := lay_J j hj
  have hk' : ¬ 3 ≤ k := by omega
  have hk2 : k < 2147483648 := by omega
  rcases hb with q | q
  · simp only [w48_0, w48_1, w48_4, w48_7, w48_8, w48_11, w48_12, w48_13, w48_16, w48_17, w48_20, w48_21, eq_self, Nat.zero_le, n_lt, n_le, n_eq, n_neg, n_cl, n_mul, n_add, z_0, z_1, z_2, sc_0, sc_i, sc_r, sc_l, sc_n, jc_n, jc_i, jc_r, jc_l, Option.toList_some, Option.toList_none, List.cons_append, List.nil_append, Nat.reduceLT, Nat.reduceLeDiff, Nat.reduceMul, Nat.reduceAdd, Nat.reduceSub, Nat.reduceEqDiff, not_false_eq_true, not_true_eq_false, false_or, or_false, true_or, or_true, false_imp_iff, true_imp_iff, and_true, true_and, forall_const, false_implies, true_implies, b_t0, b_f0, h1, h4, h5, h6, sp_isVariable, isVar_n hk, b2_t, hk', n_cl hk2, n_neg hk2, q]
    simp [nI]
  · simp only [w48_0, w48_1, w48_4, w48_7, w48_8, w48_11, w48_12, w48_13, w48_16, w48_17, w48_20, w48_21, eq_self, Nat.zero_le, n_lt, n_le, n_eq, n_neg, n_cl, n_mul, n_add, z_0, z_1, z_2, sc_0, sc_i, sc_r, sc_l, sc_n, jc_n, jc_i, jc_r, jc_l, Option.toList_some, Option.toList_none, List.cons_append, List.nil_append, Nat.reduceLT, Nat.reduceLeDiff, Nat.reduceMul, Nat.reduceAdd, Nat.reduceSub, Nat.reduceEqDiff, not_false_eq_true, not_true_eq_false, false_or, or_false, true_or, or_true, false_imp_iff, true_imp_iff, and_true, true_and, forall_const, false_implies, true_implies, b_t0, b_f0, h1, h4, h5, h6, sp_isVariable, isVar_n hk, b2_t, hk', n_cl hk2, n_neg hk2, q]
    simp [nI]
theorem sp_begin {mc s : Nat} (hmc : I 2 4 = nI mc) (hmc6 : mc ≤ 6) (hs : I 2 6 = nI s) (hs6 : s < 6) (hc : bx c) (hc2 : 121 < c) : Wp (d + 2) 30 0 [some (.ref 2), some (.ref c)] [] (f_W xs I L) Q = if s < mc then Q (some (.int (b2 (!bEmp (rSt I s)))), f_W xs (f_wb I c (rSt I s)) L) else Q (some (.int (b2 false)), f_W xs I L) := by
  obtain ⟨l1, l2, l3, l4, l5⟩ := lay_M s hs6
  have s1 : s < 2147483648 := by omega
  have s2 : ¬ 6 ≤ s := by omega
  have n1 : (5 : Nat) ≠ c := by omega
  have n2 : 10 + 7 * s ≠ c := by omega
  have n3 : 10 + 7 * s + 1 ≠ c + 1 := by omega
  have n5 : (2 : Nat) ≠ c + 1 := by omega
  have h1 := hc.1
  by_cases q : s < mc
  · simp only [w30_0, w30_1, w30_2, w30_5, w30_8, w30_11, w30_12, w30_13, w30_14, w30_15, w30_18, w30_21, w30_22, w30_23, w30_26, w30_27, w30_30, w30_31, w30_34, w30_37, w30_38, w30_41, w30_44, w30_45, w30_48, w30_49, eq_self, Nat.zero_le, n_lt, n_le, n_eq, n_neg, n_cl, n_mul, n_add, z_0, z_1, z_2, sc_0, sc_i, sc_r, sc_l, sc_n, jc_n, jc_i, jc_r, jc_l, Option.toList_some, Option.toList_none, List.cons_append, List.nil_append, Nat.reduceLT, Nat.reduceLeDiff, Nat.reduceMul, Nat.reduceAdd, Nat.reduceSub, Nat.reduceEqDiff, not_false_eq_true, not_true_eq_false, false_or, or_false, true_or, or_true, false_imp_iff, true_imp_iff, and_true, true_and, forall_const, false_implies, true_implies, b_t0, b_f0, tg_1, rf_1_0, rf_1_1, rf_1_2, rf_1_3, rf_1_4, rf_1_5, rf_1_6, tg_2, rf_2_0, rf_2_1, rf_2_2, rf_2_3, tg_3, ln_3, tg_4, ln_4, tg_5, rf_5_0, tg_6, ln_6, tg_7, rf_7_0, tg_8, ln_8, tg_123, rf_123_0, rf_123_1, rf_123_2, rf_123_3, rf_123_4, tg_124, ln_124, tg_125, rf_125_0, tg_126, ln_126, tg_127, rf_127_0, tg_128, ln_128, tg_129, ln_129, tg_322, rf_322_0, rf_322_1, rf_322_2, rf_322_3, tg_323, ln_323, tg_324, ln_324, tg_325, rf_325_0, rf_325_1, rf_325_2, tg_326, rf_326_0, tg_327, ln_327, tg_328, rf_328_0, tg_329, ln_329, tg_330, rf_330_0, rf_330_1, rf_330_2, tg_331, rf_331_0, tg_332, ln_332, tg_333, rf_333_0, tg_334, ln_334, tg_335, ln_335, tg_336, rf_336_0, tg_337, ln_337, tg_339, ln_339, tg_346, rf_346_1, rf_346_2, rf_346_4, rf_346_5, rf_346_6, rf_346_7, rf_346_8, rf_346_11, rf_346_13, rf_346_14, rf_346_15, rf_346_17, rf_346_18, rf_346_19, rf_346_20, rf_346_21, rf_346_22, rf_346_26, rf_346_28, rf_346_29, rf_346_32, rf_346_34, rf_346_35, rf_346_36, tg_347, ln_347, tg_348, ln_348, tg_349, ln_349, tg_350, ln_350, tg_351, ln_351, tg_352, ln_352, tg_353, ln_353, tg_354, ln_354, tg_355, ln_355, tg_356, ln_356, tg_357, ln_357, tg_358, ln_358, tg_359, ln_359, tg_360, ln_360, tg_361, ln_361, tg_362, ln_362, tg_363, ln_363, tg_364, ln_364, tg_365, ln_365, tg_366, ln_366, tg_367, ln_367, tg_368, ln_368, tg_369, ln_369, tg_370, ln_370, sp_hasMode, hs, hasM_n hmc hmc6 (show s < 64 by omega), q, decide_true, sp_copy hc bx_5 n1, sp_meet hc (bx_sp hs6) n2, sp_isEmpty hc, h1, l1, l2, l3, n_cl s1, n_neg s1, s2, f_wb_ne n5, f_wb_ne n3, f_wb_wb, f_wb_eq, if_true]
    unfold rSt
    rw [show 11 + 7 * s = 10 + 7 * s + 1 by omega]
    generalize bEmp (bMeet (I 6) (I (10 + 7 * s + 1))) = e
    cases e <;> simp [b2]
  · simp only [w30_0, w30_1, w30_2, w30_5, w30_8, w30_11, w30_12, w30_13, w30_14, w30_15, w30_18, w30_21, w30_22, w30_23, w30_26, w30_27, w30_30, w30_31, w30_34, w30_37, w30_38, w30_41, w30_44, w30_45, w30_48, w30_49, eq_self, Nat.zero_le, n_lt, n_le, n_eq, n_neg, n_cl, n_mul, n_add, z_0, z_1, z_2, sc_0, sc_i, sc_r, sc_l, sc_n, jc_n, jc_i, jc_r, jc_l, Option.toList_some, Option.toList_none, List.cons_append, List.nil_append, Nat.reduceLT, Nat.reduceLeDiff, Nat.reduceMul, Nat.reduceAdd, Nat.reduceSub, Nat.reduceEqDiff, not_false_eq_true, not_true_eq_false, false_or, or_false, true_or, or_true, false_imp_iff, true_imp_iff, and_true, true_and, forall_const, false_implies, true_implies, b_t0, b_f0, tg_1, rf_1_0, rf_1_1, rf_1_2, rf_1_3, rf_1_4, rf_1_5, rf_1_6, tg_2, rf_2_0, rf_2_1, rf_2_2, rf_2_3, tg_3, ln_3, tg_4, ln_4, tg_5, rf_5_0, tg_6, ln_6, tg_7, rf_7_0, tg_8, ln_8, tg_123, rf_123_0, rf_123_1, rf_123_2, rf_123_3, rf_123_4, tg_124, ln_124, tg_125, rf_125_0, tg_126, ln_126, tg_127, rf_127_0, tg_128, ln_128, tg_129, ln_129, tg_322, rf_322_0, rf_322_1, rf_322_2, rf_322_3, tg_323, ln_323, tg_324, ln_324, tg_325, rf_325_0, rf_325_1, rf_325_2, tg_326, rf_326_0, tg_327, ln_327, tg_328, rf_328_0, tg_329, ln_329, tg_330, rf_330_0, rf_330_1, rf_330_2, tg_331, rf_331_0, tg_332, ln_332, tg_333, rf_333_0, tg_334, ln_334, tg_335, ln_335, tg_336, rf_336_0, tg_337, ln_337, tg_339, ln_339, tg_346, rf_346_1, rf_346_2, rf_346_4, rf_346_5, rf_346_6, rf_346_7, rf_346_8, rf_346_11, rf_346_13, rf_346_14, rf_346_15, rf_346_17, rf_346_18, rf_346_19, rf_346_20, rf_346_21, rf_346_22, rf_346_26, rf_346_28, rf_346_29, rf_346_32, rf_346_34, rf_346_35, rf_346_36, tg_347, ln_347, tg_348, ln_348, tg_349, ln_349, tg_350, ln_350, tg_351, ln_351, tg_352, ln_352, tg_353, ln_353, tg_354, ln_354, tg_355, ln_355, tg_356, ln_356, tg_357, ln_357, tg_358, ln_358, tg_359, ln_359, tg_360, ln_360, tg_361, ln_361, tg_362, ln_362, tg_363, ln_363, tg_364, ln_364, tg_365, ln_365, tg_366, ln_366, tg_367, ln_367, tg_368, ln_368, tg_369, ln_369, tg_370, ln_370, sp_hasMode, hs, hasM_n hmc hmc6 (show s < 64 by omega), q, decide_false, if_false, b2_f]
theorem sp_flow {mc m : Nat} (hmc : I 2 4 = nI mc) (hmc6 : mc ≤ 6) (hm : m < mc) (hf : bx f) (hc : bx c) (hc2 : 121 < c) (hfc : f ≠ c) : Wp (d + 2) 42 0 [some (.ref 2), some (.int (nI m)), some (.ref f), some (.ref c), none] [] (f_W xs I L) Q = Q (some (.int (b2 (!bEmp (rFl I m (I (f + 1)))))), f_W xs (f_wb I c (rFl I m (I (f + 1)))) L) := by
  have hm6 : m < 6 := by omega
  obtain ⟨l1, l2, l3, l4, l5⟩ := lay_M m hm6
  have n2 : 10 + 7 * m ≠ c := by omega
  have n3 : 10 + 7 * m + 1 ≠ c + 1 := by omega
  have n4 : 12 + 7 * m ≠ c := by omega
  have n6 : 12 + 7 * m + 1 ≠ c + 1 := by omega
  have h1 := hc.1
  have h2 := hf.1
  simp only [w42_0, w42_1, w42_2, w42_5, w42_7, w42_8, w42_9, w42_12, w42_13, w42_15, w42_18, w42_21, w42_22, w42_24, w42_27, w42_30, w42_31, w42_34, w42_37, w42_38, w42_41, w42_42, eq_self, Nat.zero_le, n_lt, n_le, n_eq, n_neg, n_cl, n_mul, n_add, z_0, z_1, z_2, sc_0, sc_i, sc_r, sc_l, sc_n, jc_n, jc_i, jc_r, jc_l, Option.toList_some, Option.toList_none, List.cons_append, List.nil_append, Nat.reduceLT, Nat.reduceLeDiff, Nat.reduceMul, Nat.reduceAdd, Nat.reduceSub, Nat.reduceEqDiff, not_false_eq_true, not_true_eq_false, false_or, or_false, true_or, or_true, false_imp_iff, true_imp_iff, and_true, true_and, forall_const, false_implies, true_implies, b_t0, b_f0, tg_1, rf_1_0, rf_1_1, rf_1_2, rf_1_3, rf_1_4, rf_1_5, rf_1_6, tg_2, rf_2_0, rf_2_1, rf_2_2, rf_2_3, tg_3, ln_3, tg_4, ln_4, tg_5, rf_5_0, tg_6, ln_6, tg_7, rf_7_0, tg_8, ln_8, tg_123, rf_123_0, rf_123_1, rf_123_2, rf_123_3, rf_123_4, tg_124, ln_124, tg_125, rf_125_0, tg_126, ln_126, tg_127, rf_127_0, tg_128, ln_128, tg_129, ln_129, tg_322, rf_322_0, rf_322_1, rf_322_2, rf_322_3, tg_323, ln_323, tg_324, ln_324, tg_325, rf_325_0, rf_325_1, rf_325_2, tg_326, rf_326_0, tg_327, ln_327, tg_328, rf_328_0, tg_329, ln_329, tg_330, rf_330_0, rf_330_1, rf_330_2, tg_331, rf_331_0, tg_332, ln_332, tg_333, rf_333_0, tg_334, ln_334, tg_335, ln_335, tg_336, rf_336_0, tg_337, ln_337, tg_339, ln_339, tg_346, rf_346_1, rf_346_2, rf_346_4, rf_346_5, rf_346_6, rf_346_7, rf_346_8, rf_346_11, rf_346_13, rf_346_14, rf_346_15, rf_346_17, rf_346_18, rf_346_19, rf_346_20, rf_346_21, rf_346_22, rf_346_26, rf_346_28, rf_346_29, rf_346_32, rf_346_34, rf_346_35, rf_346_36, tg_347, ln_347, tg_348, ln_348, tg_349, ln_349, tg_350, ln_350, tg_351, ln_351, tg_352, ln_352, tg_353, ln_353, tg_354, ln_354, tg_355, ln_355, tg_356, ln_356, tg_357, ln_357, tg_358, ln_358, tg_359, ln_359, tg_360, ln_360, tg_361, ln_361, tg_362, ln_362, tg_363, ln_363, tg_364, ln_364, tg_365, ln_365, tg_366, ln_366, tg_367, ln_367, tg_368, ln_368, tg_369, ln_369, tg_370, ln_370, sp_modeAt hmc hmc6 hm, sp_copy hc hf hfc, sp_meet hc (bx_sp hm6) n2, sp_shift hc (bx_sl hm6) n4, sp_isEmpty hc, h1, h2, l1, l2, l3, l4, f_wb_ne n6, f_wb_ne n3, f_wb_wb, f_wb_eq]
  unfold rFl
  rw [show 13 + 7 * m = 12 + 7 * m + 1 by omega, show 11 + 7 * m = 10 + 7 * m + 1 by omega]
  generalize bEmp _ = e
  cases e <;> simp [b2]
theorem sp_spring {mc j t : Nat} (hj : j < 12) (hmc : I 2 4 = nI mc) (hmc6 : mc ≤ 6) (ht : I (51 + 6 * j) 4 = nI t) (htm : t < mc) (hb : ∀ k, k < 3 → isB (I (56 + 6 * j) k)) (hf : bx f) (hc : bx c) (hc2 : 121 < c) (hfc : f ≠ c) : Wp (d + 2) 47 0 [some (.ref 2), some (.ref (51 + 6 * j)), some (.ref f), some (.ref c), none] [] (f_W xs I L) Q = if bEmp (rS1 I j (I (f + 1))) = true then Q (some (.int (b2 false)), f_W xs (f_wb I c (rS1 I j (I (f + 1)))) L) else Q (some (.int (b2 (!bEmp (rS3 I j t (I (f + 1)))))), f_W xs (f_wb I c (rS3 I j t (I (f + 1)))) L) := by
  have ht6 : t < 6 := by omega
  obtain ⟨l1, l2, l3, l4, l5, l6, l7⟩ := lay_J j hj
  obtain ⟨m1, m2, m3, -, -⟩ := lay_M t ht6
  have hMA : ∀ (d : Nat) (g : Nat → Int32) (Q : Option Value × jW → Prop), Wp (d + 1) 171 0 [some (.ref 2), some (.int (nI t))] [] (f_W xs (f_wb I c g) L) Q = Q (some (.ref (9 + 7 * t)), f_W xs (f_wb I c g) L) := fun d g Q => sp_modeAt (by rw [f_wb_ne (by omega)]; exact hmc) hmc6 htm
  have hcn : ∀ x, x < 123 → x ≠ c + 1 := by omega
  have n1 : 52 + 6 * j ≠ c := by omega
  have n2 := hcn (52 + 6 * j + 1) (by omega)
  have n3 := hcn (54 + 6 * j + 1) (by omega)
  have n4 := hcn (56 + 6 * j) (by omega)
  have n5 := hcn (51 + 6 * j) (by omega)
  have n6 : 10 + 7 * t ≠ c := by omega
  have n7 := hcn (10 + 7 * t + 1) (by omega)
  have h1 := hc.1
  have h2 := hf.1
  have s1 : t < 2147483648 := by omega
  have s2 : ¬ 6 ≤ t := by omega
  have e1 : rS1 I j (I (f + 1)) = bMeet (I (f + 1)) (I (52 + 6 * j + 1)) := by unfold rS1; rw [show 53 + 6 * j = 52 + 6 * j + 1 by omega]
  have e3 : rS3 I j t (I (f + 1)) = bMeet (gIf I j 2 (gIf I j 1 (gIf I j 0 (rS1 I j (I (f + 1)))))) (I (10 + 7 * t + 1)) := by unfold rS3; rw [bSet_eq, show 11 + 7 * t = 10 + 7 * t + 1 by omega]
  rw [e3, e1]
  generalize hg : bMeet (I (f + 1)) (I (52 + 6 * j + 1)) = g
  unfold gIf
  rw [show 55 + 6 * j = 54 + 6 * j + 1 by omega]
  cases hE : bEmp g with
  | true =>
    simp only [w47_0, w47_1, w47_2, w47_5, w47_6, w47_7, w47_10, w47_13, w47_14, w47_17, w47_20, w47_21, w47_22, w47_23, w47_25, w47_27, w47_28, w47_31, w47_32, w47_34, w47_37, w47_40, w47_41, w47_43, w47_44, w47_47, w47_49, w47_52, w47_53, w47_56, w47_58, w47_61, w47_64, w47_67, w47_70, w47_71, w47_72, w47_73, w47_76, w47_79, w47_82, w47_85, w47_86, w47_89, w47_92, w47_93, w47_96, w47_97, eq_self, Nat.zero_le, n_lt, n_le, n_eq, n_neg, n_cl, n_mul, n_add, z_0, z_1, z_2, sc_0, sc_i, sc_r, sc_l, sc_n, jc_n, jc_i, jc_r, jc_l, Option.toList_some, Option.toList_none, List.cons_append, List.nil_append, Nat.reduceLT, Nat.reduceLeDiff, Nat.reduceMul, Nat.reduceAdd, Nat.reduceSub, Nat.reduceEqDiff, not_false_eq_true, not_true_eq_false, false_or, or_false, true_or, or_true, false_imp_iff, true_imp_iff, and_true, true_and, forall_const, false_implies, true_implies, b_t0, b_f0, tg_1, rf_1_0, rf_1_1, rf_1_2, rf_1_3, rf_1_4, rf_1_5, rf_1_6, tg_2, rf_2_0, rf_2_1, rf_2_2, rf_2_3, tg_3, ln_3, tg_4, ln_4, tg_5, rf_5_0, tg_6, ln_6, tg_7, rf_7_0, tg_8, ln_8, tg_123, rf_123_0, rf_123_1, rf_123_2, rf_123_3, rf_123_4, tg_124, ln_124, tg_125, rf_125_0, tg_126, ln_126, tg_127, rf_127_0, tg_128, ln_128, tg_129, ln_129, tg_322, rf_322_0, rf_322_1, rf_322_2, rf_322_3, tg_323, ln_323, tg_324, ln_324, tg_325, rf_325_0, rf_325_1, rf_325_2, tg_326, rf_326_0, tg_327, ln_327, tg_328, rf_328_0, tg_329, ln_329, tg_330, rf_330_0, rf_330_1, rf_330_2, tg_331, rf_331_0, tg_332, ln_332, tg_333, rf_333_0, tg_334, ln_334, tg_335, ln_335, tg_336, rf_336_0, tg_337, ln_337, tg_339, ln_339, tg_346, rf_346_1, rf_346_2, rf_346_4, rf_346_5, rf_346_6, rf_346_7, rf_346_8, rf_346_11, rf_346_13, rf_346_14, rf_346_15, rf_346_17, rf_346_18, rf_346_19, rf_346_20, rf_346_21, rf_346_22, rf_346_26, rf_346_28, rf_346_29, rf_346_32, rf_346_34, rf_346_35, rf_346_36, tg_347, ln_347, tg_348, ln_348, tg_349, ln_349, tg_350, ln_350, tg_351, ln_351, tg_352, ln_352, tg_353, ln_353, tg_354, ln_354, tg_355, ln_355, tg_356, ln_356, tg_357, ln_357, tg_358, ln_358, tg_359, ln_359, tg_360, ln_360, tg_361, ln_361, tg_362, ln_362, tg_363, ln_363, tg_364, ln_364, tg_365, ln_365, tg_366, ln_366, tg_367, ln_367, tg_368, ln_368, tg_369, ln_369, tg_370, ln_370, sp_copy hc hf hfc, sp_meet hc (bx_ga hj) n1, sp_isEmpty hc, h1, h2, l1, l2, l3, l4, f_wb_ne n2, f_wb_wb, f_wb_eq, hg, hE, b2_f, if_true, Bool.true_eq_false, reduceCtorEq]
  | false =>
    have z0 := hb 0 (by omega)
    have z1 := hb 1 (by omega)
    have z2 := hb 2 (by omega)
    rcases id z0 with q0 | q0 <;> rcases id z1 with q1 | q1 <;> rcases id z2 with q2 | q2
    all_goals
      simp only [w47_0, w47_1, w47_2, w47_5, w47_6, w47_7, w47_10, w47_13, w47_14, w47_17, w47_20, w47_21, w47_22, w47_23, w47_25, w47_27, w47_28, w47_31, w47_32, w47_34, w47_37, w47_40, w47_41, w47_43, w47_44, w47_47, w47_49, w47_52, w47_53, w47_56, w47_58, w47_61, w47_64, w47_67, w47_70, w47_71, w47_72, w47_73, w47_76, w47_79, w47_82, w47_85, w47_86, w47_89, w47_92, w47_93, w47_96, w47_97, eq_self, Nat.zero_le, n_lt, n_le, n_eq, n_neg, n_cl, n_mul, n_add, z_0, z_1, z_2, sc_0, sc_i, sc_r, sc_l, sc_n, jc_n, jc_i, jc_r, jc_l, Option.toList_some, Option.toList_none, List.cons_append, List.nil_append, Nat.reduceLT, Nat.reduceLeDiff, Nat.reduceMul, Nat.reduceAdd, Nat.reduceSub, Nat.reduceEqDiff, not_false_eq_true, not_true_eq_false, false_or, or_false, true_or, or_true, false_imp_iff, true_imp_iff, and_true, true_and, forall_const, false_implies, true_implies, b_t0, b_f0, tg_1, rf_1_0, rf_1_1, rf_1_2, rf_1_3, rf_1_4, rf_1_5, rf_1_6, tg_2, rf_2_0, rf_2_1, rf_2_2, rf_2_3, tg_3, ln_3, tg_4, ln_4, tg_5, rf_5_0, tg_6, ln_6, tg_7, rf_7_0, tg_8, ln_8, tg_123, rf_123_0, rf_123_1, rf_123_2, rf_123_3, rf_123_4, tg_124, ln_124, tg_125, rf_125_0, tg_126, ln_126, tg_127, rf_127_0, tg_128, ln_128, tg_129, ln_129, tg_322, rf_322_0, rf_322_1, rf_322_2, rf_322_3, tg_323, ln_323, tg_324, ln_324, tg_325, rf_325_0, rf_325_1, rf_325_2, tg_326, rf_326_0, tg_327, ln_327, tg_328, rf_328_0, tg_329, ln_329, tg_330, rf_330_0, rf_330_1, rf_330_2, tg_331, rf_331_0, tg_332, ln_332, tg_333, rf_333_0, tg_334, ln_334, tg_335, ln_335, tg_336, rf_336_0, tg_337, ln_337, tg_339, ln_339, tg_346, rf_346_1, rf_346_2, rf_346_4, rf_346_5, rf_346_6, rf_346_7, rf_346_8, rf_346_11, rf_346_13, rf_346_14, rf_346_15, rf_346_17, rf_346_18, rf_346_19, rf_346_20, rf_346_21, rf_346_22, rf_346_26, rf_346_28, rf_346_29, rf_346_32, rf_346_34, rf_346_35, rf_346_36, tg_347, ln_347, tg_348, ln_348, tg_349, ln_349, tg_350, ln_350, tg_351, ln_351, tg_352, ln_352, tg_353, ln_353, tg_354, ln_354, tg_355, ln_355, tg_356, ln_356, tg_357, ln_357, tg_358, ln_358, tg_359, ln_359, tg_360, ln_360, tg_361, ln_361, tg_362, ln_362, tg_363, ln_363, tg_364, ln_364, tg_365, ln_365, tg_366, ln_366, tg_367, ln_367, tg_368, ln_368, tg_369, ln_369, tg_370, ln_370, sp_copy hc hf hfc, sp_meet hc (bx_ga hj) n1, sp_meet hc (bx_sp ht6) n6, sp_isEmpty hc, sp_sets hj, hMA, sp_putB hc, sp_least (bx_to hj), sp_greatest (bx_to hj), (bx_to hj).1, h1, h2, l1, l2, l3, l4, m1, m2, m3, f_wb_ne n2, f_wb_ne n3, f_wb_ne n4, f_wb_ne n5, f_wb_ne n7, f_wb_wb, f_wb_eq, hg, hE, ht, n_cl s1, n_neg s1, s2, isB_0, isB_1, q0, q1, q2, i_z0, i_z1, if_true, if_false, Bool.false_eq_true, reduceCtorEq]
      generalize bEmp _ = e
      cases e <;> simp [b2]
theorem sp_isMet {m : Int32} (hc : bx c) : Wp (d + 2) 52 0 [some (.ref 2), some (.int m), some (.ref c)] [] (f_W xs I L) Q = Q (some (.int (b2 (decide (I 2 7 = m) && bTch (I 8) (I (c + 1))))), f_W xs I L) := by
  simp only [w52_0, w52_1, w52_4, w52_5, w52_8, w52_9, w52_12, w52_13, w52_16, w52_19, w52_20, w52_23, w52_24, eq_self, Nat.zero_le, n_lt, n_le, n_eq, n_neg, n_cl, n_mul, n_add, z_0, z_1, z_2, sc_0, sc_i, sc_r, sc_l, sc_n, jc_n, jc_i, jc_r, jc_l, Option.toList_some, Option.toList_none, List.cons_append, List.nil_append, Nat.reduceLT, Nat.reduceLeDiff, Nat.reduceMul, Nat.reduceAdd, Nat.reduceSub, Nat.reduceEqDiff, not_false_eq_true, not_true_eq_false, false_or, or_false, true_or, or_true, false_imp_iff, true_imp_iff, and_true, true_and, forall_const, false_implies, true_implies, b_t0, b_f0, tg_1, rf_1_0, rf_1_1, rf_1_2, rf_1_3, rf_1_4, rf_1_5, rf_1_6, tg_2, rf_2_0, rf_2_1, rf_2_2, rf_2_3, tg_3, ln_3, tg_4, ln_4, tg_5, rf_5_0, tg_6, ln_6, tg_7, rf_7_0, tg_8, ln_8, tg_123, rf_123_0, rf_123_1, rf_123_2, rf_123_3, rf_123_4, tg_124, ln_124, tg_125, rf_125_0, tg_126, ln_126, tg_127, rf_127_0, tg_128, ln_128, tg_129, ln_129, tg_322, rf_322_0, rf_322_1, rf_322_2, rf_322_3, tg_323, ln_323, tg_324, ln_324, tg_325, rf_325_0, rf_325_1, rf_325_2, tg_326, rf_326_0, tg_327, ln_327, tg_328, rf_328_0, tg_329, ln_329, tg_330, rf_330_0, rf_330_1, rf_330_2, tg_331, rf_331_0, tg_332, ln_332, tg_333, rf_333_0, tg_334, ln_334, tg_335, ln_335, tg_336, rf_336_0, tg_337, ln_337, tg_339, ln_339, tg_346, rf_346_1, rf_346_2, rf_346_4, rf_346_5, rf_346_6, rf_346_7, rf_346_8, rf_346_11, rf_346_13, rf_346_14, rf_346_15, rf_346_17, rf_346_18, rf_346_19, rf_346_20, rf_346_21, rf_346_22, rf_346_26, rf_346_28, rf_346_29, rf_346_32, rf_346_34, rf_346_35, rf_346_36, tg_347, ln_347, tg_348, ln_348, tg_349, ln_349, tg_350, ln_350, tg_351, ln_351, tg_352, ln_352, tg_353, ln_353, tg_354, ln_354, tg_355, ln_355, tg_356, ln_356, tg_357, ln_357, tg_358, ln_358, tg_359, ln_359, tg_360, ln_360, tg_361, ln_361, tg_362, ln_362, tg_363, ln_363, tg_364, ln_364, tg_365, ln_365, tg_366, ln_366, tg_367, ln_367, tg_368, ln_368, tg_369, ln_369, tg_370, ln_370, sp_touches bx_7 hc]
  by_cases q : I 2 7 = m
  · generalize bTch (I (7 + 1)) (I (c + 1)) = e
    cases e <;> simp [b2, q]
  · simp [b2, q]
end MAC
