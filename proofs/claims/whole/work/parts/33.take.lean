/-! THE SEARCH, as numbers: mode, box, origin, how, worked, joined of each heap; count, heaps, works, spent -/
abbrev gH : Type := Nat × (Nat → Int32) × Int32 × Int32 × Bool × Bool
abbrev gS : Type := Nat × (Nat → gH) × Nat × Bool
def covB (f : Nat → gH) (m : Nat) (b : Nat → Int32) : Nat → Bool
  | 0 => false
  | n + 1 => covB f m b n || (decide ((f n).1 = m) && bCov (f n).2.1 b)
def alk (f : Nat → gH) (m : Nat) : Nat → Nat
  | 0 => 0
  | n + 1 => alk f m n + (if (f n).1 = m then 1 else 0)
def lat (f : Nat → gH) (m : Nat) : Nat → Option Nat
  | 0 => none
  | n + 1 => if (f n).1 = m then some n else lat f m n
def gupd (f : Nat → gH) (k : Nat) (e : gH) : Nat → gH := fun i => if i = k then e else f i
/-- what comes of a mode m, box b -/
def tk (lim : Nat) (s : gS) (m : Nat) (b : Nat → Int32) (o h : Int32) : gS :=
  if covB s.2.1 m b s.1 = true then s
  else match lat s.2.1 m s.1 with
    | some l => if lim ≤ alk s.2.1 m s.1 then (s.1, gupd s.2.1 l ((s.2.1 l).1, bJoin (s.2.1 l).2.1 b, (s.2.1 l).2.2.1, (s.2.1 l).2.2.2.1, false, true), s.2.2)
        else if 64 ≤ s.1 then (s.1, s.2.1, s.2.2.1, true) else (s.1 + 1, gupd s.2.1 s.1 (m, b, o, h, false, false), s.2.2)
    | none => if 64 ≤ s.1 then (s.1, s.2.1, s.2.2.1, true) else (s.1 + 1, gupd s.2.1 s.1 (m, b, o, h, false, false), s.2.2)
theorem lat_lt {f : Nat → gH} {m : Nat} : ∀ {n l : Nat}, lat f m n = some l → l < n := by
  intro n
  induction n with
  | zero => intro l h; cases h
  | succ n ih =>
    intro l h
    unfold lat at h
    split at h
    · cases h; omega
    · have := ih h; omega
theorem alk_le (f : Nat → gH) (m : Nat) : ∀ n, alk f m n ≤ n := by
  intro n
  induction n with
  | zero => exact Nat.le_refl 0
  | succ n ih => unfold alk; split <;> omega
theorem lat_none {f : Nat → gH} {m : Nat} : ∀ {n : Nat}, lat f m n = none → alk f m n = 0 := by
  intro n
  induction n with
  | zero => intro _; rfl
  | succ n ih =>
    intro h
    unfold lat at h
    split at h
    · cases h
    · rename_i hc
      unfold alk
      rw [if_neg hc, ih h]
/-- a heap as the class holds it -/
def RH (I : fI) (h : Nat) (e : gH) : Prop := I (130 + 3 * h) 1 = nI e.1 ∧ e.1 < 6 ∧ (∀ k, k < 6 → I (132 + 3 * h) k = e.2.1 k) ∧ I (130 + 3 * h) 2 = e.2.2.1 ∧ I (130 + 3 * h) 3 = e.2.2.2.1 ∧ I (130 + 3 * h) 4 = b2 e.2.2.2.2.1 ∧ I (130 + 3 * h) 5 = b2 e.2.2.2.2.2
def RX (I : fI) (s : gS) : Prop := s.1 ≤ 64 ∧ I 123 6 = nI s.1 ∧ s.2.2.1 ≤ 1000 ∧ I 123 7 = nI s.2.2.1 ∧ I 123 8 = b2 s.2.2.2 ∧ ∀ h, h < s.1 → RH I h (s.2.1 h)
/-- heaps and the search's own numbers alone have changed -/
def SX (I I' : fI) : Prop := (∀ o, (o < 123 ∨ (123 < o ∧ o < 130) ∨ 322 ≤ o) → I' o = I o) ∧ ∀ k, k < 6 ∨ k = 9 → I' 123 k = I 123 k
theorem SX.rf {I : fI} : SX I I := ⟨fun _ _ => rfl, fun _ _ => rfl⟩
theorem SX.tr {I I' I'' : fI} (h1 : SX I I') (h2 : SX I' I'') : SX I I'' := ⟨fun o ho => (h2.1 o ho).trans (h1.1 o ho), fun k hk => (h2.2 k hk).trans (h1.2 k hk)⟩
theorem bCov_congr {f f' g g' : Nat → Int32} (h : ∀ k, k < 6 → f k = f' k) (h2 : ∀ k, k < 6 → g k = g' k) : bCov f g = bCov f' g' := by
  unfold bCov
  rw [h 0 (by omega), h 1 (by omega), h 2 (by omega), h 3 (by omega), h 4 (by omega), h 5 (by omega), h2 0 (by omega), h2 1 (by omega), h2 2 (by omega), h2 3 (by omega), h2 4 (by omega), h2 5 (by omega)]
theorem bEmp_congr {f f' : Nat → Int32} (h : ∀ k, k < 6 → f k = f' k) : bEmp f = bEmp f' := by
  unfold bEmp
  rw [h 0 (by omega), h 1 (by omega), h 2 (by omega), h 3 (by omega), h 4 (by omega), h 5 (by omega)]
theorem bMeet_at {f f' g g' : Nat → Int32} {k : Nat} (h : f k = f' k) (h2 : g k = g' k) : bMeet f g k = bMeet f' g' k := by
  unfold bMeet
  rw [h, h2]
theorem bJoin_at {f f' g g' : Nat → Int32} {k : Nat} (h : f k = f' k) (h2 : g k = g' k) : bJoin f g k = bJoin f' g' k := by
  unfold bJoin
  rw [h, h2]
theorem f_up_at {I : fI} {o k : Nat} {v : Int32} {a j : Nat} : f_up I o k v a j = if a = o ∧ j = k then v else I a j := rfl
theorem f_wb_at {I : fI} {b : Nat} {g : Nat → Int32} {a j : Nat} : f_wb I b g a j = if a = b + 1 then g j else I a j := rfl
section TKS
variable {d : Nat} {xs : List Value} {I : fI} {L : fL} {s : gS}
theorem sp_hasHeap {d : Nat} {Q : Option Value × jW → Prop} {I : fI} {h : Int32} : Wp d 50 0 [some (.ref 123), some (.int h)] [] (f_W xs I L) Q = Q (some (.int (b2 (!decide (h < nI 0) && !decide (I 123 6 ≤ h)))), f_W xs I L) := by
  by_cases q1 : h < nI 0 <;> by_cases q2 : I 123 6 ≤ h <;> simp only [w50_0, w50_1, w50_4, w50_5, w50_6, w50_9, w50_12, w50_13, w50_16, w50_17, eq_self, Nat.zero_le, n_lt, n_le, n_eq, n_neg, n_cl, n_mul, n_add, z_0, z_1, z_2, sc_0, sc_i, sc_r, sc_l, sc_n, jc_n, jc_i, jc_r, jc_l, Option.toList_some, Option.toList_none, List.cons_append, List.nil_append, Nat.reduceLT, Nat.reduceLeDiff, Nat.reduceMul, Nat.reduceAdd, Nat.reduceSub, Nat.reduceEqDiff, not_false_eq_true, not_true_eq_false, false_or, or_false, true_or, or_true, false_imp_iff, true_imp_iff, and_true, true_and, forall_const, false_implies, true_implies, b_t0, b_f0, tg_1, rf_1_0, rf_1_1, rf_1_2, rf_1_3, rf_1_4, rf_1_5, rf_1_6, tg_2, rf_2_0, rf_2_1, rf_2_2, rf_2_3, tg_3, ln_3, tg_4, ln_4, tg_5, rf_5_0, tg_6, ln_6, tg_7, rf_7_0, tg_8, ln_8, tg_123, rf_123_0, rf_123_1, rf_123_2, rf_123_3, rf_123_4, tg_124, ln_124, tg_125, rf_125_0, tg_126, ln_126, tg_127, rf_127_0, tg_128, ln_128, tg_129, ln_129, tg_322, rf_322_0, rf_322_1, rf_322_2, rf_322_3, tg_323, ln_323, tg_324, ln_324, tg_325, rf_325_0, rf_325_1, rf_325_2, tg_326, rf_326_0, tg_327, ln_327, tg_328, rf_328_0, tg_329, ln_329, tg_330, rf_330_0, rf_330_1, rf_330_2, tg_331, rf_331_0, tg_332, ln_332, tg_333, rf_333_0, tg_334, ln_334, tg_335, ln_335, tg_336, rf_336_0, tg_337, ln_337, tg_339, ln_339, tg_346, rf_346_1, rf_346_2, rf_346_4, rf_346_5, rf_346_6, rf_346_7, rf_346_8, rf_346_11, rf_346_13, rf_346_14, rf_346_15, rf_346_17, rf_346_18, rf_346_19, rf_346_20, rf_346_21, rf_346_22, rf_346_26, rf_346_28, rf_346_29, rf_346_32, rf_346_34, rf_346_35, rf_346_36, tg_347, ln_347, tg_348, ln_348, tg_349, ln_349, tg_350, ln_350, tg_351, ln_351, tg_352, ln_352, tg_353, ln_353, tg_354, ln_354, tg_355, ln_355, tg_356, ln_356, tg_357, ln_357, tg_358, ln_358, tg_359, ln_359, tg_360, ln_360, tg_361, ln_361, tg_362, ln_362, tg_363, ln_363, tg_364, ln_364, tg_365, ln_365, tg_366, ln_366, tg_367, ln_367, tg_368, ln_368, tg_369, ln_369, tg_370, ln_370, q1, q2] <;> simp [b2]
theorem sp_heapAt {d : Nat} {Q : Option Value × jW → Prop} {h : Nat} (R : RX I s) (hh : h < s.1) : Wp (d + 1) 170 0 [some (.ref 123), some (.int (nI h))] [] (f_W xs I L) Q = Q (some (.ref (130 + 3 * h)), f_W xs I L) := by
  obtain ⟨r1, r2, -⟩ := R
  obtain ⟨l1, l2, l3⟩ := lay_H h (by omega)
  have s1 : h < 2147483648 := by omega
  have s2 : ¬ 64 ≤ h := by omega
  have s3 : s.1 < 2147483648 := by omega
  have s4 : ¬ s.1 ≤ h := by omega
  simp only [w170_0, w170_1, w170_4, w170_5, w170_6, w170_9, w170_12, w170_13, w170_16, w170_17, w170_18, w170_18n, eq_self, Nat.zero_le, n_lt, n_le, n_eq, n_neg, n_cl, n_mul, n_add, z_0, z_1, z_2, sc_0, sc_i, sc_r, sc_l, sc_n, jc_n, jc_i, jc_r, jc_l, Option.toList_some, Option.toList_none, List.cons_append, List.nil_append, Nat.reduceLT, Nat.reduceLeDiff, Nat.reduceMul, Nat.reduceAdd, Nat.reduceSub, Nat.reduceEqDiff, not_false_eq_true, not_true_eq_false, false_or, or_false, true_or, or_true, false_imp_iff, true_imp_iff, and_true, true_and, forall_const, false_implies, true_implies, b_t0, b_f0, tg_1, rf_1_0, rf_1_1, rf_1_2, rf_1_3, rf_1_4, rf_1_5, rf_1_6, tg_2, rf_2_0, rf_2_1, rf_2_2, rf_2_3, tg_3, ln_3, tg_4, ln_4, tg_5, rf_5_0, tg_6, ln_6, tg_7, rf_7_0, tg_8, ln_8, tg_123, rf_123_0, rf_123_1, rf_123_2, rf_123_3, rf_123_4, tg_124, ln_124, tg_125, rf_125_0, tg_126, ln_126, tg_127, rf_127_0, tg_128, ln_128, tg_129, ln_129, tg_322, rf_322_0, rf_322_1, rf_322_2, rf_322_3, tg_323, ln_323, tg_324, ln_324, tg_325, rf_325_0, rf_325_1, rf_325_2, tg_326, rf_326_0, tg_327, ln_327, tg_328, rf_328_0, tg_329, ln_329, tg_330, rf_330_0, rf_330_1, rf_330_2, tg_331, rf_331_0, tg_332, ln_332, tg_333, rf_333_0, tg_334, ln_334, tg_335, ln_335, tg_336, rf_336_0, tg_337, ln_337, tg_339, ln_339, tg_346, rf_346_1, rf_346_2, rf_346_4, rf_346_5, rf_346_6, rf_346_7, rf_346_8, rf_346_11, rf_346_13, rf_346_14, rf_346_15, rf_346_17, rf_346_18, rf_346_19, rf_346_20, rf_346_21, rf_346_22, rf_346_26, rf_346_28, rf_346_29, rf_346_32, rf_346_34, rf_346_35, rf_346_36, tg_347, ln_347, tg_348, ln_348, tg_349, ln_349, tg_350, ln_350, tg_351, ln_351, tg_352, ln_352, tg_353, ln_353, tg_354, ln_354, tg_355, ln_355, tg_356, ln_356, tg_357, ln_357, tg_358, ln_358, tg_359, ln_359, tg_360, ln_360, tg_361, ln_361, tg_362, ln_362, tg_363, ln_363, tg_364, ln_364, tg_365, ln_365, tg_366, ln_366, tg_367, ln_367, tg_368, ln_368, tg_369, ln_369, tg_370, ln_370, sp_hasHeap, r2, n_le s3 s1, s4, n_cl s1, n_neg s1, s2, n_lt s1 (show 0 < 2147483648 by decide), Nat.not_lt_zero, decide_false, Bool.not_false, Bool.and_self, b2_t, l1, l2]
/-- the memory behind add -/
def addI (I : fI) (n m : Nat) (o h : Int32) : fI := f_up (f_up (f_up (f_up (f_up (f_up (f_wb I (131 + 3 * n) (I 128)) (130 + 3 * n) 1 (nI m)) (130 + 3 * n) 2 o) (130 + 3 * n) 3 h) (130 + 3 * n) 4 (nI 0)) (130 + 3 * n) 5 (nI 0)) 123 6 (nI (n + 1))
theorem x_add {Q : Option Value × jW → Prop} {m : Nat} {o h : Int32} (R : RX I s) (hn : s.1 < 64) : Wp (d + 1) 38 0 [some (.ref 123), some (.int (nI m)), some (.int o), some (.int h), none] [] (f_W xs I L) Q = Q (none, f_W xs (addI I s.1 m o h) L) := by
  obtain ⟨r1, r2, r3, r4, r5, r6⟩ := R
  obtain ⟨l1, l2, l3⟩ := lay_H s.1 hn
  have s1 : s.1 < 2147483648 := by omega
  have s2 : ¬ 64 ≤ s.1 := by omega
  have n1 : (127 : Nat) ≠ 131 + 3 * s.1 := by omega
  have n2 : (123 : Nat) ≠ 131 + 3 * s.1 + 1 := by omega
  have n3 : (123 : Nat) ≠ 130 + 3 * s.1 := by omega
  simp only [w38_0, w38_1, w38_4, w38_6, w38_9, w38_10, w38_11, w38_14, w38_15, w38_16, w38_19, w38_20, w38_23, w38_24, w38_26, w38_28, w38_31, w38_32, w38_35, w38_38, w38_40, w38_41, w38_44, w38_46, w38_47, w38_50, w38_52, w38_53, w38_56, w38_58, w38_59, w38_62, w38_64, w38_65, w38_68, w38_69, w38_69r, w38_70, w38_73, w38_74, w38_75, w38_78, eq_self, Nat.zero_le, n_lt, n_le, n_eq, n_neg, n_cl, n_mul, n_add, z_0, z_1, z_2, sc_0, sc_i, sc_r, sc_l, sc_n, jc_n, jc_i, jc_r, jc_l, Option.toList_some, Option.toList_none, List.cons_append, List.nil_append, Nat.reduceLT, Nat.reduceLeDiff, Nat.reduceMul, Nat.reduceAdd, Nat.reduceSub, Nat.reduceEqDiff, not_false_eq_true, not_true_eq_false, false_or, or_false, true_or, or_true, false_imp_iff, true_imp_iff, and_true, true_and, forall_const, false_implies, true_implies, b_t0, b_f0, tg_1, rf_1_0, rf_1_1, rf_1_2, rf_1_3, rf_1_4, rf_1_5, rf_1_6, tg_2, rf_2_0, rf_2_1, rf_2_2, rf_2_3, tg_3, ln_3, tg_4, ln_4, tg_5, rf_5_0, tg_6, ln_6, tg_7, rf_7_0, tg_8, ln_8, tg_123, rf_123_0, rf_123_1, rf_123_2, rf_123_3, rf_123_4, tg_124, ln_124, tg_125, rf_125_0, tg_126, ln_126, tg_127, rf_127_0, tg_128, ln_128, tg_129, ln_129, tg_322, rf_322_0, rf_322_1, rf_322_2, rf_322_3, tg_323, ln_323, tg_324, ln_324, tg_325, rf_325_0, rf_325_1, rf_325_2, tg_326, rf_326_0, tg_327, ln_327, tg_328, rf_328_0, tg_329, ln_329, tg_330, rf_330_0, rf_330_1, rf_330_2, tg_331, rf_331_0, tg_332, ln_332, tg_333, rf_333_0, tg_334, ln_334, tg_335, ln_335, tg_336, rf_336_0, tg_337, ln_337, tg_339, ln_339, tg_346, rf_346_1, rf_346_2, rf_346_4, rf_346_5, rf_346_6, rf_346_7, rf_346_8, rf_346_11, rf_346_13, rf_346_14, rf_346_15, rf_346_17, rf_346_18, rf_346_19, rf_346_20, rf_346_21, rf_346_22, rf_346_26, rf_346_28, rf_346_29, rf_346_32, rf_346_34, rf_346_35, rf_346_36, tg_347, ln_347, tg_348, ln_348, tg_349, ln_349, tg_350, ln_350, tg_351, ln_351, tg_352, ln_352, tg_353, ln_353, tg_354, ln_354, tg_355, ln_355, tg_356, ln_356, tg_357, ln_357, tg_358, ln_358, tg_359, ln_359, tg_360, ln_360, tg_361, ln_361, tg_362, ln_362, tg_363, ln_363, tg_364, ln_364, tg_365, ln_365, tg_366, ln_366, tg_367, ln_367, tg_368, ln_368, tg_369, ln_369, tg_370, ln_370, sp_copy (bx_hp hn) bx_127 n1, r2, n_lt s1 (show 64 < 2147483648 by decide), hn, n_cl s1, n_neg s1, s2, l1, l2, l3, (bx_hp hn).1, f_up_ne n3, f_wb_ne n2]
  rfl
theorem x_addS {Q : Option Value × jW → Prop} {m : Nat} {o h : Int32} (R : RX I s) (hn : 64 ≤ s.1) : Wp (d + 1) 38 0 [some (.ref 123), some (.int (nI m)), some (.int o), some (.int h), none] [] (f_W xs I L) Q = Q (none, f_W xs (f_up I 123 8 (nI 1)) L) := by
  obtain ⟨r1, r2, r3, r4, r5, r6⟩ := R
  have s1 : s.1 < 2147483648 := by omega
  have s2 : ¬ s.1 < 64 := by omega
  simp only [w38_0, w38_1, w38_4, w38_6, w38_9, w38_10, w38_11, w38_14, w38_15, w38_16, w38_19, w38_20, w38_23, w38_24, w38_26, w38_28, w38_31, w38_32, w38_35, w38_38, w38_40, w38_41, w38_44, w38_46, w38_47, w38_50, w38_52, w38_53, w38_56, w38_58, w38_59, w38_62, w38_64, w38_65, w38_68, w38_69, w38_69r, w38_70, w38_73, w38_74, w38_75, w38_78, eq_self, Nat.zero_le, n_lt, n_le, n_eq, n_neg, n_cl, n_mul, n_add, z_0, z_1, z_2, sc_0, sc_i, sc_r, sc_l, sc_n, jc_n, jc_i, jc_r, jc_l, Option.toList_some, Option.toList_none, List.cons_append, List.nil_append, Nat.reduceLT, Nat.reduceLeDiff, Nat.reduceMul, Nat.reduceAdd, Nat.reduceSub, Nat.reduceEqDiff, not_false_eq_true, not_true_eq_false, false_or, or_false, true_or, or_true, false_imp_iff, true_imp_iff, and_true, true_and, forall_const, false_implies, true_implies, b_t0, b_f0, tg_1, rf_1_0, rf_1_1, rf_1_2, rf_1_3, rf_1_4, rf_1_5, rf_1_6, tg_2, rf_2_0, rf_2_1, rf_2_2, rf_2_3, tg_3, ln_3, tg_4, ln_4, tg_5, rf_5_0, tg_6, ln_6, tg_7, rf_7_0, tg_8, ln_8, tg_123, rf_123_0, rf_123_1, rf_123_2, rf_123_3, rf_123_4, tg_124, ln_124, tg_125, rf_125_0, tg_126, ln_126, tg_127, rf_127_0, tg_128, ln_128, tg_129, ln_129, tg_322, rf_322_0, rf_322_1, rf_322_2, rf_322_3, tg_323, ln_323, tg_324, ln_324, tg_325, rf_325_0, rf_325_1, rf_325_2, tg_326, rf_326_0, tg_327, ln_327, tg_328, rf_328_0, tg_329, ln_329, tg_330, rf_330_0, rf_330_1, rf_330_2, tg_331, rf_331_0, tg_332, ln_332, tg_333, rf_333_0, tg_334, ln_334, tg_335, ln_335, tg_336, rf_336_0, tg_337, ln_337, tg_339, ln_339, tg_346, rf_346_1, rf_346_2, rf_346_4, rf_346_5, rf_346_6, rf_346_7, rf_346_8, rf_346_11, rf_346_13, rf_346_14, rf_346_15, rf_346_17, rf_346_18, rf_346_19, rf_346_20, rf_346_21, rf_346_22, rf_346_26, rf_346_28, rf_346_29, rf_346_32, rf_346_34, rf_346_35, rf_346_36, tg_347, ln_347, tg_348, ln_348, tg_349, ln_349, tg_350, ln_350, tg_351, ln_351, tg_352, ln_352, tg_353, ln_353, tg_354, ln_354, tg_355, ln_355, tg_356, ln_356, tg_357, ln_357, tg_358, ln_358, tg_359, ln_359, tg_360, ln_360, tg_361, ln_361, tg_362, ln_362, tg_363, ln_363, tg_364, ln_364, tg_365, ln_365, tg_366, ln_366, tg_367, ln_367, tg_368, ln_368, tg_369, ln_369, tg_370, ln_370, r2, n_lt s1 (show 64 < 2147483648 by decide), s2]
theorem x_add_R {m : Nat} {o h : Int32} (R : RX I s) (hn : s.1 < 64) (hm : m < 6) : RX (addI I s.1 m o h) (s.1 + 1, gupd s.2.1 s.1 (m, I 128, o, h, false, false), s.2.2) ∧ SX I (addI I s.1 m o h) := by
  obtain ⟨r1, r2, r3, r4, r5, r6⟩ := R
  refine ⟨⟨by show s.1 + 1 ≤ 64; omega, ?_, r3, ?_, ?_, ?_⟩, ?_, ?_⟩
  · simp [addI, f_up_at]
  · have : (123 : Nat) ≠ 130 + 3 * s.1 := by omega
    have : (123 : Nat) ≠ 131 + 3 * s.1 + 1 := by omega
    simp [addI, f_up_at, f_wb_at, *]
  · have : (123 : Nat) ≠ 130 + 3 * s.1 := by omega
    have : (123 : Nat) ≠ 131 + 3 * s.1 + 1 := by omega
    simp [addI, f_up_at, f_wb_at, *]
  · intro i hi
    have hi : i < s.1 + 1 := hi
    by_cases hin : i = s.1
    · subst hin
      have q1 : (130 + 3 * s.1 : Nat) ≠ 123 := by omega
      have q2 : (132 + 3 * s.1 : Nat) ≠ 123 := by omega
      have q3 : (132 + 3 * s.1 : Nat) ≠ 130 + 3 * s.1 := by omega
      have q4 : (132 + 3 * s.1 : Nat) = 131 + 3 * s.1 + 1 := by omega
      have q5 : ¬ 131 + 3 * s.1 = 122 := by omega
      have q6 : ¬ 131 + 3 * s.1 + 1 = 130 + 3 * s.1 := by omega
      unfold RH gupd
      simp [addI, f_up_at, f_wb_at, q1, q2, q3, q4, q5, q6, hm, b2]
    · have q1 : (130 + 3 * i : Nat) ≠ 123 := by omega
      have q2 : (132 + 3 * i : Nat) ≠ 123 := by omega
      have q3 : (130 + 3 * i : Nat) ≠ 130 + 3 * s.1 := by omega
      have q4 : (132 + 3 * i : Nat) ≠ 130 + 3 * s.1 := by omega
      have q5 : (130 + 3 * i : Nat) ≠ 131 + 3 * s.1 + 1 := by omega
      have q6 : (132 + 3 * i : Nat) ≠ 131 + 3 * s.1 + 1 := by omega
      have q7 : ¬ 3 * i = 3 * s.1 := by omega
      have := r6 i (by omega)
      unfold RH at this ⊢
      simp [addI, f_up_at, f_wb_at, q1, q2, q3, q4, q5, q6, q7, gupd, hin]
      simpa using this
  · intro o ho
    funext k
    have q1 : o ≠ 130 + 3 * s.1 := by omega
    have q2 : o ≠ 131 + 3 * s.1 + 1 := by omega
    have q3 : o ≠ 123 := by omega
    simp [addI, f_up_at, f_wb_at, q1, q2, q3]
  · intro k hk
    have q1 : (123 : Nat) ≠ 130 + 3 * s.1 := by omega
    have q2 : (123 : Nat) ≠ 131 + 3 * s.1 + 1 := by omega
    have q3 : k ≠ 6 := by omega
    simp [addI, f_up_at, f_wb_at, q1, q2, q3]
/-- the memory behind a join into heap l -/
def joinI (I : fI) (l : Nat) : fI := f_up (f_up (f_wb I (131 + 3 * l) (bJoin (I (132 + 3 * l)) (I 128))) (130 + 3 * l) 5 (nI 1)) (130 + 3 * l) 4 (nI 0)
def latI (f : Nat → gH) (m n : Nat) : Int32 := match lat f m n with
  | some l => nI l
  | none => -4
theorem latI_s {f : Nat → gH} {m n : Nat} (h : (f n).1 = m) : latI f m (n + 1) = nI n := by
  unfold latI
  conv => lhs; unfold lat
  rw [if_pos h]
theorem latI_n {f : Nat → gH} {m n : Nat} (h : ¬ (f n).1 = m) : latI f m (n + 1) = latI f m n := by
  unfold latI
  conv => lhs; unfold lat
  rw [if_neg h]
theorem alk_n {f : Nat → gH} {m n : Nat} (h : ¬ (f n).1 = m) : alk f m (n + 1) = alk f m n := by
  conv => lhs; unfold alk
  rw [if_neg h]
  rfl
theorem alk_s {f : Nat → gH} {m n : Nat} (h : (f n).1 = m) : alk f m (n + 1) = alk f m n + 1 := by
  conv => lhs; unfold alk
  rw [if_pos h]
theorem x_tkloop {Q : Option Value × jW → Prop} {m : Nat} {o h : Int32} (R : RX I s) (hm : m < 6) : ∀ (k i : Nat), i + k = s.1 → covB s.2.1 m (I 128) i = false → Wp (d + 2) 44 10 [some (.ref 123), some (.int (nI m)), some (.int o), some (.int h), some (.int (latI s.2.1 m i)), some (.int (nI (alk s.2.1 m i))), some (.int (nI i))] [] (f_W xs I L) Q = if covB s.2.1 m (I 128) s.1 = true then Q (none, f_W xs I L) else Wp (d + 2) 44 67 [some (.ref 123), some (.int (nI m)), some (.int o), some (.int h), some (.int (latI s.2.1 m s.1)), some (.int (nI (alk s.2.1 m s.1))), some (.int (nI s.1))] [] (f_W xs I L) Q := by
  obtain ⟨r1, r2, r3, r4, r5, r6⟩ := R
  intro k
  induction k with
  | zero =>
    intro i hi hc
    have hi : i = s.1 := by omega
    subst hi
    have s1 : s.1 < 2147483648 := by omega
    rw [hc]
    rw [w44_10]
    simp only [w44_0, w44_2, w44_4, w44_5, w44_7, w44_8, w44_12, w44_13, w44_16, w44_19, w44_20, w44_23, w44_25, w44_26, w44_29, w44_30, w44_33, w44_34, w44_37, w44_39, w44_40, w44_43, w44_44, w44_47, w44_50, w44_53, w44_54, w44_56, w44_58, w44_61, w44_64, w44_127, w44_128, w44_132, eq_self, Nat.zero_le, n_lt, n_le, n_eq, n_neg, n_cl, n_mul, n_add, z_0, z_1, z_2, sc_0, sc_i, sc_r, sc_l, sc_n, jc_n, jc_i, jc_r, jc_l, Option.toList_some, Option.toList_none, List.cons_append, List.nil_append, Nat.reduceLT, Nat.reduceLeDiff, Nat.reduceMul, Nat.reduceAdd, Nat.reduceSub, Nat.reduceEqDiff, not_false_eq_true, not_true_eq_false, false_or, or_false, true_or, or_true, false_imp_iff, true_imp_iff, and_true, true_and, forall_const, false_implies, true_implies, b_t0, b_f0, tg_1, rf_1_0, rf_1_1, rf_1_2, rf_1_3, rf_1_4, rf_1_5, rf_1_6, tg_2, rf_2_0, rf_2_1, rf_2_2, rf_2_3, tg_3, ln_3, tg_4, ln_4, tg_5, rf_5_0, tg_6, ln_6, tg_7, rf_7_0, tg_8, ln_8, tg_123, rf_123_0, rf_123_1, rf_123_2, rf_123_3, rf_123_4, tg_124, ln_124, tg_125, rf_125_0, tg_126, ln_126, tg_127, rf_127_0, tg_128, ln_128, tg_129, ln_129, tg_322, rf_322_0, rf_322_1, rf_322_2, rf_322_3, tg_323, ln_323, tg_324, ln_324, tg_325, rf_325_0, rf_325_1, rf_325_2, tg_326, rf_326_0, tg_327, ln_327, tg_328, rf_328_0, tg_329, ln_329, tg_330, rf_330_0, rf_330_1, rf_330_2, tg_331, rf_331_0, tg_332, ln_332, tg_333, rf_333_0, tg_334, ln_334, tg_335, ln_335, tg_336, rf_336_0, tg_337, ln_337, tg_339, ln_339, tg_346, rf_346_1, rf_346_2, rf_346_4, rf_346_5, rf_346_6, rf_346_7, rf_346_8, rf_346_11, rf_346_13, rf_346_14, rf_346_15, rf_346_17, rf_346_18, rf_346_19, rf_346_20, rf_346_21, rf_346_22, rf_346_26, rf_346_28, rf_346_29, rf_346_32, rf_346_34, rf_346_35, rf_346_36, tg_347, ln_347, tg_348, ln_348, tg_349, ln_349, tg_350, ln_350, tg_351, ln_351, tg_352, ln_352, tg_353, ln_353, tg_354, ln_354, tg_355, ln_355, tg_356, ln_356, tg_357, ln_357, tg_358, ln_358, tg_359, ln_359, tg_360, ln_360, tg_361, ln_361, tg_362, ln_362, tg_363, ln_363, tg_364, ln_364, tg_365, ln_365, tg_366, ln_366, tg_367, ln_367, tg_368, ln_368, tg_369, ln_369, tg_370, ln_370, r2, n_le s1 s1, Nat.le_refl, Bool.false_eq_true, if_false]
  | succ k ih =>
    intro i hi hc
    have hi2 : i < s.1 := by omega
    have hi3 : i < 64 := by omega
    obtain ⟨l1, l2, l3⟩ := lay_H i hi3
    have s1 : s.1 < 2147483648 := by omega
    have s2 : i < 2147483648 := by omega
    have s3 : ¬ s.1 ≤ i := by omega
    have s4 : ¬ 64 ≤ i := by omega
    have s5 : m < 2147483648 := by omega
    obtain ⟨h1, h2, h3, -⟩ := r6 i hi2
    have s6 : (s.2.1 i).1 < 2147483648 := by omega
    have hcv : bCov (I (131 + 3 * i + 1)) (I (127 + 1)) = bCov (s.2.1 i).2.1 (I 128) := bCov_congr (fun k hk => by rw [show 131 + 3 * i + 1 = 132 + 3 * i by omega]; exact h3 k hk) (fun _ _ => rfl)
    have hstep : covB s.2.1 m (I 128) (i + 1) = (covB s.2.1 m (I 128) i || (decide ((s.2.1 i).1 = m) && bCov (s.2.1 i).2.1 (I 128))) := rfl
    by_cases q : (s.2.1 i).1 = m
    · cases hcc : bCov (s.2.1 i).2.1 (I 128) with
      | true =>
        have hT : covB s.2.1 m (I 128) s.1 = true := by
          have : ∀ j, i < j → covB s.2.1 m (I 128) j = true := by
            intro j hj
            induction j with
            | zero => omega
            | succ j ihj =>
              unfold covB
              by_cases hij : i = j
              · subst hij
                simp [q, hcc]
              · rw [ihj (by omega)]
                rfl
          exact this s.1 hi2
        rw [hT]
        rw [w44_10]
        simp only [w44_0, w44_2, w44_4, w44_5, w44_7, w44_8, w44_12, w44_13, w44_16, w44_19, w44_20, w44_23, w44_25, w44_26, w44_29, w44_30, w44_33, w44_34, w44_37, w44_39, w44_40, w44_43, w44_44, w44_47, w44_50, w44_53, w44_54, w44_56, w44_58, w44_61, w44_64, w44_127, w44_128, w44_132, eq_self, Nat.zero_le, n_lt, n_le, n_eq, n_neg, n_cl, n_mul, n_add, z_0, z_1, z_2, sc_0, sc_i, sc_r, sc_l, sc_n, jc_n, jc_i, jc_r, jc_l, Option.toList_some, Option.toList_none, List.cons_append, List.nil_append, Nat.reduceLT, Nat.reduceLeDiff, Nat.reduceMul, Nat.reduceAdd, Nat.reduceSub, Nat.reduceEqDiff, not_false_eq_true, not_true_eq_false, false_or, or_false, true_or, or_true, false_imp_iff, true_imp_iff, and_true, true_and, forall_const, false_implies, true_implies, b_t0, b_f0, tg_1, rf_1_0, rf_1_1, rf_1_2, rf_1_3, rf_1_4, rf_1_5, rf_1_6, tg_2, rf_2_0, rf_2_1, rf_2_2, rf_2_3, tg_3, ln_3, tg_4, ln_4, tg_5, rf_5_0, tg_6, ln_6, tg_7, rf_7_0, tg_8, ln_8, tg_123, rf_123_0, rf_123_1, rf_123_2, rf_123_3, rf_123_4, tg_124, ln_124, tg_125, rf_125_0, tg_126, ln_126, tg_127, rf_127_0, tg_128, ln_128, tg_129, ln_129, tg_322, rf_322_0, rf_322_1, rf_322_2, rf_322_3, tg_323, ln_323, tg_324, ln_324, tg_325, rf_325_0, rf_325_1, rf_325_2, tg_326, rf_326_0, tg_327, ln_327, tg_328, rf_328_0, tg_329, ln_329, tg_330, rf_330_0, rf_330_1, rf_330_2, tg_331, rf_331_0, tg_332, ln_332, tg_333, rf_333_0, tg_334, ln_334, tg_335, ln_335, tg_336, rf_336_0, tg_337, ln_337, tg_339, ln_339, tg_346, rf_346_1, rf_346_2, rf_346_4, rf_346_5, rf_346_6, rf_346_7, rf_346_8, rf_346_11, rf_346_13, rf_346_14, rf_346_15, rf_346_17, rf_346_18, rf_346_19, rf_346_20, rf_346_21, rf_346_22, rf_346_26, rf_346_28, rf_346_29, rf_346_32, rf_346_34, rf_346_35, rf_346_36, tg_347, ln_347, tg_348, ln_348, tg_349, ln_349, tg_350, ln_350, tg_351, ln_351, tg_352, ln_352, tg_353, ln_353, tg_354, ln_354, tg_355, ln_355, tg_356, ln_356, tg_357, ln_357, tg_358, ln_358, tg_359, ln_359, tg_360, ln_360, tg_361, ln_361, tg_362, ln_362, tg_363, ln_363, tg_364, ln_364, tg_365, ln_365, tg_366, ln_366, tg_367, ln_367, tg_368, ln_368, tg_369, ln_369, tg_370, ln_370, r2, n_le s1 s2, s3, n_cl s2, n_neg s2, s4, l1, l2, l3, (bx_hp hi3).1, h1, n_eq s6 s5, q, sp_covers (bx_hp hi3) bx_127, hcv, hcc, b2_t, if_true, Bool.true_eq_false]
      | false =>
        have ih' := ih (i + 1) (by omega) (by rw [hstep, hc, hcc]; simp)
        rw [latI_s q, alk_s q] at ih'
        rw [w44_10]
        simp only [w44_0, w44_2, w44_4, w44_5, w44_7, w44_8, w44_12, w44_13, w44_16, w44_19, w44_20, w44_23, w44_25, w44_26, w44_29, w44_30, w44_33, w44_34, w44_37, w44_39, w44_40, w44_43, w44_44, w44_47, w44_50, w44_53, w44_54, w44_56, w44_58, w44_61, w44_64, w44_127, w44_128, w44_132, eq_self, Nat.zero_le, n_lt, n_le, n_eq, n_neg, n_cl, n_mul, n_add, z_0, z_1, z_2, sc_0, sc_i, sc_r, sc_l, sc_n, jc_n, jc_i, jc_r, jc_l, Option.toList_some, Option.toList_none, List.cons_append, List.nil_append, Nat.reduceLT, Nat.reduceLeDiff, Nat.reduceMul, Nat.reduceAdd, Nat.reduceSub, Nat.reduceEqDiff, not_false_eq_true, not_true_eq_false, false_or, or_false, true_or, or_true, false_imp_iff, true_imp_iff, and_true, true_and, forall_const, false_implies, true_implies, b_t0, b_f0, tg_1, rf_1_0, rf_1_1, rf_1_2, rf_1_3, rf_1_4, rf_1_5, rf_1_6, tg_2, rf_2_0, rf_2_1, rf_2_2, rf_2_3, tg_3, ln_3, tg_4, ln_4, tg_5, rf_5_0, tg_6, ln_6, tg_7, rf_7_0, tg_8, ln_8, tg_123, rf_123_0, rf_123_1, rf_123_2, rf_123_3, rf_123_4, tg_124, ln_124, tg_125, rf_125_0, tg_126, ln_126, tg_127, rf_127_0, tg_128, ln_128, tg_129, ln_129, tg_322, rf_322_0, rf_322_1, rf_322_2, rf_322_3, tg_323, ln_323, tg_324, ln_324, tg_325, rf_325_0, rf_325_1, rf_325_2, tg_326, rf_326_0, tg_327, ln_327, tg_328, rf_328_0, tg_329, ln_329, tg_330, rf_330_0, rf_330_1, rf_330_2, tg_331, rf_331_0, tg_332, ln_332, tg_333, rf_333_0, tg_334, ln_334, tg_335, ln_335, tg_336, rf_336_0, tg_337, ln_337, tg_339, ln_339, tg_346, rf_346_1, rf_346_2, rf_346_4, rf_346_5, rf_346_6, rf_346_7, rf_346_8, rf_346_11, rf_346_13, rf_346_14, rf_346_15, rf_346_17, rf_346_18, rf_346_19, rf_346_20, rf_346_21, rf_346_22, rf_346_26, rf_346_28, rf_346_29, rf_346_32, rf_346_34, rf_346_35, rf_346_36, tg_347, ln_347, tg_348, ln_348, tg_349, ln_349, tg_350, ln_350, tg_351, ln_351, tg_352, ln_352, tg_353, ln_353, tg_354, ln_354, tg_355, ln_355, tg_356, ln_356, tg_357, ln_357, tg_358, ln_358, tg_359, ln_359, tg_360, ln_360, tg_361, ln_361, tg_362, ln_362, tg_363, ln_363, tg_364, ln_364, tg_365, ln_365, tg_366, ln_366, tg_367, ln_367, tg_368, ln_368, tg_369, ln_369, tg_370, ln_370, r2, n_le s1 s2, s3, n_cl s2, n_neg s2, s4, l1, l2, l3, (bx_hp hi3).1, h1, n_eq s6 s5, q, sp_covers (bx_hp hi3) bx_127, hcv, hcc, b2_f, Bool.false_eq_true]
        exact ih'
    · have ih' := ih (i + 1) (by omega) (by rw [hstep, hc]; simp [q])
      rw [latI_n q, alk_n q] at ih'
      rw [w44_10]
      simp only [w44_0, w44_2, w44_4, w44_5, w44_7, w44_8, w44_12, w44_13, w44_16, w44_19, w44_20, w44_23, w44_25, w44_26, w44_29, w44_30, w44_33, w44_34, w44_37, w44_39, w44_40, w44_43, w44_44, w44_47, w44_50, w44_53, w44_54, w44_56, w44_58, w44_61, w44_64, w44_127, w44_128, w44_132, eq_self, Nat.zero_le, n_lt, n_le, n_eq, n_neg, n_cl, n_mul, n_add, z_0, z_1, z_2, sc_0, sc_i, sc_r, sc_l, sc_n, jc_n, jc_i, jc_r, jc_l, Option.toList_some, Option.toList_none, List.cons_append, List.nil_append, Nat.reduceLT, Nat.reduceLeDiff, Nat.reduceMul, Nat.reduceAdd, Nat.reduceSub, Nat.reduceEqDiff, not_false_eq_true, not_true_eq_false, false_or, or_false, true_or, or_true, false_imp_iff, true_imp_iff, and_true, true_and, forall_const, false_implies, true_implies, b_t0, b_f0, tg_1, rf_1_0, rf_1_1, rf_1_2, rf_1_3, rf_1_4, rf_1_5, rf_1_6, tg_2, rf_2_0, rf_2_1, rf_2_2, rf_2_3, tg_3, ln_3, tg_4, ln_4, tg_5, rf_5_0, tg_6, ln_6, tg_7, rf_7_0, tg_8, ln_8, tg_123, rf_123_0, rf_123_1, rf_123_2, rf_123_3, rf_123_4, tg_124, ln_124, tg_125, rf_125_0, tg_126, ln_126, tg_127, rf_127_0, tg_128, ln_128, tg_129, ln_129, tg_322, rf_322_0, rf_322_1, rf_322_2, rf_322_3, tg_323, ln_323, tg_324, ln_324, tg_325, rf_325_0, rf_325_1, rf_325_2, tg_326, rf_326_0, tg_327, ln_327, tg_328, rf_328_0, tg_329, ln_329, tg_330, rf_330_0, rf_330_1, rf_330_2, tg_331, rf_331_0, tg_332, ln_332, tg_333, rf_333_0, tg_334, ln_334, tg_335, ln_335, tg_336, rf_336_0, tg_337, ln_337, tg_339, ln_339, tg_346, rf_346_1, rf_346_2, rf_346_4, rf_346_5, rf_346_6, rf_346_7, rf_346_8, rf_346_11, rf_346_13, rf_346_14, rf_346_15, rf_346_17, rf_346_18, rf_346_19, rf_346_20, rf_346_21, rf_346_22, rf_346_26, rf_346_28, rf_346_29, rf_346_32, rf_346_34, rf_346_35, rf_346_36, tg_347, ln_347, tg_348, ln_348, tg_349, ln_349, tg_350, ln_350, tg_351, ln_351, tg_352, ln_352, tg_353, ln_353, tg_354, ln_354, tg_355, ln_355, tg_356, ln_356, tg_357, ln_357, tg_358, ln_358, tg_359, ln_359, tg_360, ln_360, tg_361, ln_361, tg_362, ln_362, tg_363, ln_363, tg_364, ln_364, tg_365, ln_365, tg_366, ln_366, tg_367, ln_367, tg_368, ln_368, tg_369, ln_369, tg_370, ln_370, r2, n_le s1 s2, s3, n_cl s2, n_neg s2, s4, l1, l2, l3, h1, n_eq s6 s5, q]
      exact ih'
theorem x_join_R {l : Nat} (R : RX I s) (hl : l < s.1) : RX (joinI I l) (s.1, gupd s.2.1 l ((s.2.1 l).1, bJoin (s.2.1 l).2.1 (I 128), (s.2.1 l).2.2.1, (s.2.1 l).2.2.2.1, false, true), s.2.2) ∧ SX I (joinI I l) := by
  obtain ⟨r1, r2, r3, r4, r5, r6⟩ := R
  have q1 : (123 : Nat) ≠ 130 + 3 * l := by omega
  have q2 : (123 : Nat) ≠ 131 + 3 * l + 1 := by omega
  refine ⟨⟨r1, ?_, r3, ?_, ?_, ?_⟩, ?_, ?_⟩
  · simp [joinI, f_up_at, f_wb_at, q1, q2, r2]
  · simp [joinI, f_up_at, f_wb_at, q1, q2, r4]
  · simp [joinI, f_up_at, f_wb_at, q1, q2, r5]
  · intro i hi
    have hi : i < s.1 := hi
    have h0 := r6 i hi
    by_cases hin : i = l
    · subst hin
      obtain ⟨a1, a2, a3, a4, a5, a6, a7⟩ := h0
      have q3 : (132 + 3 * i : Nat) ≠ 130 + 3 * i := by omega
      have q4 : (132 + 3 * i : Nat) = 131 + 3 * i + 1 := by omega
      have q6 : ¬ 131 + 3 * i + 1 = 130 + 3 * i := by omega
      have q7 : ¬ 130 + 3 * i = 131 + 3 * i + 1 := by omega
      unfold RH gupd
      refine ⟨?_, ?_, ?_, ?_, ?_, ?_, ?_⟩
      · simp [joinI, f_up_at, f_wb_at, q7, a1]
      · simp [a2]
      · intro k hk
        simp only [joinI, f_up_at, f_wb_at, q4, q6, false_and, if_false, if_true]
        refine bJoin_at ?_ rfl
        rw [← q4]
        exact a3 k hk
      · simp [joinI, f_up_at, f_wb_at, q7, a4]
      · simp [joinI, f_up_at, f_wb_at, q7, a5]
      · simp [joinI, f_up_at, f_wb_at, q7, b2]
      · simp [joinI, f_up_at, f_wb_at, q7, b2]
    · have q3 : (130 + 3 * i : Nat) ≠ 130 + 3 * l := by omega
      have q4 : (132 + 3 * i : Nat) ≠ 130 + 3 * l := by omega
      have q5 : (130 + 3 * i : Nat) ≠ 131 + 3 * l + 1 := by omega
      have q6 : (132 + 3 * i : Nat) ≠ 131 + 3 * l + 1 := by omega
      have q7 : ¬ 3 * i = 3 * l := by omega
      unfold RH at h0 ⊢
      simp [joinI, f_up_at, f_wb_at, q3, q4, q5, q6, q7, gupd, hin]
      simpa using h0
  · intro o ho
    funext k
    have q3 : o ≠ 130 + 3 * l := by omega
    have q4 : o ≠ 131 + 3 * l + 1 := by omega
    simp [joinI, f_up_at, f_wb_at, q3, q4]
  · intro k hk
    simp [joinI, f_up_at, f_wb_at, q1, q2]
theorem x_spent_R (R : RX I s) : RX (f_up I 123 8 (nI 1)) (s.1, s.2.1, s.2.2.1, true) ∧ SX I (f_up I 123 8 (nI 1)) := by
  obtain ⟨r1, r2, r3, r4, r5, r6⟩ := R
  refine ⟨⟨r1, ?_, r3, ?_, ?_, ?_⟩, ?_, ?_⟩
  · simp [f_up_at, r2]
  · simp [f_up_at, r4]
  · simp [f_up_at, b2]
  · intro i hi
    have h0 := r6 i hi
    have q1 : (130 + 3 * i : Nat) ≠ 123 := by omega
    have q2 : (132 + 3 * i : Nat) ≠ 123 := by omega
    unfold RH at h0 ⊢
    simp [f_up_at, q1, q2]
    simpa using h0
  · intro o ho
    funext k
    have q3 : o ≠ 123 := by omega
    simp [f_up_at, q3]
  · intro k hk
    have q3 : k ≠ 8 := by omega
    simp [f_up_at, q3]
theorem x_take {lim m : Nat} {o h : Int32} (R : RX I s) (hm : m < 6) (hlim : I 123 5 = nI lim) (hl1 : 1 ≤ lim) (hl2 : lim ≤ 12) : ∃ I', RX I' (tk lim s m (I 128) o h) ∧ SX I I' ∧ ∀ (d : Nat) (Q : Option Value × jW → Prop), Wp (d + 2) 44 0 [some (.ref 123), some (.int (nI m)), some (.int o), some (.int h), none, none, none] [] (f_W xs I L) Q = Q (none, f_W xs I' L) := by
  have R0 := R
  obtain ⟨r1, r2, r3, r4, r5, r6⟩ := R
  have hloop := fun (d : Nat) (Q : Option Value × jW → Prop) => x_tkloop (d := d) (xs := xs) (L := L) (Q := Q) (o := o) (h := h) R0 hm s.1 0 (by omega) rfl
  have hla : latI s.2.1 m 0 = -4 := rfl
  have hal : alk s.2.1 m 0 = 0 := rfl
  rw [hla, hal] at hloop
  cases hc : covB s.2.1 m (I 128) s.1 with
  | true =>
    refine ⟨I, by unfold tk; rw [if_pos hc]; exact R0, SX.rf, fun d Q => ?_⟩
    have hl := hloop d Q
    rw [if_pos hc] at hl
    simp only [w44_0, w44_2, w44_4, w44_5, w44_7, w44_8, eq_self, Nat.zero_le, n_lt, n_le, n_eq, n_neg, n_cl, n_mul, n_add, z_0, z_1, z_2, sc_0, sc_i, sc_r, sc_l, sc_n, jc_n, jc_i, jc_r, jc_l, Option.toList_some, Option.toList_none, List.cons_append, List.nil_append, Nat.reduceLT, Nat.reduceLeDiff, Nat.reduceMul, Nat.reduceAdd, Nat.reduceSub, Nat.reduceEqDiff, not_false_eq_true, not_true_eq_false, false_or, or_false, true_or, or_true, false_imp_iff, true_imp_iff, and_true, true_and, forall_const, false_implies, true_implies, b_t0, b_f0]
    exact hl
  | false =>
    have hle := alk_le s.2.1 m s.1
    have s1 : s.1 < 2147483648 := by omega
    have s2 : lim < 2147483648 := by omega
    have s3 : alk s.2.1 m s.1 < 2147483648 := by omega
    have hF : ¬ covB s.2.1 m (I 128) s.1 = true := by rw [hc]; decide
    have k1 : (64 : Nat) < 2147483648 := by omega
    cases hlt : lat s.2.1 m s.1 with
    | none =>
      have hz := lat_none hlt
      have hlI : latI s.2.1 m s.1 = -4 := by unfold latI; rw [hlt]
      have g1 : alk s.2.1 m s.1 < lim := by omega
      by_cases q : 64 ≤ s.1
      · obtain ⟨e1, e2⟩ := x_spent_R R0
        refine ⟨_, by unfold tk; rw [if_neg hF, hlt]; simp only []; rw [if_pos q]; exact e1, e2, fun d Q => ?_⟩
        have q' : ¬ s.1 < 64 := by omega
        have hl := hloop d Q
        rw [if_neg hF] at hl
        simp only [w44_0, w44_2, w44_4, w44_5, w44_7, w44_8, eq_self, Nat.zero_le, n_lt, n_le, n_eq, n_neg, n_cl, n_mul, n_add, z_0, z_1, z_2, sc_0, sc_i, sc_r, sc_l, sc_n, jc_n, jc_i, jc_r, jc_l, Option.toList_some, Option.toList_none, List.cons_append, List.nil_append, Nat.reduceLT, Nat.reduceLeDiff, Nat.reduceMul, Nat.reduceAdd, Nat.reduceSub, Nat.reduceEqDiff, not_false_eq_true, not_true_eq_false, false_or, or_false, true_or, or_true, false_imp_iff, true_imp_iff, and_true, true_and, forall_const, false_implies, true_implies, b_t0, b_f0] at hl ⊢
        rw [hl]
        simp only [w44_0, w44_2, w44_4, w44_5, w44_7, w44_8, w44_12, w44_13, w44_16, w44_19, w44_20, w44_23, w44_25, w44_26, w44_29, w44_30, w44_33, w44_34, w44_37, w44_39, w44_40, w44_43, w44_44, w44_47, w44_50, w44_53, w44_54, w44_56, w44_58, w44_61, w44_64, w44_67, w44_69, w44_70, w44_73, w44_76, w44_78, w44_80, w44_83, w44_84, w44_87, w44_89, w44_90, w44_93, w44_94, w44_97, w44_100, w44_101, w44_104, w44_106, w44_107, w44_108, w44_111, w44_112, w44_115, w44_117, w44_118, w44_119, w44_122, w44_125, w44_126, w44_127, w44_128, w44_129, w44_132, eq_self, Nat.zero_le, n_lt, n_le, n_eq, n_neg, n_cl, n_mul, n_add, z_0, z_1, z_2, sc_0, sc_i, sc_r, sc_l, sc_n, jc_n, jc_i, jc_r, jc_l, Option.toList_some, Option.toList_none, List.cons_append, List.nil_append, Nat.reduceLT, Nat.reduceLeDiff, Nat.reduceMul, Nat.reduceAdd, Nat.reduceSub, Nat.reduceEqDiff, not_false_eq_true, not_true_eq_false, false_or, or_false, true_or, or_true, false_imp_iff, true_imp_iff, and_true, true_and, forall_const, false_implies, true_implies, b_t0, b_f0, tg_1, rf_1_0, rf_1_1, rf_1_2, rf_1_3, rf_1_4, rf_1_5, rf_1_6, tg_2, rf_2_0, rf_2_1, rf_2_2, rf_2_3, tg_3, ln_3, tg_4, ln_4, tg_5, rf_5_0, tg_6, ln_6, tg_7, rf_7_0, tg_8, ln_8, tg_123, rf_123_0, rf_123_1, rf_123_2, rf_123_3, rf_123_4, tg_124, ln_124, tg_125, rf_125_0, tg_126, ln_126, tg_127, rf_127_0, tg_128, ln_128, tg_129, ln_129, tg_322, rf_322_0, rf_322_1, rf_322_2, rf_322_3, tg_323, ln_323, tg_324, ln_324, tg_325, rf_325_0, rf_325_1, rf_325_2, tg_326, rf_326_0, tg_327, ln_327, tg_328, rf_328_0, tg_329, ln_329, tg_330, rf_330_0, rf_330_1, rf_330_2, tg_331, rf_331_0, tg_332, ln_332, tg_333, rf_333_0, tg_334, ln_334, tg_335, ln_335, tg_336, rf_336_0, tg_337, ln_337, tg_339, ln_339, tg_346, rf_346_1, rf_346_2, rf_346_4, rf_346_5, rf_346_6, rf_346_7, rf_346_8, rf_346_11, rf_346_13, rf_346_14, rf_346_15, rf_346_17, rf_346_18, rf_346_19, rf_346_20, rf_346_21, rf_346_22, rf_346_26, rf_346_28, rf_346_29, rf_346_32, rf_346_34, rf_346_35, rf_346_36, tg_347, ln_347, tg_348, ln_348, tg_349, ln_349, tg_350, ln_350, tg_351, ln_351, tg_352, ln_352, tg_353, ln_353, tg_354, ln_354, tg_355, ln_355, tg_356, ln_356, tg_357, ln_357, tg_358, ln_358, tg_359, ln_359, tg_360, ln_360, tg_361, ln_361, tg_362, ln_362, tg_363, ln_363, tg_364, ln_364, tg_365, ln_365, tg_366, ln_366, tg_367, ln_367, tg_368, ln_368, tg_369, ln_369, tg_370, ln_370, hlim, r2, n_lt s3 s2, g1, x_addS R0 q]
      · obtain ⟨e1, e2⟩ := x_add_R (m := m) (o := o) (h := h) R0 (by omega) hm
        refine ⟨_, by unfold tk; rw [if_neg hF, hlt]; simp only []; rw [if_neg q]; exact e1, e2, fun d Q => ?_⟩
        have q' : s.1 < 64 := by omega
        have hl := hloop d Q
        rw [if_neg hF] at hl
        simp only [w44_0, w44_2, w44_4, w44_5, w44_7, w44_8, eq_self, Nat.zero_le, n_lt, n_le, n_eq, n_neg, n_cl, n_mul, n_add, z_0, z_1, z_2, sc_0, sc_i, sc_r, sc_l, sc_n, jc_n, jc_i, jc_r, jc_l, Option.toList_some, Option.toList_none, List.cons_append, List.nil_append, Nat.reduceLT, Nat.reduceLeDiff, Nat.reduceMul, Nat.reduceAdd, Nat.reduceSub, Nat.reduceEqDiff, not_false_eq_true, not_true_eq_false, false_or, or_false, true_or, or_true, false_imp_iff, true_imp_iff, and_true, true_and, forall_const, false_implies, true_implies, b_t0, b_f0] at hl ⊢
        rw [hl]
        simp only [w44_0, w44_2, w44_4, w44_5, w44_7, w44_8, w44_12, w44_13, w44_16, w44_19, w44_20, w44_23, w44_25, w44_26, w44_29, w44_30, w44_33, w44_34, w44_37, w44_39, w44_40, w44_43, w44_44, w44_47, w44_50, w44_53, w44_54, w44_56, w44_58, w44_61, w44_64, w44_67, w44_69, w44_70, w44_73, w44_76, w44_78, w44_80, w44_83, w44_84, w44_87, w44_89, w44_90, w44_93, w44_94, w44_97, w44_100, w44_101, w44_104, w44_106, w44_107, w44_108, w44_111, w44_112, w44_115, w44_117, w44_118, w44_119, w44_122, w44_125, w44_126, w44_127, w44_128, w44_129, w44_132, eq_self, Nat.zero_le, n_lt, n_le, n_eq, n_neg, n_cl, n_mul, n_add, z_0, z_1, z_2, sc_0, sc_i, sc_r, sc_l, sc_n, jc_n, jc_i, jc_r, jc_l, Option.toList_some, Option.toList_none, List.cons_append, List.nil_append, Nat.reduceLT, Nat.reduceLeDiff, Nat.reduceMul, Nat.reduceAdd, Nat.reduceSub, Nat.reduceEqDiff, not_false_eq_true, not_true_eq_false, false_or, or_false, true_or, or_true, false_imp_iff, true_imp_iff, and_true, true_and, forall_const, false_implies, true_implies, b_t0, b_f0, tg_1, rf_1_0, rf_1_1, rf_1_2, rf_1_3, rf_1_4, rf_1_5, rf_1_6, tg_2, rf_2_0, rf_2_1, rf_2_2, rf_2_3, tg_3, ln_3, tg_4, ln_4, tg_5, rf_5_0, tg_6, ln_6, tg_7, rf_7_0, tg_8, ln_8, tg_123, rf_123_0, rf_123_1, rf_123_2, rf_123_3, rf_123_4, tg_124, ln_124, tg_125, rf_125_0, tg_126, ln_126, tg_127, rf_127_0, tg_128, ln_128, tg_129, ln_129, tg_322, rf_322_0, rf_322_1, rf_322_2, rf_322_3, tg_323, ln_323, tg_324, ln_324, tg_325, rf_325_0, rf_325_1, rf_325_2, tg_326, rf_326_0, tg_327, ln_327, tg_328, rf_328_0, tg_329, ln_329, tg_330, rf_330_0, rf_330_1, rf_330_2, tg_331, rf_331_0, tg_332, ln_332, tg_333, rf_333_0, tg_334, ln_334, tg_335, ln_335, tg_336, rf_336_0, tg_337, ln_337, tg_339, ln_339, tg_346, rf_346_1, rf_346_2, rf_346_4, rf_346_5, rf_346_6, rf_346_7, rf_346_8, rf_346_11, rf_346_13, rf_346_14, rf_346_15, rf_346_17, rf_346_18, rf_346_19, rf_346_20, rf_346_21, rf_346_22, rf_346_26, rf_346_28, rf_346_29, rf_346_32, rf_346_34, rf_346_35, rf_346_36, tg_347, ln_347, tg_348, ln_348, tg_349, ln_349, tg_350, ln_350, tg_351, ln_351, tg_352, ln_352, tg_353, ln_353, tg_354, ln_354, tg_355, ln_355, tg_356, ln_356, tg_357, ln_357, tg_358, ln_358, tg_359, ln_359, tg_360, ln_360, tg_361, ln_361, tg_362, ln_362, tg_363, ln_363, tg_364, ln_364, tg_365, ln_365, tg_366, ln_366, tg_367, ln_367, tg_368, ln_368, tg_369, ln_369, tg_370, ln_370, hlim, r2, n_lt s3 s2, g1, x_add R0 q']
    | some l =>
      have hll := lat_lt hlt
      have hl3 : l < 64 := by omega
      have hlI : latI s.2.1 m s.1 = nI l := by unfold latI; rw [hlt]
      by_cases g1 : lim ≤ alk s.2.1 m s.1
      · obtain ⟨e1, e2⟩ := x_join_R R0 hll
        refine ⟨_, by unfold tk; rw [if_neg hF, hlt]; simp only []; rw [if_pos g1]; exact e1, e2, fun d Q => ?_⟩
        obtain ⟨l1, l2, l3⟩ := lay_H l hl3
        have g2 : ¬ alk s.2.1 m s.1 < lim := by omega
        have s4 : l < 2147483648 := by omega
        have s5 : ¬ 64 ≤ l := by omega
        have n1 : (127 : Nat) ≠ 131 + 3 * l := by omega
        have hm4 : (nI l = -4) = False := by
          apply eq_false
          intro hq
          have := congrArg Int32.toInt hq
          rw [nI_toInt s4] at this
          have h4 : (-4 : Int32).toInt = -4 := by decide
          omega
        have hl := hloop d Q
        rw [if_neg hF] at hl
        simp only [w44_0, w44_2, w44_4, w44_5, w44_7, w44_8, eq_self, Nat.zero_le, n_lt, n_le, n_eq, n_neg, n_cl, n_mul, n_add, z_0, z_1, z_2, sc_0, sc_i, sc_r, sc_l, sc_n, jc_n, jc_i, jc_r, jc_l, Option.toList_some, Option.toList_none, List.cons_append, List.nil_append, Nat.reduceLT, Nat.reduceLeDiff, Nat.reduceMul, Nat.reduceAdd, Nat.reduceSub, Nat.reduceEqDiff, not_false_eq_true, not_true_eq_false, false_or, or_false, true_or, or_true, false_imp_iff, true_imp_iff, and_true, true_and, forall_const, false_implies, true_implies, b_t0, b_f0] at hl ⊢
        rw [hl]
        simp only [w44_0, w44_2, w44_4, w44_5, w44_7, w44_8, w44_12, w44_13, w44_16, w44_19, w44_20, w44_23, w44_25, w44_26, w44_29, w44_30, w44_33, w44_34, w44_37, w44_39, w44_40, w44_43, w44_44, w44_47, w44_50, w44_53, w44_54, w44_56, w44_58, w44_61, w44_64, w44_67, w44_69, w44_70, w44_73, w44_76, w44_78, w44_80, w44_83, w44_84, w44_87, w44_89, w44_90, w44_93, w44_94, w44_97, w44_100, w44_101, w44_104, w44_106, w44_107, w44_108, w44_111, w44_112, w44_115, w44_117, w44_118, w44_119, w44_122, w44_125, w44_126, w44_127, w44_128, w44_129, w44_132, eq_self, Nat.zero_le, n_lt, n_le, n_eq, n_neg, n_cl, n_mul, n_add, z_0, z_1, z_2, sc_0, sc_i, sc_r, sc_l, sc_n, jc_n, jc_i, jc_r, jc_l, Option.toList_some, Option.toList_none, List.cons_append, List.nil_append, Nat.reduceLT, Nat.reduceLeDiff, Nat.reduceMul, Nat.reduceAdd, Nat.reduceSub, Nat.reduceEqDiff, not_false_eq_true, not_true_eq_false, false_or, or_false, true_or, or_true, false_imp_iff, true_imp_iff, and_true, true_and, forall_const, false_implies, true_implies, b_t0, b_f0, tg_1, rf_1_0, rf_1_1, rf_1_2, rf_1_3, rf_1_4, rf_1_5, rf_1_6, tg_2, rf_2_0, rf_2_1, rf_2_2, rf_2_3, tg_3, ln_3, tg_4, ln_4, tg_5, rf_5_0, tg_6, ln_6, tg_7, rf_7_0, tg_8, ln_8, tg_123, rf_123_0, rf_123_1, rf_123_2, rf_123_3, rf_123_4, tg_124, ln_124, tg_125, rf_125_0, tg_126, ln_126, tg_127, rf_127_0, tg_128, ln_128, tg_129, ln_129, tg_322, rf_322_0, rf_322_1, rf_322_2, rf_322_3, tg_323, ln_323, tg_324, ln_324, tg_325, rf_325_0, rf_325_1, rf_325_2, tg_326, rf_326_0, tg_327, ln_327, tg_328, rf_328_0, tg_329, ln_329, tg_330, rf_330_0, rf_330_1, rf_330_2, tg_331, rf_331_0, tg_332, ln_332, tg_333, rf_333_0, tg_334, ln_334, tg_335, ln_335, tg_336, rf_336_0, tg_337, ln_337, tg_339, ln_339, tg_346, rf_346_1, rf_346_2, rf_346_4, rf_346_5, rf_346_6, rf_346_7, rf_346_8, rf_346_11, rf_346_13, rf_346_14, rf_346_15, rf_346_17, rf_346_18, rf_346_19, rf_346_20, rf_346_21, rf_346_22, rf_346_26, rf_346_28, rf_346_29, rf_346_32, rf_346_34, rf_346_35, rf_346_36, tg_347, ln_347, tg_348, ln_348, tg_349, ln_349, tg_350, ln_350, tg_351, ln_351, tg_352, ln_352, tg_353, ln_353, tg_354, ln_354, tg_355, ln_355, tg_356, ln_356, tg_357, ln_357, tg_358, ln_358, tg_359, ln_359, tg_360, ln_360, tg_361, ln_361, tg_362, ln_362, tg_363, ln_363, tg_364, ln_364, tg_365, ln_365, tg_366, ln_366, tg_367, ln_367, tg_368, ln_368, tg_369, ln_369, tg_370, ln_370, hlim, r2, n_lt s3 s2, g2, hlI, hm4, n_cl s4, n_neg s4, s5, l1, l2, l3, (bx_hp hl3).1, sp_join (bx_hp hl3) bx_127 n1]
        unfold joinI
        rw [show 132 + 3 * l = 131 + 3 * l + 1 by omega]
      · have g2 : alk s.2.1 m s.1 < lim := by omega
        by_cases q : 64 ≤ s.1
        · obtain ⟨e1, e2⟩ := x_spent_R R0
          refine ⟨_, by unfold tk; rw [if_neg hF, hlt]; simp only []; rw [if_neg g1, if_pos q]; exact e1, e2, fun d Q => ?_⟩
          have q' : ¬ s.1 < 64 := by omega
          have hl := hloop d Q
          rw [if_neg hF] at hl
          simp only [w44_0, w44_2, w44_4, w44_5, w44_7, w44_8, eq_self, Nat.zero_le, n_lt, n_le, n_eq, n_neg, n_cl, n_mul, n_add, z_0, z_1, z_2, sc_0, sc_i, sc_r, sc_l, sc_n, jc_n, jc_i, jc_r, jc_l, Option.toList_some, Option.toList_none, List.cons_append, List.nil_append, Nat.reduceLT, Nat.reduceLeDiff, Nat.reduceMul, Nat.reduceAdd, Nat.reduceSub, Nat.reduceEqDiff, not_false_eq_true, not_true_eq_false, false_or, or_false, true_or, or_true, false_imp_iff, true_imp_iff, and_true, true_and, forall_const, false_implies, true_implies, b_t0, b_f0] at hl ⊢
          rw [hl]
          simp only [w44_0, w44_2, w44_4, w44_5, w44_7, w44_8, w44_12, w44_13, w44_16, w44_19, w44_20, w44_23, w44_25, w44_26, w44_29, w44_30, w44_33, w44_34, w44_37, w44_39, w44_40, w44_43, w44_44, w44_47, w44_50, w44_53, w44_54, w44_56, w44_58, w44_61, w44_64, w44_67, w44_69, w44_70, w44_73, w44_76, w44_78, w44_80, w44_83, w44_84, w44_87, w44_89, w44_90, w44_93, w44_94, w44_97, w44_100, w44_101, w44_104, w44_106, w44_107, w44_108, w44_111, w44_112, w44_115, w44_117, w44_118, w44_119, w44_122, w44_125, w44_126, w44_127, w44_128, w44_129, w44_132, eq_self, Nat.zero_le, n_lt, n_le, n_eq, n_neg, n_cl, n_mul, n_add, z_0, z_1, z_2, sc_0, sc_i, sc_r, sc_l, sc_n, jc_n, jc_i, jc_r, jc_l, Option.toList_some, Option.toList_none, List.cons_append, List.nil_append, Nat.reduceLT, Nat.reduceLeDiff, Nat.reduceMul, Nat.reduceAdd, Nat.reduceSub, Nat.reduceEqDiff, not_false_eq_true, not_true_eq_false, false_or, or_false, true_or, or_true, false_imp_iff, true_imp_iff, and_true, true_and, forall_const, false_implies, true_implies, b_t0, b_f0, tg_1, rf_1_0, rf_1_1, rf_1_2, rf_1_3, rf_1_4, rf_1_5, rf_1_6, tg_2, rf_2_0, rf_2_1, rf_2_2, rf_2_3, tg_3, ln_3, tg_4, ln_4, tg_5, rf_5_0, tg_6, ln_6, tg_7, rf_7_0, tg_8, ln_8, tg_123, rf_123_0, rf_123_1, rf_123_2, rf_123_3, rf_123_4, tg_124, ln_124, tg_125, rf_125_0, tg_126, ln_126, tg_127, rf_127_0, tg_128, ln_128, tg_129, ln_129, tg_322, rf_322_0, rf_322_1, rf_322_2, rf_322_3, tg_323, ln_323, tg_324, ln_324, tg_325, rf_325_0, rf_325_1, rf_325_2, tg_326, rf_326_0, tg_327, ln_327, tg_328, rf_328_0, tg_329, ln_329, tg_330, rf_330_0, rf_330_1, rf_330_2, tg_331, rf_331_0, tg_332, ln_332, tg_333, rf_333_0, tg_334, ln_334, tg_335, ln_335, tg_336, rf_336_0, tg_337, ln_337, tg_339, ln_339, tg_346, rf_346_1, rf_346_2, rf_346_4, rf_346_5, rf_346_6, rf_346_7, rf_346_8, rf_346_11, rf_346_13, rf_346_14, rf_346_15, rf_346_17, rf_346_18, rf_346_19, rf_346_20, rf_346_21, rf_346_22, rf_346_26, rf_346_28, rf_346_29, rf_346_32, rf_346_34, rf_346_35, rf_346_36, tg_347, ln_347, tg_348, ln_348, tg_349, ln_349, tg_350, ln_350, tg_351, ln_351, tg_352, ln_352, tg_353, ln_353, tg_354, ln_354, tg_355, ln_355, tg_356, ln_356, tg_357, ln_357, tg_358, ln_358, tg_359, ln_359, tg_360, ln_360, tg_361, ln_361, tg_362, ln_362, tg_363, ln_363, tg_364, ln_364, tg_365, ln_365, tg_366, ln_366, tg_367, ln_367, tg_368, ln_368, tg_369, ln_369, tg_370, ln_370, hlim, r2, n_lt s3 s2, g2, x_addS R0 q]
        · obtain ⟨e1, e2⟩ := x_add_R (m := m) (o := o) (h := h) R0 (by omega) hm
          refine ⟨_, by unfold tk; rw [if_neg hF, hlt]; simp only []; rw [if_neg g1, if_neg q]; exact e1, e2, fun d Q => ?_⟩
          have q' : s.1 < 64 := by omega
          have hl := hloop d Q
          rw [if_neg hF] at hl
          simp only [w44_0, w44_2, w44_4, w44_5, w44_7, w44_8, eq_self, Nat.zero_le, n_lt, n_le, n_eq, n_neg, n_cl, n_mul, n_add, z_0, z_1, z_2, sc_0, sc_i, sc_r, sc_l, sc_n, jc_n, jc_i, jc_r, jc_l, Option.toList_some, Option.toList_none, List.cons_append, List.nil_append, Nat.reduceLT, Nat.reduceLeDiff, Nat.reduceMul, Nat.reduceAdd, Nat.reduceSub, Nat.reduceEqDiff, not_false_eq_true, not_true_eq_false, false_or, or_false, true_or, or_true, false_imp_iff, true_imp_iff, and_true, true_and, forall_const, false_implies, true_implies, b_t0, b_f0] at hl ⊢
          rw [hl]
          simp only [w44_0, w44_2, w44_4, w44_5, w44_7, w44_8, w44_12, w44_13, w44_16, w44_19, w44_20, w44_23, w44_25, w44_26, w44_29, w44_30, w44_33, w44_34, w44_37, w44_39, w44_40, w44_43, w44_44, w44_47, w44_50, w44_53, w44_54, w44_56, w44_58, w44_61, w44_64, w44_67, w44_69, w44_70, w44_73, w44_76, w44_78, w44_80, w44_83, w44_84, w44_87, w44_89, w44_90, w44_93, w44_94, w44_97, w44_100, w44_101, w44_104, w44_106, w44_107, w44_108, w44_111, w44_112, w44_115, w44_117, w44_118, w44_119, w44_122, w44_125, w44_126, w44_127, w44_128, w44_129, w44_132, eq_self, Nat.zero_le, n_lt, n_le, n_eq, n_neg, n_cl, n_mul, n_add, z_0, z_1, z_2, sc_0, sc_i, sc_r, sc_l, sc_n, jc_n, jc_i, jc_r, jc_l, Option.toList_some, Option.toList_none, List.cons_append, List.nil_append, Nat.reduceLT, Nat.reduceLeDiff, Nat.reduceMul, Nat.reduceAdd, Nat.reduceSub, Nat.reduceEqDiff, not_false_eq_true, not_true_eq_false, false_or, or_false, true_or, or_true, false_imp_iff, true_imp_iff, and_true, true_and, forall_const, false_implies, true_implies, b_t0, b_f0, tg_1, rf_1_0, rf_1_1, rf_1_2, rf_1_3, rf_1_4, rf_1_5, rf_1_6, tg_2, rf_2_0, rf_2_1, rf_2_2, rf_2_3, tg_3, ln_3, tg_4, ln_4, tg_5, rf_5_0, tg_6, ln_6, tg_7, rf_7_0, tg_8, ln_8, tg_123, rf_123_0, rf_123_1, rf_123_2, rf_123_3, rf_123_4, tg_124, ln_124, tg_125, rf_125_0, tg_126, ln_126, tg_127, rf_127_0, tg_128, ln_128, tg_129, ln_129, tg_322, rf_322_0, rf_322_1, rf_322_2, rf_322_3, tg_323, ln_323, tg_324, ln_324, tg_325, rf_325_0, rf_325_1, rf_325_2, tg_326, rf_326_0, tg_327, ln_327, tg_328, rf_328_0, tg_329, ln_329, tg_330, rf_330_0, rf_330_1, rf_330_2, tg_331, rf_331_0, tg_332, ln_332, tg_333, rf_333_0, tg_334, ln_334, tg_335, ln_335, tg_336, rf_336_0, tg_337, ln_337, tg_339, ln_339, tg_346, rf_346_1, rf_346_2, rf_346_4, rf_346_5, rf_346_6, rf_346_7, rf_346_8, rf_346_11, rf_346_13, rf_346_14, rf_346_15, rf_346_17, rf_346_18, rf_346_19, rf_346_20, rf_346_21, rf_346_22, rf_346_26, rf_346_28, rf_346_29, rf_346_32, rf_346_34, rf_346_35, rf_346_36, tg_347, ln_347, tg_348, ln_348, tg_349, ln_349, tg_350, ln_350, tg_351, ln_351, tg_352, ln_352, tg_353, ln_353, tg_354, ln_354, tg_355, ln_355, tg_356, ln_356, tg_357, ln_357, tg_358, ln_358, tg_359, ln_359, tg_360, ln_360, tg_361, ln_361, tg_362, ln_362, tg_363, ln_363, tg_364, ln_364, tg_365, ln_365, tg_366, ln_366, tg_367, ln_367, tg_368, ln_368, tg_369, ln_369, tg_370, ln_370, hlim, r2, n_lt s3 s2, g2, x_add R0 q']
end TKS
