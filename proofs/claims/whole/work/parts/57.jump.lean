/-! jump -/
section JUMP
variable {xs : List Value} {I : fI} {L : fL}
def juX (I : fI) (c a b : Nat) : fI := f_up (f_up (f_up (f_up I 123 9 (nI 0)) (51 + 6 * c) 3 (nI a)) (51 + 6 * c) 4 (nI b)) 2 5 (nI (c + 1))
def juI (I : fI) (c a b : Nat) : fI := f_up (f_up (f_up (f_up (f_w6 (f_up (f_up (juX I c a b) 349 c (nI a)) 350 c (nI b)) 351 (6 * c) d20) 353 (3 * c) (nI 0)) 353 (3 * c + 1) (nI 0)) 353 (3 * c + 2) (nI 0)) 346 3 (nI (c + 1))
theorem juI_RD {mc jc lim sm a b : Nat} {fj tj : Nat → Nat} (h : RD I mc jc lim sm fj tj) (hc : jc < 12) (ha : a < mc) (hb : b < mc) : RD (juI I jc a b) mc (jc + 1) lim sm (fun j => if j = jc then a else fj j) (fun j => if j = jc then b else tj j) := by
  obtain ⟨h1, h2, h3, h4, h5, h6, h7, h8⟩ := h
  have mc6 := h1.2.1
  generalize hI : juI I jc a b = I'
  have o : ∀ o, o ≠ 2 → o ≠ 123 → o ≠ 346 → o ≠ 349 → o ≠ 350 → o ≠ 351 → o ≠ 353 → o ≠ 51 + 6 * jc → I' o = I o := by
    intro o a b c d e f g h
    rw [← hI]
    unfold juI juX
    rw [f_up_ne c, f_up_ne g, f_up_ne g, f_up_ne g, f_w6_ne f, f_up_ne e, f_up_ne d, f_up_ne a, f_up_ne h, f_up_ne h, f_up_ne b]
  have z1 : ¬ 2 = 51 + 6 * jc := by omega
  have z2 : ¬ 346 = 51 + 6 * jc := by omega
  have z3 : ¬ 123 = 51 + 6 * jc := by omega
  have z4 : ¬ 51 + 6 * jc = 2 := by omega
  have z5 : ¬ 51 + 6 * jc = 346 := by omega
  have z6 : ¬ 51 + 6 * jc = 349 := by omega
  have z7 : ¬ 51 + 6 * jc = 350 := by omega
  have z8 : ¬ 51 + 6 * jc = 351 := by omega
  have z9 : ¬ 51 + 6 * jc = 353 := by omega
  have o2 : ∀ k, k ≠ 5 → I' 2 k = I 2 k := by intro k hk; rw [← hI]; simp [juI, juX, f_up_at, f_w6_at, hk, z1]
  have oM : ∀ k, k ≠ 3 → I' 346 k = I 346 k := by intro k hk; rw [← hI]; simp [juI, juX, f_up_at, f_w6_at, hk, z2]
  have oS : I' 123 5 = I 123 5 := by rw [← hI]; simp [juI, juX, f_up_at, f_w6_at, z3]
  have e1 : I' 2 5 = nI (jc + 1) := by rw [← hI]; simp [juI, juX, f_up_at, f_w6_at]
  have e2 : I' 346 3 = nI (jc + 1) := by rw [← hI]; simp [juI, f_up_at]
  have e3 : I' (51 + 6 * jc) 3 = nI a := by rw [← hI]; simp [juI, juX, f_up_at, f_w6_at, z4, z5, z6, z7, z8, z9]
  have e4 : I' (51 + 6 * jc) 4 = nI b := by rw [← hI]; simp [juI, juX, f_up_at, f_w6_at, z4, z5, z6, z7, z8, z9]
  have e5 : ∀ j, I' 349 j = if j = jc then nI a else I 349 j := by
    intro j
    rw [← hI]
    have : ¬ 349 = 51 + 6 * jc := by omega
    simp [juI, juX, f_up_at, f_w6_at, this]
  have e6 : ∀ j, I' 350 j = if j = jc then nI b else I 350 j := by
    intro j
    rw [← hI]
    have : ¬ 350 = 51 + 6 * jc := by omega
    simp [juI, juX, f_up_at, f_w6_at, this]
  have e7 : ∀ k, k < 6 → I' 351 (6 * jc + k) = d20 k := by
    intro k hk
    rw [← hI]
    simp [juI, f_up_at, f_w6_at, hk]
  have e8 : ∀ j, j ≠ jc → ∀ k, k < 6 → I' 351 (6 * j + k) = I 351 (6 * j + k) := by
    intro j hj k hk
    rw [← hI]
    have a1 : ¬ (6 * jc ≤ 6 * j + k ∧ 6 * j + k < 6 * jc + 6) := by omega
    have a2 : ¬ 351 = 51 + 6 * jc := by omega
    simp [juI, juX, f_up_at, f_w6_at, a1, a2]
  have e9 : ∀ k, k < 3 → I' 353 (3 * jc + k) = 0 := by
    intro k hk
    rw [← hI]
    have hk : k = 0 ∨ k = 1 ∨ k = 2 := by omega
    rcases hk with rfl | rfl | rfl <;> simp [juI, f_up_at, nI]
  have e10 : ∀ j, j ≠ jc → ∀ k, k < 3 → I' 353 (3 * j + k) = I 353 (3 * j + k) := by
    intro j hj k hk
    rw [← hI]
    have a1 : ¬ 3 * j + k = 3 * jc := by omega
    have a2 : ¬ 3 * j + k = 3 * jc + 1 := by omega
    have a3 : ¬ 3 * j + k = 3 * jc + 2 := by omega
    have a4 : ¬ 353 = 51 + 6 * jc := by omega
    simp [juI, juX, f_up_at, f_w6_at, a1, a2, a3, a4]
  refine ⟨⟨by rw [o2 4 (by omega)]; exact h1.1, mc6, e1, by omega, fun j hj => ?_, by rw [oS]; exact h1.2.2.2.2.2.1, h1.2.2.2.2.2.2⟩, ⟨by rw [oM 0 (by omega)]; exact h2.1, mc6, e2, by omega, fun j hj => ?_, by rw [oM 12 (by omega)]; exact h2.2.2.2.2.2.1, h2.2.2.2.2.2.2⟩, h3.of (fun k hk => o2 k (by omega)) (fun k hk => oM k (by omega)) (o _ (by omega) (by omega) (by omega) (by omega) (by omega) (by omega) (by omega) (by omega)) (o _ (by omega) (by omega) (by omega) (by omega) (by omega) (by omega) (by omega) (by omega)) (o _ (by omega) (by omega) (by omega) (by omega) (by omega) (by omega) (by omega) (by omega)), fun j hj => ?_, fun m hm => (h5 m hm).of (fun c hc => o _ (by omega) (by omega) (by omega) (by omega) (by omega) (by omega) (by omega) (by omega)) (fun a ha k hk => by rw [o a (by omega) (by omega) (by omega) (by omega) (by omega) (by omega) (by omega) (by omega)]) (by rw [o 355 (by omega) (by omega) (by omega) (by omega) (by omega) (by omega) (by omega) (by omega)]), fun j hj => ?_, h7.of (o _ (by omega) (by omega) (by omega) (by omega) (by omega) (by omega) (by omega) (by omega)) (o _ (by omega) (by omega) (by omega) (by omega) (by omega) (by omega) (by omega) (by omega)) (o _ (by omega) (by omega) (by omega) (by omega) (by omega) (by omega) (by omega) (by omega)) (fun k hk => oM k (by omega)), fun k hk => (h8 k hk).of (o _ (by omega) (by omega) (by omega) (by omega) (by omega) (by omega) (by omega) (by omega)) (o _ (by omega) (by omega) (by omega) (by omega) (by omega) (by omega) (by omega) (by omega)) (fun a ha => by rw [o a (by omega) (by omega) (by omega) (by omega) (by omega) (by omega) (by omega) (by omega)]) (fun i hi => by rw [o 370 (by omega) (by omega) (by omega) (by omega) (by omega) (by omega) (by omega) (by omega)])⟩
  · rw [o (56 + 6 * j) (by omega) (by omega) (by omega) (by omega) (by omega) (by omega) (by omega) (by omega)]
    by_cases q : j = jc
    · subst q
      rw [e3, e4]
      simp only [if_true]
      exact ⟨trivial, trivial, by omega, by omega, fun k hk => ((h6 j hc).1 k hk).1⟩
    · rw [o (51 + 6 * j) (by omega) (by omega) (by omega) (by omega) (by omega) (by omega) (by omega) (by omega)]
      simp only [q, if_false]
      exact h1.2.2.2.2.1 j (by omega)
  · rw [e5, e6]
    by_cases q : j = jc
    · subst q
      simp only [if_true]
      exact ⟨trivial, trivial, by omega, by omega⟩
    · simp only [q, if_false]
      exact h2.2.2.2.2.1 j (by omega)
  · show (if j = jc then a else fj j) < mc ∧ (if j = jc then b else tj j) < mc
    by_cases q : j = jc
    · rw [if_pos q, if_pos q]; exact ⟨ha, hb⟩
    · rw [if_neg q, if_neg q]; exact h4 j (by omega)
  · by_cases q : j = jc
    · subst q
      obtain ⟨a1, a2, a3, a4⟩ := h6 j hj
      obtain ⟨b1, b2⟩ := a4 (Nat.le_refl _)
      unfold DJ
      rw [o (56 + 6 * j) (by omega) (by omega) (by omega) (by omega) (by omega) (by omega) (by omega) (by omega), o (55 + 6 * j) (by omega) (by omega) (by omega) (by omega) (by omega) (by omega) (by omega) (by omega), o (53 + 6 * j) (by omega) (by omega) (by omega) (by omega) (by omega) (by omega) (by omega) (by omega), sl_fr (o 352 (by omega) (by omega) (by omega) (by omega) (by omega) (by omega) (by omega) (by omega))]
      exact ⟨fun k hk => ⟨(a1 k hk).1, by rw [e9 k hk, b2 k hk]⟩, a2, fun _ k hk => by rw [b1 k hk]; exact e7 k hk, fun r => by omega⟩
    · obtain ⟨a1, a2, a3, a4⟩ := (h6 j hj).of (I' := I') (fun c hc => o _ (by omega) (by omega) (by omega) (by omega) (by omega) (by omega) (by omega) (by omega)) (fun a ha k hk => by
        rcases ha with rfl | rfl
        · exact e8 j q k hk
        · rw [o 352 (by omega) (by omega) (by omega) (by omega) (by omega) (by omega) (by omega) (by omega)]) (fun k hk => e10 j q k hk)
      exact ⟨a1, a2, fun r => a3 (by omega), fun r => a4 (by omega)⟩
theorem same_jump (hR : Rel I) {a b : Int32} : Same xs I L 20 [some (.ref 1), some (.int a), some (.int b), none] 119 [some (.ref 346), some (.int a), some (.int b), none] := by
  obtain ⟨mc, jc, lim, sm, fj, tj, hh, f⟩ := id hR
  have mc6 := hh.1.2.1
  have jc12 := hh.1.2.2.2.1
  have x1 := hh.1.2.2.1
  have m1 := hh.2.1.2.2.1
  have ea := hasM_in (x := a) hh.1.1 mc6
  have eb := hasM_in (x := b) hh.1.1 mc6
  cases hq : inI 0 a.toInt ((mc : Int) - 1) with
  | false =>
    rw [hq] at ea
    refine ⟨-1, I, I, L, fun d Q => ?_, fun d Q => ?_, hR⟩
    · simp only [w20_0, w20_1, w20_4, w20_5, w20_8, w20_11, w20_12, w20_15, w20_16, w20_19, w20_22, w20_23, w20_24, w20_25, w20_28, w20_31, w20_33, w20_36, w20_38, w20_39, w20_40, w20_43, w20_46, w20_47, w20_50, w20_53, w20_54, w20_57, w20_60, w20_61, w20_62, w20_63, w20_64, w20_67, w20_68, w20_69, w20_72, w20_73, w20_76, w20_76r, w20_77, w20_80, w20_81, w20_82, w20_83, w20_86, eq_self, Nat.zero_le, n_lt, n_le, n_eq, n_neg, n_cl, n_mul, n_add, z_0, z_1, z_2, sc_0, sc_i, sc_r, sc_l, sc_n, jc_n, jc_i, jc_r, jc_l, Option.toList_some, Option.toList_none, List.cons_append, List.nil_append, Nat.reduceLT, Nat.reduceLeDiff, Nat.reduceMul, Nat.reduceAdd, Nat.reduceSub, Nat.reduceEqDiff, not_false_eq_true, not_true_eq_false, false_or, or_false, true_or, or_true, false_imp_iff, true_imp_iff, and_true, true_and, forall_const, false_implies, true_implies, b_t0, b_f0, tg_1, rf_1_0, rf_1_1, rf_1_2, rf_1_3, rf_1_4, rf_1_5, rf_1_6, tg_2, rf_2_0, rf_2_1, rf_2_2, rf_2_3, tg_3, ln_3, tg_4, ln_4, tg_5, rf_5_0, tg_6, ln_6, tg_7, rf_7_0, tg_8, ln_8, tg_123, rf_123_0, rf_123_1, rf_123_2, rf_123_3, rf_123_4, tg_124, ln_124, tg_125, rf_125_0, tg_126, ln_126, tg_127, rf_127_0, tg_128, ln_128, tg_129, ln_129, tg_322, rf_322_0, rf_322_1, rf_322_2, rf_322_3, tg_323, ln_323, tg_324, ln_324, tg_325, rf_325_0, rf_325_1, rf_325_2, tg_326, rf_326_0, tg_327, ln_327, tg_328, rf_328_0, tg_329, ln_329, tg_330, rf_330_0, rf_330_1, rf_330_2, tg_331, rf_331_0, tg_332, ln_332, tg_333, rf_333_0, tg_334, ln_334, tg_335, ln_335, tg_336, rf_336_0, tg_337, ln_337, tg_339, ln_339, tg_346, rf_346_1, rf_346_2, rf_346_4, rf_346_5, rf_346_6, rf_346_7, rf_346_8, rf_346_11, rf_346_13, rf_346_14, rf_346_15, rf_346_17, rf_346_18, rf_346_19, rf_346_20, rf_346_21, rf_346_22, rf_346_26, rf_346_28, rf_346_29, rf_346_32, rf_346_34, rf_346_35, rf_346_36, tg_347, ln_347, tg_348, ln_348, tg_349, ln_349, tg_350, ln_350, tg_351, ln_351, tg_352, ln_352, tg_353, ln_353, tg_354, ln_354, tg_355, ln_355, tg_356, ln_356, tg_357, ln_357, tg_358, ln_358, tg_359, ln_359, tg_360, ln_360, tg_361, ln_361, tg_362, ln_362, tg_363, ln_363, tg_364, ln_364, tg_365, ln_365, tg_366, ln_366, tg_367, ln_367, tg_368, ln_368, tg_369, ln_369, tg_370, ln_370, sp_hasMode, ea, b2_f]
    · simp only [w119_0, w119_1, w119_2, w119_5, w119_8, w119_9, w119_10, w119_13, w119_16, w119_17, w119_18, w119_19, w119_22, w119_24, w119_27, w119_29, w119_30, w119_31, w119_34, w119_35, w119_38, w119_39, w119_40, w119_41, w119_44, w119_45, w119_48, w119_49, w119_50, w119_51, w119_54, w119_56, w119_57, w119_60, w119_61, w119_64, w119_65, w119_66, w119_67, w119_68, w119_71, w119_72, w119_75, w119_76, w119_77, w119_80, w119_81, w119_82, w119_83, w119_84, w119_85, w119_88, w119_91, w119_92, w119_92r, w119_93, w119_96, w119_97, w119_98, w119_101, w119_102, w119_105, w119_106, w119_107, eq_self, Nat.zero_le, n_lt, n_le, n_eq, n_neg, n_cl, n_mul, n_add, z_0, z_1, z_2, sc_0, sc_i, sc_r, sc_l, sc_n, jc_n, jc_i, jc_r, jc_l, Option.toList_some, Option.toList_none, List.cons_append, List.nil_append, Nat.reduceLT, Nat.reduceLeDiff, Nat.reduceMul, Nat.reduceAdd, Nat.reduceSub, Nat.reduceEqDiff, not_false_eq_true, not_true_eq_false, false_or, or_false, true_or, or_true, false_imp_iff, true_imp_iff, and_true, true_and, forall_const, false_implies, true_implies, b_t0, b_f0, tg_1, rf_1_0, rf_1_1, rf_1_2, rf_1_3, rf_1_4, rf_1_5, rf_1_6, tg_2, rf_2_0, rf_2_1, rf_2_2, rf_2_3, tg_3, ln_3, tg_4, ln_4, tg_5, rf_5_0, tg_6, ln_6, tg_7, rf_7_0, tg_8, ln_8, tg_123, rf_123_0, rf_123_1, rf_123_2, rf_123_3, rf_123_4, tg_124, ln_124, tg_125, rf_125_0, tg_126, ln_126, tg_127, rf_127_0, tg_128, ln_128, tg_129, ln_129, tg_322, rf_322_0, rf_322_1, rf_322_2, rf_322_3, tg_323, ln_323, tg_324, ln_324, tg_325, rf_325_0, rf_325_1, rf_325_2, tg_326, rf_326_0, tg_327, ln_327, tg_328, rf_328_0, tg_329, ln_329, tg_330, rf_330_0, rf_330_1, rf_330_2, tg_331, rf_331_0, tg_332, ln_332, tg_333, rf_333_0, tg_334, ln_334, tg_335, ln_335, tg_336, rf_336_0, tg_337, ln_337, tg_339, ln_339, tg_346, rf_346_1, rf_346_2, rf_346_4, rf_346_5, rf_346_6, rf_346_7, rf_346_8, rf_346_11, rf_346_13, rf_346_14, rf_346_15, rf_346_17, rf_346_18, rf_346_19, rf_346_20, rf_346_21, rf_346_22, rf_346_26, rf_346_28, rf_346_29, rf_346_32, rf_346_34, rf_346_35, rf_346_36, tg_347, ln_347, tg_348, ln_348, tg_349, ln_349, tg_350, ln_350, tg_351, ln_351, tg_352, ln_352, tg_353, ln_353, tg_354, ln_354, tg_355, ln_355, tg_356, ln_356, tg_357, ln_357, tg_358, ln_358, tg_359, ln_359, tg_360, ln_360, tg_361, ln_361, tg_362, ln_362, tg_363, ln_363, tg_364, ln_364, tg_365, ln_365, tg_366, ln_366, tg_367, ln_367, tg_368, ln_368, tg_369, ln_369, tg_370, ln_370, sp_isMode hh.2.1.1 mc6, hq, b2_f]
  | true =>
    rw [hq] at ea
    cases hq2 : inI 0 b.toInt ((mc : Int) - 1) with
    | false =>
      rw [hq2] at eb
      refine ⟨-1, I, I, L, fun d Q => ?_, fun d Q => ?_, hR⟩
      · simp only [w20_0, w20_1, w20_4, w20_5, w20_8, w20_11, w20_12, w20_15, w20_16, w20_19, w20_22, w20_23, w20_24, w20_25, w20_28, w20_31, w20_33, w20_36, w20_38, w20_39, w20_40, w20_43, w20_46, w20_47, w20_50, w20_53, w20_54, w20_57, w20_60, w20_61, w20_62, w20_63, w20_64, w20_67, w20_68, w20_69, w20_72, w20_73, w20_76, w20_76r, w20_77, w20_80, w20_81, w20_82, w20_83, w20_86, eq_self, Nat.zero_le, n_lt, n_le, n_eq, n_neg, n_cl, n_mul, n_add, z_0, z_1, z_2, sc_0, sc_i, sc_r, sc_l, sc_n, jc_n, jc_i, jc_r, jc_l, Option.toList_some, Option.toList_none, List.cons_append, List.nil_append, Nat.reduceLT, Nat.reduceLeDiff, Nat.reduceMul, Nat.reduceAdd, Nat.reduceSub, Nat.reduceEqDiff, not_false_eq_true, not_true_eq_false, false_or, or_false, true_or, or_true, false_imp_iff, true_imp_iff, and_true, true_and, forall_const, false_implies, true_implies, b_t0, b_f0, tg_1, rf_1_0, rf_1_1, rf_1_2, rf_1_3, rf_1_4, rf_1_5, rf_1_6, tg_2, rf_2_0, rf_2_1, rf_2_2, rf_2_3, tg_3, ln_3, tg_4, ln_4, tg_5, rf_5_0, tg_6, ln_6, tg_7, rf_7_0, tg_8, ln_8, tg_123, rf_123_0, rf_123_1, rf_123_2, rf_123_3, rf_123_4, tg_124, ln_124, tg_125, rf_125_0, tg_126, ln_126, tg_127, rf_127_0, tg_128, ln_128, tg_129, ln_129, tg_322, rf_322_0, rf_322_1, rf_322_2, rf_322_3, tg_323, ln_323, tg_324, ln_324, tg_325, rf_325_0, rf_325_1, rf_325_2, tg_326, rf_326_0, tg_327, ln_327, tg_328, rf_328_0, tg_329, ln_329, tg_330, rf_330_0, rf_330_1, rf_330_2, tg_331, rf_331_0, tg_332, ln_332, tg_333, rf_333_0, tg_334, ln_334, tg_335, ln_335, tg_336, rf_336_0, tg_337, ln_337, tg_339, ln_339, tg_346, rf_346_1, rf_346_2, rf_346_4, rf_346_5, rf_346_6, rf_346_7, rf_346_8, rf_346_11, rf_346_13, rf_346_14, rf_346_15, rf_346_17, rf_346_18, rf_346_19, rf_346_20, rf_346_21, rf_346_22, rf_346_26, rf_346_28, rf_346_29, rf_346_32, rf_346_34, rf_346_35, rf_346_36, tg_347, ln_347, tg_348, ln_348, tg_349, ln_349, tg_350, ln_350, tg_351, ln_351, tg_352, ln_352, tg_353, ln_353, tg_354, ln_354, tg_355, ln_355, tg_356, ln_356, tg_357, ln_357, tg_358, ln_358, tg_359, ln_359, tg_360, ln_360, tg_361, ln_361, tg_362, ln_362, tg_363, ln_363, tg_364, ln_364, tg_365, ln_365, tg_366, ln_366, tg_367, ln_367, tg_368, ln_368, tg_369, ln_369, tg_370, ln_370, sp_hasMode, ea, eb, b2_t, b2_f]
      · simp only [w119_0, w119_1, w119_2, w119_5, w119_8, w119_9, w119_10, w119_13, w119_16, w119_17, w119_18, w119_19, w119_22, w119_24, w119_27, w119_29, w119_30, w119_31, w119_34, w119_35, w119_38, w119_39, w119_40, w119_41, w119_44, w119_45, w119_48, w119_49, w119_50, w119_51, w119_54, w119_56, w119_57, w119_60, w119_61, w119_64, w119_65, w119_66, w119_67, w119_68, w119_71, w119_72, w119_75, w119_76, w119_77, w119_80, w119_81, w119_82, w119_83, w119_84, w119_85, w119_88, w119_91, w119_92, w119_92r, w119_93, w119_96, w119_97, w119_98, w119_101, w119_102, w119_105, w119_106, w119_107, eq_self, Nat.zero_le, n_lt, n_le, n_eq, n_neg, n_cl, n_mul, n_add, z_0, z_1, z_2, sc_0, sc_i, sc_r, sc_l, sc_n, jc_n, jc_i, jc_r, jc_l, Option.toList_some, Option.toList_none, List.cons_append, List.nil_append, Nat.reduceLT, Nat.reduceLeDiff, Nat.reduceMul, Nat.reduceAdd, Nat.reduceSub, Nat.reduceEqDiff, not_false_eq_true, not_true_eq_false, false_or, or_false, true_or, or_true, false_imp_iff, true_imp_iff, and_true, true_and, forall_const, false_implies, true_implies, b_t0, b_f0, tg_1, rf_1_0, rf_1_1, rf_1_2, rf_1_3, rf_1_4, rf_1_5, rf_1_6, tg_2, rf_2_0, rf_2_1, rf_2_2, rf_2_3, tg_3, ln_3, tg_4, ln_4, tg_5, rf_5_0, tg_6, ln_6, tg_7, rf_7_0, tg_8, ln_8, tg_123, rf_123_0, rf_123_1, rf_123_2, rf_123_3, rf_123_4, tg_124, ln_124, tg_125, rf_125_0, tg_126, ln_126, tg_127, rf_127_0, tg_128, ln_128, tg_129, ln_129, tg_322, rf_322_0, rf_322_1, rf_322_2, rf_322_3, tg_323, ln_323, tg_324, ln_324, tg_325, rf_325_0, rf_325_1, rf_325_2, tg_326, rf_326_0, tg_327, ln_327, tg_328, rf_328_0, tg_329, ln_329, tg_330, rf_330_0, rf_330_1, rf_330_2, tg_331, rf_331_0, tg_332, ln_332, tg_333, rf_333_0, tg_334, ln_334, tg_335, ln_335, tg_336, rf_336_0, tg_337, ln_337, tg_339, ln_339, tg_346, rf_346_1, rf_346_2, rf_346_4, rf_346_5, rf_346_6, rf_346_7, rf_346_8, rf_346_11, rf_346_13, rf_346_14, rf_346_15, rf_346_17, rf_346_18, rf_346_19, rf_346_20, rf_346_21, rf_346_22, rf_346_26, rf_346_28, rf_346_29, rf_346_32, rf_346_34, rf_346_35, rf_346_36, tg_347, ln_347, tg_348, ln_348, tg_349, ln_349, tg_350, ln_350, tg_351, ln_351, tg_352, ln_352, tg_353, ln_353, tg_354, ln_354, tg_355, ln_355, tg_356, ln_356, tg_357, ln_357, tg_358, ln_358, tg_359, ln_359, tg_360, ln_360, tg_361, ln_361, tg_362, ln_362, tg_363, ln_363, tg_364, ln_364, tg_365, ln_365, tg_366, ln_366, tg_367, ln_367, tg_368, ln_368, tg_369, ln_369, tg_370, ln_370, sp_isMode hh.2.1.1 mc6, hq, hq2, b2_t, b2_f]
    | true =>
      rw [hq2] at eb
      have s1 : jc < 2147483648 := by omega
      by_cases q : jc = 12
      · have q2 : ¬ jc < 12 := by omega
        have q3 : (jc = 12) = True := eq_true q
        refine ⟨-3, I, I, L, fun d Q => ?_, fun d Q => ?_, hR⟩
        · simp only [w20_0, w20_1, w20_4, w20_5, w20_8, w20_11, w20_12, w20_15, w20_16, w20_19, w20_22, w20_23, w20_24, w20_25, w20_28, w20_31, w20_33, w20_36, w20_38, w20_39, w20_40, w20_43, w20_46, w20_47, w20_50, w20_53, w20_54, w20_57, w20_60, w20_61, w20_62, w20_63, w20_64, w20_67, w20_68, w20_69, w20_72, w20_73, w20_76, w20_76r, w20_77, w20_80, w20_81, w20_82, w20_83, w20_86, eq_self, Nat.zero_le, n_lt, n_le, n_eq, n_neg, n_cl, n_mul, n_add, z_0, z_1, z_2, sc_0, sc_i, sc_r, sc_l, sc_n, jc_n, jc_i, jc_r, jc_l, Option.toList_some, Option.toList_none, List.cons_append, List.nil_append, Nat.reduceLT, Nat.reduceLeDiff, Nat.reduceMul, Nat.reduceAdd, Nat.reduceSub, Nat.reduceEqDiff, not_false_eq_true, not_true_eq_false, false_or, or_false, true_or, or_true, false_imp_iff, true_imp_iff, and_true, true_and, forall_const, false_implies, true_implies, b_t0, b_f0, tg_1, rf_1_0, rf_1_1, rf_1_2, rf_1_3, rf_1_4, rf_1_5, rf_1_6, tg_2, rf_2_0, rf_2_1, rf_2_2, rf_2_3, tg_3, ln_3, tg_4, ln_4, tg_5, rf_5_0, tg_6, ln_6, tg_7, rf_7_0, tg_8, ln_8, tg_123, rf_123_0, rf_123_1, rf_123_2, rf_123_3, rf_123_4, tg_124, ln_124, tg_125, rf_125_0, tg_126, ln_126, tg_127, rf_127_0, tg_128, ln_128, tg_129, ln_129, tg_322, rf_322_0, rf_322_1, rf_322_2, rf_322_3, tg_323, ln_323, tg_324, ln_324, tg_325, rf_325_0, rf_325_1, rf_325_2, tg_326, rf_326_0, tg_327, ln_327, tg_328, rf_328_0, tg_329, ln_329, tg_330, rf_330_0, rf_330_1, rf_330_2, tg_331, rf_331_0, tg_332, ln_332, tg_333, rf_333_0, tg_334, ln_334, tg_335, ln_335, tg_336, rf_336_0, tg_337, ln_337, tg_339, ln_339, tg_346, rf_346_1, rf_346_2, rf_346_4, rf_346_5, rf_346_6, rf_346_7, rf_346_8, rf_346_11, rf_346_13, rf_346_14, rf_346_15, rf_346_17, rf_346_18, rf_346_19, rf_346_20, rf_346_21, rf_346_22, rf_346_26, rf_346_28, rf_346_29, rf_346_32, rf_346_34, rf_346_35, rf_346_36, tg_347, ln_347, tg_348, ln_348, tg_349, ln_349, tg_350, ln_350, tg_351, ln_351, tg_352, ln_352, tg_353, ln_353, tg_354, ln_354, tg_355, ln_355, tg_356, ln_356, tg_357, ln_357, tg_358, ln_358, tg_359, ln_359, tg_360, ln_360, tg_361, ln_361, tg_362, ln_362, tg_363, ln_363, tg_364, ln_364, tg_365, ln_365, tg_366, ln_366, tg_367, ln_367, tg_368, ln_368, tg_369, ln_369, tg_370, ln_370, sp_hasMode, ea, eb, b2_t, x1, n_lt s1 (show 12 < 2147483648 by decide), q2]
        · simp only [w119_0, w119_1, w119_2, w119_5, w119_8, w119_9, w119_10, w119_13, w119_16, w119_17, w119_18, w119_19, w119_22, w119_24, w119_27, w119_29, w119_30, w119_31, w119_34, w119_35, w119_38, w119_39, w119_40, w119_41, w119_44, w119_45, w119_48, w119_49, w119_50, w119_51, w119_54, w119_56, w119_57, w119_60, w119_61, w119_64, w119_65, w119_66, w119_67, w119_68, w119_71, w119_72, w119_75, w119_76, w119_77, w119_80, w119_81, w119_82, w119_83, w119_84, w119_85, w119_88, w119_91, w119_92, w119_92r, w119_93, w119_96, w119_97, w119_98, w119_101, w119_102, w119_105, w119_106, w119_107, eq_self, Nat.zero_le, n_lt, n_le, n_eq, n_neg, n_cl, n_mul, n_add, z_0, z_1, z_2, sc_0, sc_i, sc_r, sc_l, sc_n, jc_n, jc_i, jc_r, jc_l, Option.toList_some, Option.toList_none, List.cons_append, List.nil_append, Nat.reduceLT, Nat.reduceLeDiff, Nat.reduceMul, Nat.reduceAdd, Nat.reduceSub, Nat.reduceEqDiff, not_false_eq_true, not_true_eq_false, false_or, or_false, true_or, or_true, false_imp_iff, true_imp_iff, and_true, true_and, forall_const, false_implies, true_implies, b_t0, b_f0, tg_1, rf_1_0, rf_1_1, rf_1_2, rf_1_3, rf_1_4, rf_1_5, rf_1_6, tg_2, rf_2_0, rf_2_1, rf_2_2, rf_2_3, tg_3, ln_3, tg_4, ln_4, tg_5, rf_5_0, tg_6, ln_6, tg_7, rf_7_0, tg_8, ln_8, tg_123, rf_123_0, rf_123_1, rf_123_2, rf_123_3, rf_123_4, tg_124, ln_124, tg_125, rf_125_0, tg_126, ln_126, tg_127, rf_127_0, tg_128, ln_128, tg_129, ln_129, tg_322, rf_322_0, rf_322_1, rf_322_2, rf_322_3, tg_323, ln_323, tg_324, ln_324, tg_325, rf_325_0, rf_325_1, rf_325_2, tg_326, rf_326_0, tg_327, ln_327, tg_328, rf_328_0, tg_329, ln_329, tg_330, rf_330_0, rf_330_1, rf_330_2, tg_331, rf_331_0, tg_332, ln_332, tg_333, rf_333_0, tg_334, ln_334, tg_335, ln_335, tg_336, rf_336_0, tg_337, ln_337, tg_339, ln_339, tg_346, rf_346_1, rf_346_2, rf_346_4, rf_346_5, rf_346_6, rf_346_7, rf_346_8, rf_346_11, rf_346_13, rf_346_14, rf_346_15, rf_346_17, rf_346_18, rf_346_19, rf_346_20, rf_346_21, rf_346_22, rf_346_26, rf_346_28, rf_346_29, rf_346_32, rf_346_34, rf_346_35, rf_346_36, tg_347, ln_347, tg_348, ln_348, tg_349, ln_349, tg_350, ln_350, tg_351, ln_351, tg_352, ln_352, tg_353, ln_353, tg_354, ln_354, tg_355, ln_355, tg_356, ln_356, tg_357, ln_357, tg_358, ln_358, tg_359, ln_359, tg_360, ln_360, tg_361, ln_361, tg_362, ln_362, tg_363, ln_363, tg_364, ln_364, tg_365, ln_365, tg_366, ln_366, tg_367, ln_367, tg_368, ln_368, tg_369, ln_369, tg_370, ln_370, sp_isMode hh.2.1.1 mc6, hq, hq2, b2_t, m1, n_eq s1 (show 12 < 2147483648 by decide), q3]
      · have hc : jc < 12 := by omega
        have u : ¬ 12 ≤ jc := by omega
        obtain ⟨ka, hka, rfl⟩ := inI_ex hq (by omega)
        obtain ⟨kb, hkb, rfl⟩ := inI_ex hq2 (by omega)
        obtain ⟨l1, l2, l3, l4, l5, l6, l7⟩ := lay_J jc hc
        have e0 : f_up I 123 9 (nI 0) 2 5 = nI jc := by rw [f_up_ne (by omega)]; exact x1
        have e1 : f_up (f_up (f_up I 123 9 (nI 0)) (51 + 6 * jc) 3 (nI ka)) (51 + 6 * jc) 4 (nI kb) 2 5 = nI jc := by rw [f_up_ne (by omega), f_up_ne (by omega)]; exact e0
        refine ⟨nI jc, juX I jc ka kb, juI I jc ka kb, L, fun d Q => ?_, fun d Q => ?_, mc, jc + 1, lim, sm, _, _, juI_RD hh hc hka hkb, Or.inl ?_⟩
        · simp only [w20_0, w20_1, w20_4, w20_5, w20_8, w20_11, w20_12, w20_15, w20_16, w20_19, w20_22, w20_23, w20_24, w20_25, w20_28, w20_31, w20_33, w20_36, w20_38, w20_39, w20_40, w20_43, w20_46, w20_47, w20_50, w20_53, w20_54, w20_57, w20_60, w20_61, w20_62, w20_63, w20_64, w20_67, w20_68, w20_69, w20_72, w20_73, w20_76, w20_76r, w20_77, w20_80, w20_81, w20_82, w20_83, w20_86, eq_self, Nat.zero_le, n_lt, n_le, n_eq, n_neg, n_cl, n_mul, n_add, z_0, z_1, z_2, sc_0, sc_i, sc_r, sc_l, sc_n, jc_n, jc_i, jc_r, jc_l, Option.toList_some, Option.toList_none, List.cons_append, List.nil_append, Nat.reduceLT, Nat.reduceLeDiff, Nat.reduceMul, Nat.reduceAdd, Nat.reduceSub, Nat.reduceEqDiff, not_false_eq_true, not_true_eq_false, false_or, or_false, true_or, or_true, false_imp_iff, true_imp_iff, and_true, true_and, forall_const, false_implies, true_implies, b_t0, b_f0, tg_1, rf_1_0, rf_1_1, rf_1_2, rf_1_3, rf_1_4, rf_1_5, rf_1_6, tg_2, rf_2_0, rf_2_1, rf_2_2, rf_2_3, tg_3, ln_3, tg_4, ln_4, tg_5, rf_5_0, tg_6, ln_6, tg_7, rf_7_0, tg_8, ln_8, tg_123, rf_123_0, rf_123_1, rf_123_2, rf_123_3, rf_123_4, tg_124, ln_124, tg_125, rf_125_0, tg_126, ln_126, tg_127, rf_127_0, tg_128, ln_128, tg_129, ln_129, tg_322, rf_322_0, rf_322_1, rf_322_2, rf_322_3, tg_323, ln_323, tg_324, ln_324, tg_325, rf_325_0, rf_325_1, rf_325_2, tg_326, rf_326_0, tg_327, ln_327, tg_328, rf_328_0, tg_329, ln_329, tg_330, rf_330_0, rf_330_1, rf_330_2, tg_331, rf_331_0, tg_332, ln_332, tg_333, rf_333_0, tg_334, ln_334, tg_335, ln_335, tg_336, rf_336_0, tg_337, ln_337, tg_339, ln_339, tg_346, rf_346_1, rf_346_2, rf_346_4, rf_346_5, rf_346_6, rf_346_7, rf_346_8, rf_346_11, rf_346_13, rf_346_14, rf_346_15, rf_346_17, rf_346_18, rf_346_19, rf_346_20, rf_346_21, rf_346_22, rf_346_26, rf_346_28, rf_346_29, rf_346_32, rf_346_34, rf_346_35, rf_346_36, tg_347, ln_347, tg_348, ln_348, tg_349, ln_349, tg_350, ln_350, tg_351, ln_351, tg_352, ln_352, tg_353, ln_353, tg_354, ln_354, tg_355, ln_355, tg_356, ln_356, tg_357, ln_357, tg_358, ln_358, tg_359, ln_359, tg_360, ln_360, tg_361, ln_361, tg_362, ln_362, tg_363, ln_363, tg_364, ln_364, tg_365, ln_365, tg_366, ln_366, tg_367, ln_367, tg_368, ln_368, tg_369, ln_369, tg_370, ln_370, sp_hasMode, ea, eb, b2_t, x1, n_lt s1 (show 12 < 2147483648 by decide), hc, sp_forget, e0, e1, n_cl s1, n_neg s1, u, l1, l2]
          rfl
        · have n1 : (346 : Nat) ≠ 2 := by omega
          have n2 : (346 : Nat) ≠ 51 + 6 * jc := by omega
          have n3 : (346 : Nat) ≠ 123 := by omega
          have n4 : (346 : Nat) ≠ 349 := by omega
          have n5 : (346 : Nat) ≠ 350 := by omega
          have n6 : (346 : Nat) ≠ 351 := by omega
          have n7 : (346 : Nat) ≠ 353 := by omega
          have j0 : juX I jc ka kb 346 = I 346 := by unfold juX; rw [f_up_ne n1, f_up_ne n2, f_up_ne n2, f_up_ne n3]
          have hmc : juX I jc ka kb 346 0 = nI mc := by rw [j0]; exact hh.2.1.1
          have t0 : 3 * jc < 2147483648 := by omega
          have t1 : 3 * jc + 1 < 2147483648 := by omega
          have t2 : 3 * jc + 2 < 2147483648 := by omega
          have u0 : ¬ 36 ≤ 3 * jc := by omega
          have u1 : ¬ 36 ≤ 3 * jc + 1 := by omega
          have u2 : ¬ 36 ≤ 3 * jc + 2 := by omega
          simp only [w119_0, w119_1, w119_2, w119_5, w119_8, w119_9, w119_10, w119_13, w119_16, w119_17, w119_18, w119_19, w119_22, w119_24, w119_27, w119_29, w119_30, w119_31, w119_34, w119_35, w119_38, w119_39, w119_40, w119_41, w119_44, w119_45, w119_48, w119_49, w119_50, w119_51, w119_54, w119_56, w119_57, w119_60, w119_61, w119_64, w119_65, w119_66, w119_67, w119_68, w119_71, w119_72, w119_75, w119_76, w119_77, w119_80, w119_81, w119_82, w119_83, w119_84, w119_85, w119_88, w119_91, w119_92, w119_92r, w119_93, w119_96, w119_97, w119_98, w119_101, w119_102, w119_105, w119_106, w119_107, eq_self, Nat.zero_le, n_lt, n_le, n_eq, n_neg, n_cl, n_mul, n_add, z_0, z_1, z_2, sc_0, sc_i, sc_r, sc_l, sc_n, jc_n, jc_i, jc_r, jc_l, Option.toList_some, Option.toList_none, List.cons_append, List.nil_append, Nat.reduceLT, Nat.reduceLeDiff, Nat.reduceMul, Nat.reduceAdd, Nat.reduceSub, Nat.reduceEqDiff, not_false_eq_true, not_true_eq_false, false_or, or_false, true_or, or_true, false_imp_iff, true_imp_iff, and_true, true_and, forall_const, false_implies, true_implies, b_t0, b_f0, tg_1, rf_1_0, rf_1_1, rf_1_2, rf_1_3, rf_1_4, rf_1_5, rf_1_6, tg_2, rf_2_0, rf_2_1, rf_2_2, rf_2_3, tg_3, ln_3, tg_4, ln_4, tg_5, rf_5_0, tg_6, ln_6, tg_7, rf_7_0, tg_8, ln_8, tg_123, rf_123_0, rf_123_1, rf_123_2, rf_123_3, rf_123_4, tg_124, ln_124, tg_125, rf_125_0, tg_126, ln_126, tg_127, rf_127_0, tg_128, ln_128, tg_129, ln_129, tg_322, rf_322_0, rf_322_1, rf_322_2, rf_322_3, tg_323, ln_323, tg_324, ln_324, tg_325, rf_325_0, rf_325_1, rf_325_2, tg_326, rf_326_0, tg_327, ln_327, tg_328, rf_328_0, tg_329, ln_329, tg_330, rf_330_0, rf_330_1, rf_330_2, tg_331, rf_331_0, tg_332, ln_332, tg_333, rf_333_0, tg_334, ln_334, tg_335, ln_335, tg_336, rf_336_0, tg_337, ln_337, tg_339, ln_339, tg_346, rf_346_1, rf_346_2, rf_346_4, rf_346_5, rf_346_6, rf_346_7, rf_346_8, rf_346_11, rf_346_13, rf_346_14, rf_346_15, rf_346_17, rf_346_18, rf_346_19, rf_346_20, rf_346_21, rf_346_22, rf_346_26, rf_346_28, rf_346_29, rf_346_32, rf_346_34, rf_346_35, rf_346_36, tg_347, ln_347, tg_348, ln_348, tg_349, ln_349, tg_350, ln_350, tg_351, ln_351, tg_352, ln_352, tg_353, ln_353, tg_354, ln_354, tg_355, ln_355, tg_356, ln_356, tg_357, ln_357, tg_358, ln_358, tg_359, ln_359, tg_360, ln_360, tg_361, ln_361, tg_362, ln_362, tg_363, ln_363, tg_364, ln_364, tg_365, ln_365, tg_366, ln_366, tg_367, ln_367, tg_368, ln_368, tg_369, ln_369, tg_370, ln_370, Nat.add_zero, sp_isMode hmc mc6, hq, hq2, b2_t, f_up_ne n4, f_up_ne n5, f_w6_ne n6, f_up_ne n7, j0, m1, n_eq s1 (show 12 < 2147483648 by decide), q, n_cl s1, n_neg s1, u, sp_fill (rw6_351 hc), n_neg t0, n_neg t1, n_neg t2, n_cl t0, n_cl t1, n_cl t2, u0, u1, u2, f_up_eq, n_sub1 (show jc ≤ 1000 by omega)]
          rfl
        · have z1 : ¬ 123 = 51 + 6 * jc := by omega
          simp [juI, juX, f_up_at, f_w6_at, z1]
end JUMP
