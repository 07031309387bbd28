/-! mode -/
theorem f_up_eq {I : fI} {o k : Nat} {v : Int32} : f_up I o k v o k = v := by simp [f_up]
section MODE
variable {xs : List Value} {I : fI} {L : fL}
def moI (I : fI) (c : Nat) : fI := f_up (f_w6 (f_w6 (f_up (f_up I 123 9 (nI 0)) 2 4 (nI (c + 1))) 347 (6 * c) d20) 348 (6 * c) (fun _ => nI 0)) 346 0 (nI (c + 1))
theorem n_sub1 {c : Nat} (h : c ≤ 1000) : nI (c + 1) - nI 1 = nI c := by
  have : ∀ c, c ≤ 1000 → nI (c + 1) - nI 1 = nI c := by decide +kernel
  exact this c h
theorem moI_RD {mc jc lim sm : Nat} {fj tj : Nat → Nat} (h : RD I mc jc lim sm fj tj) (hc : mc < 6) : RD (moI I mc) (mc + 1) jc lim sm fj tj := by
  obtain ⟨h1, h2, h3, h4, h5, h6, h7, h8⟩ := h
  have o : ∀ o, o ≠ 2 → o ≠ 123 → o ≠ 346 → o ≠ 347 → o ≠ 348 → moI I mc o = I o := by
    intro o a b c d e
    unfold moI
    rw [f_up_ne c, f_w6_ne e, f_w6_ne d, f_up_ne a, f_up_ne b]
  have o2 : ∀ k, k ≠ 4 → moI I mc 2 k = I 2 k := by
    intro k hk
    simp [moI, f_up_at, f_w6_at, hk]
  have oM : ∀ k, k ≠ 0 → moI I mc 346 k = I 346 k := by
    intro k hk
    simp [moI, f_up_at, f_w6_at, hk]
  have e24 : moI I mc 2 4 = nI (mc + 1) := by simp [moI, f_up_at, f_w6_at]
  have e0 : moI I mc 346 0 = nI (mc + 1) := by simp [moI, f_up_at]
  have e5 : moI I mc 123 5 = I 123 5 := by simp [moI, f_up_at, f_w6_at]
  refine ⟨⟨e24, by omega, by rw [o2 5 (by omega)]; exact h1.2.2.1, h1.2.2.2.1, fun j hj => ?_, by rw [e5]; exact h1.2.2.2.2.2.1, h1.2.2.2.2.2.2⟩, ⟨e0, by omega, by rw [oM 3 (by omega)]; exact h2.2.2.1, h2.2.2.2.1, fun j hj => ?_, by rw [oM 12 (by omega)]; exact h2.2.2.2.2.2.1, h2.2.2.2.2.2.2⟩, ?_, fun j hj => ⟨by have := h4 j hj; omega, by have := h4 j hj; omega⟩, fun m hm => ?_, fun j hj => ?_, ?_, fun k hk => ?_⟩
  · have jc12 := h1.2.2.2.1
    rw [o (51 + 6 * j) (by omega) (by omega) (by omega) (by omega) (by omega), o (56 + 6 * j) (by omega) (by omega) (by omega) (by omega) (by omega)]
    exact h1.2.2.2.2.1 j hj
  · rw [o 349 (by omega) (by omega) (by omega) (by omega) (by omega), o 350 (by omega) (by omega) (by omega) (by omega) (by omega)]
    exact h2.2.2.2.2.1 j hj
  · have h := h3
    unfold DS at h ⊢
    rw [o2 6 (by omega), o2 7 (by omega), oM 9 (by omega), oM 10 (by omega), o 6 (by omega) (by omega) (by omega) (by omega) (by omega), o 8 (by omega) (by omega) (by omega) (by omega) (by omega), o 354 (by omega) (by omega) (by omega) (by omega) (by omega), sl_fr (o 354 (by omega) (by omega) (by omega) (by omega) (by omega))]
    exact h
  · have h := h5 m hm
    obtain ⟨a1, a2, a3, a4, a5, a6⟩ := h
    have z1 := o (11 + 7 * m) (by omega) (by omega) (by omega) (by omega) (by omega)
    have z2 := o (9 + 7 * m) (by omega) (by omega) (by omega) (by omega) (by omega)
    have z3 := o (13 + 7 * m) (by omega) (by omega) (by omega) (by omega) (by omega)
    have z4 := o (15 + 7 * m) (by omega) (by omega) (by omega) (by omega) (by omega)
    refine ⟨by rw [z1]; exact a1, by rw [z2]; exact a2, by rw [z2, o 355 (by omega) (by omega) (by omega) (by omega) (by omega)]; exact a3, ?_, ?_, ?_⟩
    · rw [z2, z4, sl_fr (o 356 (by omega) (by omega) (by omega) (by omega) (by omega))]
      intro q
      exact ⟨by have := (a4 q).1; omega, (a4 q).2⟩
    · rw [z1, z3]
      intro q
      by_cases hm : m = mc
      · subst hm
        obtain ⟨b1, b2⟩ := a6 (Nat.le_refl _)
        refine ⟨fun k hk => ?_, fun k hk => ?_⟩
        · rw [b1 k hk]
          simp [sl, moI, f_up_at, f_w6_at, hk]
        · rw [b2 k hk]
          simp [sl, moI, f_up_at, f_w6_at, hk, nI]
      · obtain ⟨b1, b2⟩ := a5 (by omega)
        refine ⟨fun k hk => ?_, fun k hk => ?_⟩
        · rw [← b1 k hk]
          have : ¬ (6 * mc ≤ 6 * m + k ∧ 6 * m + k < 6 * mc + 6) := by omega
          simp [sl, moI, f_up_at, f_w6_at, this]
        · rw [← b2 k hk]
          have : ¬ (6 * mc ≤ 6 * m + k ∧ 6 * m + k < 6 * mc + 6) := by omega
          simp [sl, moI, f_up_at, f_w6_at, this]
    · rw [z1, z3]
      intro q
      exact a6 (by omega)
  · have h := h6 j hj
    unfold DJ at h ⊢
    rw [o (56 + 6 * j) (by omega) (by omega) (by omega) (by omega) (by omega), o (55 + 6 * j) (by omega) (by omega) (by omega) (by omega) (by omega), o (53 + 6 * j) (by omega) (by omega) (by omega) (by omega) (by omega), o 353 (by omega) (by omega) (by omega) (by omega) (by omega), sl_fr (o 352 (by omega) (by omega) (by omega) (by omega) (by omega)), sl_fr (o 351 (by omega) (by omega) (by omega) (by omega) (by omega))]
    exact h
  · obtain ⟨a1, a2, a3, ⟨p, p1, p2, p3⟩, a5, a6⟩ := h7
    unfold DH
    rw [o 330 (by omega) (by omega) (by omega) (by omega) (by omega), o 332 (by omega) (by omega) (by omega) (by omega) (by omega), o 367 (by omega) (by omega) (by omega) (by omega) (by omega), oM 30 (by omega), oM 31 (by omega), oM 33 (by omega)]
    exact ⟨a1, a2, a3, ⟨p, p1, p2, fun q => by have := p3 q; omega⟩, a5, a6⟩
  · have h := h8 k hk
    unfold DT at h ⊢
    rw [o (338 + 2 * k) (by omega) (by omega) (by omega) (by omega) (by omega), o (339 + 2 * k) (by omega) (by omega) (by omega) (by omega) (by omega), o 368 (by omega) (by omega) (by omega) (by omega) (by omega), o 369 (by omega) (by omega) (by omega) (by omega) (by omega), o 370 (by omega) (by omega) (by omega) (by omega) (by omega)]
    exact h
theorem same_mode (hR : Rel I) : Same xs I L 13 [some (.ref 1)] 111 [some (.ref 346), none] := by
  obtain ⟨mc, jc, lim, sm, fj, tj, hh, f⟩ := id hR
  have mc6 := hh.1.2.1
  have x1 := hh.1.1
  have m1 := hh.2.1.1
  have s1 : mc < 2147483648 := by omega
  by_cases q : mc = 6
  · have q2 : ¬ mc < 6 := by omega
    have q3 : (mc = 6) = True := eq_true q
    refine ⟨-3, I, I, L, fun d Q => ?_, fun d Q => ?_, hR⟩
    · simp only [w13_0, w13_1, w13_4, w13_7, w13_9, w13_12, w13_14, w13_15, w13_16, w13_19, w13_22, w13_23, w13_26, w13_26r, w13_27, w13_30, w13_31, w13_32, w13_33, w13_36, eq_self, Nat.zero_le, n_lt, n_le, n_eq, n_neg, n_cl, n_mul, n_add, z_0, z_1, z_2, sc_0, sc_i, sc_r, sc_l, sc_n, jc_n, jc_i, jc_r, jc_l, Option.toList_some, Option.toList_none, List.cons_append, List.nil_append, Nat.reduceLT, Nat.reduceLeDiff, Nat.reduceMul, Nat.reduceAdd, Nat.reduceSub, Nat.reduceEqDiff, not_false_eq_true, not_true_eq_false, false_or, or_false, true_or, or_true, false_imp_iff, true_imp_iff, and_true, true_and, forall_const, false_implies, true_implies, b_t0, b_f0, tg_1, rf_1_0, rf_1_1, rf_1_2, rf_1_3, rf_1_4, rf_1_5, rf_1_6, tg_2, rf_2_0, rf_2_1, rf_2_2, rf_2_3, tg_3, ln_3, tg_4, ln_4, tg_5, rf_5_0, tg_6, ln_6, tg_7, rf_7_0, tg_8, ln_8, tg_123, rf_123_0, rf_123_1, rf_123_2, rf_123_3, rf_123_4, tg_124, ln_124, tg_125, rf_125_0, tg_126, ln_126, tg_127, rf_127_0, tg_128, ln_128, tg_129, ln_129, tg_322, rf_322_0, rf_322_1, rf_322_2, rf_322_3, tg_323, ln_323, tg_324, ln_324, tg_325, rf_325_0, rf_325_1, rf_325_2, tg_326, rf_326_0, tg_327, ln_327, tg_328, rf_328_0, tg_329, ln_329, tg_330, rf_330_0, rf_330_1, rf_330_2, tg_331, rf_331_0, tg_332, ln_332, tg_333, rf_333_0, tg_334, ln_334, tg_335, ln_335, tg_336, rf_336_0, tg_337, ln_337, tg_339, ln_339, tg_346, rf_346_1, rf_346_2, rf_346_4, rf_346_5, rf_346_6, rf_346_7, rf_346_8, rf_346_11, rf_346_13, rf_346_14, rf_346_15, rf_346_17, rf_346_18, rf_346_19, rf_346_20, rf_346_21, rf_346_22, rf_346_26, rf_346_28, rf_346_29, rf_346_32, rf_346_34, rf_346_35, rf_346_36, tg_347, ln_347, tg_348, ln_348, tg_349, ln_349, tg_350, ln_350, tg_351, ln_351, tg_352, ln_352, tg_353, ln_353, tg_354, ln_354, tg_355, ln_355, tg_356, ln_356, tg_357, ln_357, tg_358, ln_358, tg_359, ln_359, tg_360, ln_360, tg_361, ln_361, tg_362, ln_362, tg_363, ln_363, tg_364, ln_364, tg_365, ln_365, tg_366, ln_366, tg_367, ln_367, tg_368, ln_368, tg_369, ln_369, tg_370, ln_370, x1, n_lt s1 (show 6 < 2147483648 by decide), q2]
    · simp only [w111_0, w111_1, w111_4, w111_6, w111_9, w111_11, w111_12, w111_13, w111_16, w111_18, w111_19, w111_22, w111_23, w111_26, w111_27, w111_28, w111_29, w111_31, w111_34, w111_35, w111_38, w111_40, w111_41, w111_44, w111_45, w111_46, w111_47, w111_48, w111_49, w111_52, w111_55, w111_56, w111_56r, w111_57, w111_60, w111_61, w111_62, w111_65, w111_66, w111_69, w111_70, w111_71, eq_self, Nat.zero_le, n_lt, n_le, n_eq, n_neg, n_cl, n_mul, n_add, z_0, z_1, z_2, sc_0, sc_i, sc_r, sc_l, sc_n, jc_n, jc_i, jc_r, jc_l, Option.toList_some, Option.toList_none, List.cons_append, List.nil_append, Nat.reduceLT, Nat.reduceLeDiff, Nat.reduceMul, Nat.reduceAdd, Nat.reduceSub, Nat.reduceEqDiff, not_false_eq_true, not_true_eq_false, false_or, or_false, true_or, or_true, false_imp_iff, true_imp_iff, and_true, true_and, forall_const, false_implies, true_implies, b_t0, b_f0, tg_1, rf_1_0, rf_1_1, rf_1_2, rf_1_3, rf_1_4, rf_1_5, rf_1_6, tg_2, rf_2_0, rf_2_1, rf_2_2, rf_2_3, tg_3, ln_3, tg_4, ln_4, tg_5, rf_5_0, tg_6, ln_6, tg_7, rf_7_0, tg_8, ln_8, tg_123, rf_123_0, rf_123_1, rf_123_2, rf_123_3, rf_123_4, tg_124, ln_124, tg_125, rf_125_0, tg_126, ln_126, tg_127, rf_127_0, tg_128, ln_128, tg_129, ln_129, tg_322, rf_322_0, rf_322_1, rf_322_2, rf_322_3, tg_323, ln_323, tg_324, ln_324, tg_325, rf_325_0, rf_325_1, rf_325_2, tg_326, rf_326_0, tg_327, ln_327, tg_328, rf_328_0, tg_329, ln_329, tg_330, rf_330_0, rf_330_1, rf_330_2, tg_331, rf_331_0, tg_332, ln_332, tg_333, rf_333_0, tg_334, ln_334, tg_335, ln_335, tg_336, rf_336_0, tg_337, ln_337, tg_339, ln_339, tg_346, rf_346_1, rf_346_2, rf_346_4, rf_346_5, rf_346_6, rf_346_7, rf_346_8, rf_346_11, rf_346_13, rf_346_14, rf_346_15, rf_346_17, rf_346_18, rf_346_19, rf_346_20, rf_346_21, rf_346_22, rf_346_26, rf_346_28, rf_346_29, rf_346_32, rf_346_34, rf_346_35, rf_346_36, tg_347, ln_347, tg_348, ln_348, tg_349, ln_349, tg_350, ln_350, tg_351, ln_351, tg_352, ln_352, tg_353, ln_353, tg_354, ln_354, tg_355, ln_355, tg_356, ln_356, tg_357, ln_357, tg_358, ln_358, tg_359, ln_359, tg_360, ln_360, tg_361, ln_361, tg_362, ln_362, tg_363, ln_363, tg_364, ln_364, tg_365, ln_365, tg_366, ln_366, tg_367, ln_367, tg_368, ln_368, tg_369, ln_369, tg_370, ln_370, m1, n_eq s1 (show 6 < 2147483648 by decide), q3]
  · have q2 : ¬ 6 ≤ mc := by omega
    have hc : mc < 6 := by omega
    have e24 : f_up I 123 9 (nI 0) 2 4 = nI mc := by rw [f_up_ne (by omega)]; exact x1
    have e0 : f_up (f_up I 123 9 (nI 0)) 2 4 (nI (mc + 1)) 346 0 = nI mc := by rw [f_up_ne (by omega), f_up_ne (by omega)]; exact m1
    refine ⟨nI mc, f_up (f_up I 123 9 (nI 0)) 2 4 (nI (mc + 1)), moI I mc, L, fun d Q => ?_, fun d Q => ?_, mc + 1, jc, lim, sm, fj, tj, moI_RD hh hc, Or.inl (by simp [moI, f_up_at, f_w6_at])⟩
    · simp only [w13_0, w13_1, w13_4, w13_7, w13_9, w13_12, w13_14, w13_15, w13_16, w13_19, w13_22, w13_23, w13_26, w13_26r, w13_27, w13_30, w13_31, w13_32, w13_33, w13_36, eq_self, Nat.zero_le, n_lt, n_le, n_eq, n_neg, n_cl, n_mul, n_add, z_0, z_1, z_2, sc_0, sc_i, sc_r, sc_l, sc_n, jc_n, jc_i, jc_r, jc_l, Option.toList_some, Option.toList_none, List.cons_append, List.nil_append, Nat.reduceLT, Nat.reduceLeDiff, Nat.reduceMul, Nat.reduceAdd, Nat.reduceSub, Nat.reduceEqDiff, not_false_eq_true, not_true_eq_false, false_or, or_false, true_or, or_true, false_imp_iff, true_imp_iff, and_true, true_and, forall_const, false_implies, true_implies, b_t0, b_f0, tg_1, rf_1_0, rf_1_1, rf_1_2, rf_1_3, rf_1_4, rf_1_5, rf_1_6, tg_2, rf_2_0, rf_2_1, rf_2_2, rf_2_3, tg_3, ln_3, tg_4, ln_4, tg_5, rf_5_0, tg_6, ln_6, tg_7, rf_7_0, tg_8, ln_8, tg_123, rf_123_0, rf_123_1, rf_123_2, rf_123_3, rf_123_4, tg_124, ln_124, tg_125, rf_125_0, tg_126, ln_126, tg_127, rf_127_0, tg_128, ln_128, tg_129, ln_129, tg_322, rf_322_0, rf_322_1, rf_322_2, rf_322_3, tg_323, ln_323, tg_324, ln_324, tg_325, rf_325_0, rf_325_1, rf_325_2, tg_326, rf_326_0, tg_327, ln_327, tg_328, rf_328_0, tg_329, ln_329, tg_330, rf_330_0, rf_330_1, rf_330_2, tg_331, rf_331_0, tg_332, ln_332, tg_333, rf_333_0, tg_334, ln_334, tg_335, ln_335, tg_336, rf_336_0, tg_337, ln_337, tg_339, ln_339, tg_346, rf_346_1, rf_346_2, rf_346_4, rf_346_5, rf_346_6, rf_346_7, rf_346_8, rf_346_11, rf_346_13, rf_346_14, rf_346_15, rf_346_17, rf_346_18, rf_346_19, rf_346_20, rf_346_21, rf_346_22, rf_346_26, rf_346_28, rf_346_29, rf_346_32, rf_346_34, rf_346_35, rf_346_36, tg_347, ln_347, tg_348, ln_348, tg_349, ln_349, tg_350, ln_350, tg_351, ln_351, tg_352, ln_352, tg_353, ln_353, tg_354, ln_354, tg_355, ln_355, tg_356, ln_356, tg_357, ln_357, tg_358, ln_358, tg_359, ln_359, tg_360, ln_360, tg_361, ln_361, tg_362, ln_362, tg_363, ln_363, tg_364, ln_364, tg_365, ln_365, tg_366, ln_366, tg_367, ln_367, tg_368, ln_368, tg_369, ln_369, tg_370, ln_370, x1, n_lt s1 (show 6 < 2147483648 by decide), hc, sp_forget, e24]
    · have s0 : 6 * mc < 2147483648 := by omega
      have t1 : 6 * mc + 1 < 2147483648 := by omega
      have t2 : 6 * mc + 2 < 2147483648 := by omega
      have t3 : 6 * mc + 3 < 2147483648 := by omega
      have t4 : 6 * mc + 4 < 2147483648 := by omega
      have t5 : 6 * mc + 5 < 2147483648 := by omega
      have u0 : ¬ 36 ≤ 6 * mc := by omega
      have u1 : ¬ 36 ≤ 6 * mc + 1 := by omega
      have u2 : ¬ 36 ≤ 6 * mc + 2 := by omega
      have u3 : ¬ 36 ≤ 6 * mc + 3 := by omega
      have u4 : ¬ 36 ≤ 6 * mc + 4 := by omega
      have u5 : ¬ 36 ≤ 6 * mc + 5 := by omega
      have n1 : (346 : Nat) ≠ 347 := by omega
      have n2 : (346 : Nat) ≠ 348 := by omega
      have e6 : ∀ J : fI, J 346 0 = nI mc → f_up J 346 0 (nI (mc + 1)) 346 0 = nI (mc + 1) := fun J _ => by simp [f_up_at]
      simp only [w111_0, w111_1, w111_4, w111_6, w111_9, w111_11, w111_12, w111_13, w111_16, w111_18, w111_19, w111_22, w111_23, w111_26, w111_27, w111_28, w111_29, w111_31, w111_34, w111_35, w111_38, w111_40, w111_41, w111_44, w111_45, w111_46, w111_47, w111_48, w111_49, w111_52, w111_55, w111_56, w111_56r, w111_57, w111_60, w111_61, w111_62, w111_65, w111_66, w111_69, w111_70, w111_71, eq_self, Nat.zero_le, n_lt, n_le, n_eq, n_neg, n_cl, n_mul, n_add, z_0, z_1, z_2, sc_0, sc_i, sc_r, sc_l, sc_n, jc_n, jc_i, jc_r, jc_l, Option.toList_some, Option.toList_none, List.cons_append, List.nil_append, Nat.reduceLT, Nat.reduceLeDiff, Nat.reduceMul, Nat.reduceAdd, Nat.reduceSub, Nat.reduceEqDiff, not_false_eq_true, not_true_eq_false, false_or, or_false, true_or, or_true, false_imp_iff, true_imp_iff, and_true, true_and, forall_const, false_implies, true_implies, b_t0, b_f0, tg_1, rf_1_0, rf_1_1, rf_1_2, rf_1_3, rf_1_4, rf_1_5, rf_1_6, tg_2, rf_2_0, rf_2_1, rf_2_2, rf_2_3, tg_3, ln_3, tg_4, ln_4, tg_5, rf_5_0, tg_6, ln_6, tg_7, rf_7_0, tg_8, ln_8, tg_123, rf_123_0, rf_123_1, rf_123_2, rf_123_3, rf_123_4, tg_124, ln_124, tg_125, rf_125_0, tg_126, ln_126, tg_127, rf_127_0, tg_128, ln_128, tg_129, ln_129, tg_322, rf_322_0, rf_322_1, rf_322_2, rf_322_3, tg_323, ln_323, tg_324, ln_324, tg_325, rf_325_0, rf_325_1, rf_325_2, tg_326, rf_326_0, tg_327, ln_327, tg_328, rf_328_0, tg_329, ln_329, tg_330, rf_330_0, rf_330_1, rf_330_2, tg_331, rf_331_0, tg_332, ln_332, tg_333, rf_333_0, tg_334, ln_334, tg_335, ln_335, tg_336, rf_336_0, tg_337, ln_337, tg_339, ln_339, tg_346, rf_346_1, rf_346_2, rf_346_4, rf_346_5, rf_346_6, rf_346_7, rf_346_8, rf_346_11, rf_346_13, rf_346_14, rf_346_15, rf_346_17, rf_346_18, rf_346_19, rf_346_20, rf_346_21, rf_346_22, rf_346_26, rf_346_28, rf_346_29, rf_346_32, rf_346_34, rf_346_35, rf_346_36, tg_347, ln_347, tg_348, ln_348, tg_349, ln_349, tg_350, ln_350, tg_351, ln_351, tg_352, ln_352, tg_353, ln_353, tg_354, ln_354, tg_355, ln_355, tg_356, ln_356, tg_357, ln_357, tg_358, ln_358, tg_359, ln_359, tg_360, ln_360, tg_361, ln_361, tg_362, ln_362, tg_363, ln_363, tg_364, ln_364, tg_365, ln_365, tg_366, ln_366, tg_367, ln_367, tg_368, ln_368, tg_369, ln_369, tg_370, ln_370, Nat.add_zero, e0, n_eq s1 (show 6 < 2147483648 by decide), q, sp_fill (rw6_347 hc), f_w6_ne n1, f_up_ne n2, n_neg s0, n_neg t1, n_neg t2, n_neg t3, n_neg t4, n_neg t5, n_cl s0, n_cl t1, n_cl t2, n_cl t3, n_cl t4, n_cl t5, u0, u1, u2, u3, u4, u5]
      rw [f_six6 (g := fun _ => nI 0) rfl rfl rfl rfl rfl rfl]
      simp only [w111_0, w111_1, w111_4, w111_6, w111_9, w111_11, w111_12, w111_13, w111_16, w111_18, w111_19, w111_22, w111_23, w111_26, w111_27, w111_28, w111_29, w111_31, w111_34, w111_35, w111_38, w111_40, w111_41, w111_44, w111_45, w111_46, w111_47, w111_48, w111_49, w111_52, w111_55, w111_56, w111_56r, w111_57, w111_60, w111_61, w111_62, w111_65, w111_66, w111_69, w111_70, w111_71, eq_self, Nat.zero_le, n_lt, n_le, n_eq, n_neg, n_cl, n_mul, n_add, z_0, z_1, z_2, sc_0, sc_i, sc_r, sc_l, sc_n, jc_n, jc_i, jc_r, jc_l, Option.toList_some, Option.toList_none, List.cons_append, List.nil_append, Nat.reduceLT, Nat.reduceLeDiff, Nat.reduceMul, Nat.reduceAdd, Nat.reduceSub, Nat.reduceEqDiff, not_false_eq_true, not_true_eq_false, false_or, or_false, true_or, or_true, false_imp_iff, true_imp_iff, and_true, true_and, forall_const, false_implies, true_implies, b_t0, b_f0, tg_1, rf_1_0, rf_1_1, rf_1_2, rf_1_3, rf_1_4, rf_1_5, rf_1_6, tg_2, rf_2_0, rf_2_1, rf_2_2, rf_2_3, tg_3, ln_3, tg_4, ln_4, tg_5, rf_5_0, tg_6, ln_6, tg_7, rf_7_0, tg_8, ln_8, tg_123, rf_123_0, rf_123_1, rf_123_2, rf_123_3, rf_123_4, tg_124, ln_124, tg_125, rf_125_0, tg_126, ln_126, tg_127, rf_127_0, tg_128, ln_128, tg_129, ln_129, tg_322, rf_322_0, rf_322_1, rf_322_2, rf_322_3, tg_323, ln_323, tg_324, ln_324, tg_325, rf_325_0, rf_325_1, rf_325_2, tg_326, rf_326_0, tg_327, ln_327, tg_328, rf_328_0, tg_329, ln_329, tg_330, rf_330_0, rf_330_1, rf_330_2, tg_331, rf_331_0, tg_332, ln_332, tg_333, rf_333_0, tg_334, ln_334, tg_335, ln_335, tg_336, rf_336_0, tg_337, ln_337, tg_339, ln_339, tg_346, rf_346_1, rf_346_2, rf_346_4, rf_346_5, rf_346_6, rf_346_7, rf_346_8, rf_346_11, rf_346_13, rf_346_14, rf_346_15, rf_346_17, rf_346_18, rf_346_19, rf_346_20, rf_346_21, rf_346_22, rf_346_26, rf_346_28, rf_346_29, rf_346_32, rf_346_34, rf_346_35, rf_346_36, tg_347, ln_347, tg_348, ln_348, tg_349, ln_349, tg_350, ln_350, tg_351, ln_351, tg_352, ln_352, tg_353, ln_353, tg_354, ln_354, tg_355, ln_355, tg_356, ln_356, tg_357, ln_357, tg_358, ln_358, tg_359, ln_359, tg_360, ln_360, tg_361, ln_361, tg_362, ln_362, tg_363, ln_363, tg_364, ln_364, tg_365, ln_365, tg_366, ln_366, tg_367, ln_367, tg_368, ln_368, tg_369, ln_369, tg_370, ln_370, f_up_eq, n_sub1 (show mc ≤ 1000 by omega)]
      rfl
end MODE
