/-! THE REFERENCE: a heap worked, all heaps laid -/
def MD (I : fI) (mc jc : Nat) (fj tj : Nat → Nat) (lim : Nat) : Prop := I 346 0 = nI mc ∧ mc ≤ 6 ∧ I 346 3 = nI jc ∧ jc ≤ 12 ∧ (∀ j, j < jc → I 349 j = nI (fj j) ∧ I 350 j = nI (tj j) ∧ fj j < 6 ∧ tj j < 6) ∧ I 346 12 = nI lim ∧ 1 ≤ lim ∧ lim ≤ 12
def MW (I I' : fI) : Prop := (∀ o, o ≠ 346 → (o < 357 ∨ 364 < o) → I' o = I o) ∧ ∀ k, k ≠ 16 → k ≠ 23 → k ≠ 24 → k ≠ 25 → I' 346 k = I 346 k
theorem MW.rf {I : fI} : MW I I := ⟨fun _ _ _ => rfl, fun _ _ _ _ _ => rfl⟩
theorem MW.tr {I I' I'' : fI} (h1 : MW I I') (h2 : MW I' I'') : MW I I'' := ⟨fun o h ho => (h2.1 o h ho).trans (h1.1 o h ho), fun k a b c d => (h2.2 k a b c d).trans (h1.2 k a b c d)⟩
theorem MX.MW {I I' : fI} (h : MX I I') : MW I I' := ⟨fun o h1 h2 => h.1 o h1 (by omega), h.2⟩
theorem MD.w {I I' : fI} {mc jc lim : Nat} {fj tj : Nat → Nat} (h : MD I mc jc fj tj lim) (w : MW I I') : MD I' mc jc fj tj lim := by
  obtain ⟨h1, h2, h3, h4, h5, h6, h7⟩ := h
  refine ⟨by rw [w.2 0 (by omega) (by omega) (by omega) (by omega)]; exact h1, h2, by rw [w.2 3 (by omega) (by omega) (by omega) (by omega)]; exact h3, h4, fun j hj => ?_, by rw [w.2 12 (by omega) (by omega) (by omega) (by omega)]; exact h6, h7⟩
  rw [w.1 349 (by omega) (by omega), w.1 350 (by omega) (by omega)]
  exact h5 j hj
theorem mFl_w {I I' : fI} (w : MW I I') {m : Nat} {f : Nat → Int32} : mFl I' m f = mFl I m f := by
  unfold mFl sl
  rw [w.1 347 (by omega) (by omega), w.1 348 (by omega) (by omega)]
theorem mS1_w {I I' : fI} (w : MW I I') {j : Nat} {f : Nat → Int32} : mS1 I' j f = mS1 I j f := by
  unfold mS1 sl
  rw [w.1 351 (by omega) (by omega)]
theorem mS3_w {I I' : fI} (w : MW I I') {j t : Nat} {f : Nat → Int32} : mS3 I' j t f = mS3 I j t f := by
  unfold mS3 mSet sl
  rw [mS1_w w, w.1 347 (by omega) (by omega), w.1 352 (by omega) (by omega), w.1 353 (by omega) (by omega)]
theorem MW_made {I : fI} {g : Nat → Int32} : MW I (f_wb I 356 g) := ⟨fun o h1 h2 => f_wb_ne (by omega), fun k _ _ _ _ => by rw [f_wb_ne (by omega)]⟩
theorem RM_made {I : fI} {g : Nat → Int32} {s : gS} {hx : Nat} (R : RM I s hx) : RM (f_wb I 356 g) s hx := by
  obtain ⟨r1, r2, r3, r4, r5, r6, r7⟩ := R
  refine ⟨r1, by simpa [f_wb_at] using r2, r3, by simpa [f_wb_at] using r4, by simpa [f_wb_at] using r5, fun i hi => ?_, fun i hi hio => by simpa [f_wb_at] using r7 i hi hio⟩
  have h := r6 i hi
  unfold MH at h ⊢
  simpa [f_wb_at] using h
theorem sl_0 {I : fI} {a : Nat} : sl I a 0 = I a := by
  funext k
  unfold sl
  rw [Nat.zero_add]
theorem tk_mono (lim : Nat) (s : gS) (m : Nat) (b : Nat → Int32) (o h : Int32) : s.1 ≤ (tk lim s m b o h).1 := by
  unfold tk
  split
  · exact Nat.le_refl _
  · split
    · split
      · exact Nat.le_refl _
      · split
        · exact Nat.le_refl _
        · exact Nat.le_succ _
    · split
      · exact Nat.le_refl _
      · exact Nat.le_succ _
section MWS
variable {xs : List Value} {L : fL} {mc jc lim : Nat} {fj tj : Nat → Nat} {I0 : fI}
theorem x_mwloop (hM : MD I0 mc jc fj tj lim) {h m : Nat} (hm : m < 6) {fb : Nat → Int32} : ∀ (k j : Nat) (s : gS) (I : fI), j + k = jc → RM I s h → h < s.1 → I 346 25 = b2 (!(s.2.1 h).2.2.2.2.1) → MW I0 I → I 364 = fb → ∃ (I' : fI) (j' : Int32), RM I' (wj lim m h fj tj (fun j => mS1 I0 j fb) (fun j => mS3 I0 j (tj j) fb) k j s) h ∧ I' 346 25 = b2 (!((wj lim m h fj tj (fun j => mS1 I0 j fb) (fun j => mS3 I0 j (tj j) fb) k j s).2.1 h).2.2.2.2.1) ∧ MW I0 I' ∧ ∀ (d : Nat) (Q : Option Value × jW → Prop), Wp (d + 3) 135 76 [some (.ref 346), some (.int (nI h)), some (.int (nI m)), some (.int (nI j))] [] (f_W xs I L) Q = Wp (d + 3) 135 138 [some (.ref 346), some (.int (nI h)), some (.int (nI m)), some (.int j')] [] (f_W xs I' L) Q := by
  intro k
  induction k with
  | zero =>
    intro j s I hj R hh hag W hf
    obtain ⟨h1, h2, h3, h4, h5, h6, h7, h8⟩ := hM.w W
    have s1 : jc < 2147483648 := by omega
    have hj : j = jc := by omega
    subst hj
    refine ⟨I, nI j, R, hag, W, fun d Q => ?_⟩
    rw [w135_76]
    simp only [w135_77, w135_78, w135_81, eq_self, Nat.zero_le, n_lt, n_le, n_eq, n_neg, n_cl, n_mul, n_add, z_0, z_1, z_2, sc_0, sc_i, sc_r, sc_l, sc_n, jc_n, jc_i, jc_r, jc_l, Option.toList_some, Option.toList_none, List.cons_append, List.nil_append, Nat.reduceLT, Nat.reduceLeDiff, Nat.reduceMul, Nat.reduceAdd, Nat.reduceSub, Nat.reduceEqDiff, not_false_eq_true, not_true_eq_false, false_or, or_false, true_or, or_true, false_imp_iff, true_imp_iff, and_true, true_and, forall_const, false_implies, true_implies, b_t0, b_f0, tg_1, rf_1_0, rf_1_1, rf_1_2, rf_1_3, rf_1_4, rf_1_5, rf_1_6, tg_2, rf_2_0, rf_2_1, rf_2_2, rf_2_3, tg_3, ln_3, tg_4, ln_4, tg_5, rf_5_0, tg_6, ln_6, tg_7, rf_7_0, tg_8, ln_8, tg_123, rf_123_0, rf_123_1, rf_123_2, rf_123_3, rf_123_4, tg_124, ln_124, tg_125, rf_125_0, tg_126, ln_126, tg_127, rf_127_0, tg_128, ln_128, tg_129, ln_129, tg_322, rf_322_0, rf_322_1, rf_322_2, rf_322_3, tg_323, ln_323, tg_324, ln_324, tg_325, rf_325_0, rf_325_1, rf_325_2, tg_326, rf_326_0, tg_327, ln_327, tg_328, rf_328_0, tg_329, ln_329, tg_330, rf_330_0, rf_330_1, rf_330_2, tg_331, rf_331_0, tg_332, ln_332, tg_333, rf_333_0, tg_334, ln_334, tg_335, ln_335, tg_336, rf_336_0, tg_337, ln_337, tg_339, ln_339, tg_346, rf_346_1, rf_346_2, rf_346_4, rf_346_5, rf_346_6, rf_346_7, rf_346_8, rf_346_11, rf_346_13, rf_346_14, rf_346_15, rf_346_17, rf_346_18, rf_346_19, rf_346_20, rf_346_21, rf_346_22, rf_346_26, rf_346_28, rf_346_29, rf_346_32, rf_346_34, rf_346_35, rf_346_36, tg_347, ln_347, tg_348, ln_348, tg_349, ln_349, tg_350, ln_350, tg_351, ln_351, tg_352, ln_352, tg_353, ln_353, tg_354, ln_354, tg_355, ln_355, tg_356, ln_356, tg_357, ln_357, tg_358, ln_358, tg_359, ln_359, tg_360, ln_360, tg_361, ln_361, tg_362, ln_362, tg_363, ln_363, tg_364, ln_364, tg_365, ln_365, tg_366, ln_366, tg_367, ln_367, tg_368, ln_368, tg_369, ln_369, tg_370, ln_370, h3, n_le s1 s1, Nat.le_refl]
  | succ k ih =>
    intro j s I hj R hh hag W hf
    obtain ⟨h1, h2, h3, h4, h5, h6, h7, h8⟩ := hM.w W
    have hjj : j < jc := by omega
    have hj12 : j < 12 := by omega
    obtain ⟨g1, g2, g3, g4⟩ := h5 j hjj
    have s1 : jc < 2147483648 := by omega
    have s2 : j < 2147483648 := by omega
    have s3 : ¬ jc ≤ j := by omega
    have s4 : ¬ 12 ≤ j := by omega
    have s5 : fj j < 2147483648 := by omega
    have s6 : m < 2147483648 := by omega
    have r5 := R.2.2.2.2.1
    cases hsp : s.2.2.2 with
    | true =>
      rw [hsp] at r5
      rw [wj_spent hsp]
      refine ⟨I, nI j, R, hag, W, fun d Q => ?_⟩
      rw [w135_76]
      simp only [w135_77, w135_78, w135_81, w135_84, w135_85, w135_88, eq_self, Nat.zero_le, n_lt, n_le, n_eq, n_neg, n_cl, n_mul, n_add, z_0, z_1, z_2, sc_0, sc_i, sc_r, sc_l, sc_n, jc_n, jc_i, jc_r, jc_l, Option.toList_some, Option.toList_none, List.cons_append, List.nil_append, Nat.reduceLT, Nat.reduceLeDiff, Nat.reduceMul, Nat.reduceAdd, Nat.reduceSub, Nat.reduceEqDiff, not_false_eq_true, not_true_eq_false, false_or, or_false, true_or, or_true, false_imp_iff, true_imp_iff, and_true, true_and, forall_const, false_implies, true_implies, b_t0, b_f0, tg_1, rf_1_0, rf_1_1, rf_1_2, rf_1_3, rf_1_4, rf_1_5, rf_1_6, tg_2, rf_2_0, rf_2_1, rf_2_2, rf_2_3, tg_3, ln_3, tg_4, ln_4, tg_5, rf_5_0, tg_6, ln_6, tg_7, rf_7_0, tg_8, ln_8, tg_123, rf_123_0, rf_123_1, rf_123_2, rf_123_3, rf_123_4, tg_124, ln_124, tg_125, rf_125_0, tg_126, ln_126, tg_127, rf_127_0, tg_128, ln_128, tg_129, ln_129, tg_322, rf_322_0, rf_322_1, rf_322_2, rf_322_3, tg_323, ln_323, tg_324, ln_324, tg_325, rf_325_0, rf_325_1, rf_325_2, tg_326, rf_326_0, tg_327, ln_327, tg_328, rf_328_0, tg_329, ln_329, tg_330, rf_330_0, rf_330_1, rf_330_2, tg_331, rf_331_0, tg_332, ln_332, tg_333, rf_333_0, tg_334, ln_334, tg_335, ln_335, tg_336, rf_336_0, tg_337, ln_337, tg_339, ln_339, tg_346, rf_346_1, rf_346_2, rf_346_4, rf_346_5, rf_346_6, rf_346_7, rf_346_8, rf_346_11, rf_346_13, rf_346_14, rf_346_15, rf_346_17, rf_346_18, rf_346_19, rf_346_20, rf_346_21, rf_346_22, rf_346_26, rf_346_28, rf_346_29, rf_346_32, rf_346_34, rf_346_35, rf_346_36, tg_347, ln_347, tg_348, ln_348, tg_349, ln_349, tg_350, ln_350, tg_351, ln_351, tg_352, ln_352, tg_353, ln_353, tg_354, ln_354, tg_355, ln_355, tg_356, ln_356, tg_357, ln_357, tg_358, ln_358, tg_359, ln_359, tg_360, ln_360, tg_361, ln_361, tg_362, ln_362, tg_363, ln_363, tg_364, ln_364, tg_365, ln_365, tg_366, ln_366, tg_367, ln_367, tg_368, ln_368, tg_369, ln_369, tg_370, ln_370, h3, n_le s1 s2, s3, r5, Bool.true_eq_false]
    | false =>
      rw [hsp] at r5
      have hns : ¬ s.2.2.2 = true := by rw [hsp]; decide
      by_cases q : fj j = m
      · have n1 : (364 : Nat) ≠ 357 := by omega
        have n2 : (350 : Nat) ≠ 356 + 1 := by omega
        have eg : ∀ g : Nat → Int32, f_wb I 356 g 357 = g := fun g => f_wb_eq (b := 356)
        have g2' : ∀ g : Nat → Int32, f_wb I 356 g 350 j = nI (tj j) := fun g => by rw [f_wb_ne n2]; exact g2
        have e1 : ∀ g : Nat → Int32, mS1 (f_wb I 356 g) j fb = mS1 I0 j fb := fun g => mS1_w (W.tr MW_made)
        have e3 : ∀ g : Nat → Int32, mS3 (f_wb I 356 g) j (tj j) fb = mS3 I0 j (tj j) fb := fun g => mS3_w (W.tr MW_made)
        have eT := fun (d : Nat) (Q : Option Value × jW → Prop) => sp_mtake (d := d) (xs := xs) (I := I) (L := L) (Q := Q) rw6_364 n1
        rw [sl_0, hf] at eT
        have eJ := fun (d : Nat) (Q : Option Value × jW → Prop) => sp_jumped (d := d) (xs := xs) (I := f_wb I 356 fb) (L := L) (Q := Q) hj12 (g2' fb) g4
        simp only [eg, e1, e3, f_wb_wb] at eJ
        cases hE1 : bEmp (mS1 I0 j fb) with
        | true =>
          obtain ⟨I', j', R', A', W', E'⟩ := ih (j + 1) s (f_wb I 356 (mS1 I0 j fb)) (by omega) (RM_made R) hh (by rw [f_wb_ne (by omega)]; exact hag) (W.tr MW_made) (by rw [f_wb_ne (by omega)]; exact hf)
          have hj0 : jst lim m h fj tj (fun j => mS1 I0 j fb) (fun j => mS3 I0 j (tj j) fb) j s = s := by
            unfold jst
            rw [if_neg hns, if_neg (by simp only [hE1]; simp)]
          refine ⟨I', j', ?_, ?_, W', fun d Q => ?_⟩
          · unfold wj; rw [hj0]; exact R'
          · unfold wj; rw [hj0]; exact A'
          · rw [w135_76, ← E' d Q]
            simp only [w135_77, w135_78, w135_81, w135_84, w135_85, w135_88, w135_91, w135_92, w135_95, w135_96, w135_97, w135_98, w135_101, w135_102, w135_103, w135_106, w135_107, w135_110, w135_111, w135_112, w135_115, w135_132, w135_135, eq_self, Nat.zero_le, n_lt, n_le, n_eq, n_neg, n_cl, n_mul, n_add, z_0, z_1, z_2, sc_0, sc_i, sc_r, sc_l, sc_n, jc_n, jc_i, jc_r, jc_l, Option.toList_some, Option.toList_none, List.cons_append, List.nil_append, Nat.reduceLT, Nat.reduceLeDiff, Nat.reduceMul, Nat.reduceAdd, Nat.reduceSub, Nat.reduceEqDiff, not_false_eq_true, not_true_eq_false, false_or, or_false, true_or, or_true, false_imp_iff, true_imp_iff, and_true, true_and, forall_const, false_implies, true_implies, b_t0, b_f0, tg_1, rf_1_0, rf_1_1, rf_1_2, rf_1_3, rf_1_4, rf_1_5, rf_1_6, tg_2, rf_2_0, rf_2_1, rf_2_2, rf_2_3, tg_3, ln_3, tg_4, ln_4, tg_5, rf_5_0, tg_6, ln_6, tg_7, rf_7_0, tg_8, ln_8, tg_123, rf_123_0, rf_123_1, rf_123_2, rf_123_3, rf_123_4, tg_124, ln_124, tg_125, rf_125_0, tg_126, ln_126, tg_127, rf_127_0, tg_128, ln_128, tg_129, ln_129, tg_322, rf_322_0, rf_322_1, rf_322_2, rf_322_3, tg_323, ln_323, tg_324, ln_324, tg_325, rf_325_0, rf_325_1, rf_325_2, tg_326, rf_326_0, tg_327, ln_327, tg_328, rf_328_0, tg_329, ln_329, tg_330, rf_330_0, rf_330_1, rf_330_2, tg_331, rf_331_0, tg_332, ln_332, tg_333, rf_333_0, tg_334, ln_334, tg_335, ln_335, tg_336, rf_336_0, tg_337, ln_337, tg_339, ln_339, tg_346, rf_346_1, rf_346_2, rf_346_4, rf_346_5, rf_346_6, rf_346_7, rf_346_8, rf_346_11, rf_346_13, rf_346_14, rf_346_15, rf_346_17, rf_346_18, rf_346_19, rf_346_20, rf_346_21, rf_346_22, rf_346_26, rf_346_28, rf_346_29, rf_346_32, rf_346_34, rf_346_35, rf_346_36, tg_347, ln_347, tg_348, ln_348, tg_349, ln_349, tg_350, ln_350, tg_351, ln_351, tg_352, ln_352, tg_353, ln_353, tg_354, ln_354, tg_355, ln_355, tg_356, ln_356, tg_357, ln_357, tg_358, ln_358, tg_359, ln_359, tg_360, ln_360, tg_361, ln_361, tg_362, ln_362, tg_363, ln_363, tg_364, ln_364, tg_365, ln_365, tg_366, ln_366, tg_367, ln_367, tg_368, ln_368, tg_369, ln_369, tg_370, ln_370, h3, n_le s1 s2, s3, r5, b2_f, n_cl s2, n_neg s2, s4, g1, n_eq s5 s6, q, eT, eJ, hE1, if_true]
        | false =>
          cases hE3 : bEmp (mS3 I0 j (tj j) fb) with
          | true =>
            obtain ⟨I', j', R', A', W', E'⟩ := ih (j + 1) s (f_wb I 356 (mS3 I0 j (tj j) fb)) (by omega) (RM_made R) hh (by rw [f_wb_ne (by omega)]; exact hag) (W.tr MW_made) (by rw [f_wb_ne (by omega)]; exact hf)
            have hj0 : jst lim m h fj tj (fun j => mS1 I0 j fb) (fun j => mS3 I0 j (tj j) fb) j s = s := by
              unfold jst
              rw [if_neg hns, if_neg (by simp only [hE3]; simp)]
            refine ⟨I', j', ?_, ?_, W', fun d Q => ?_⟩
            · unfold wj; rw [hj0]; exact R'
            · unfold wj; rw [hj0]; exact A'
            · rw [w135_76, ← E' d Q]
              simp only [w135_77, w135_78, w135_81, w135_84, w135_85, w135_88, w135_91, w135_92, w135_95, w135_96, w135_97, w135_98, w135_101, w135_102, w135_103, w135_106, w135_107, w135_110, w135_111, w135_112, w135_115, w135_132, w135_135, eq_self, Nat.zero_le, n_lt, n_le, n_eq, n_neg, n_cl, n_mul, n_add, z_0, z_1, z_2, sc_0, sc_i, sc_r, sc_l, sc_n, jc_n, jc_i, jc_r, jc_l, Option.toList_some, Option.toList_none, List.cons_append, List.nil_append, Nat.reduceLT, Nat.reduceLeDiff, Nat.reduceMul, Nat.reduceAdd, Nat.reduceSub, Nat.reduceEqDiff, not_false_eq_true, not_true_eq_false, false_or, or_false, true_or, or_true, false_imp_iff, true_imp_iff, and_true, true_and, forall_const, false_implies, true_implies, b_t0, b_f0, tg_1, rf_1_0, rf_1_1, rf_1_2, rf_1_3, rf_1_4, rf_1_5, rf_1_6, tg_2, rf_2_0, rf_2_1, rf_2_2, rf_2_3, tg_3, ln_3, tg_4, ln_4, tg_5, rf_5_0, tg_6, ln_6, tg_7, rf_7_0, tg_8, ln_8, tg_123, rf_123_0, rf_123_1, rf_123_2, rf_123_3, rf_123_4, tg_124, ln_124, tg_125, rf_125_0, tg_126, ln_126, tg_127, rf_127_0, tg_128, ln_128, tg_129, ln_129, tg_322, rf_322_0, rf_322_1, rf_322_2, rf_322_3, tg_323, ln_323, tg_324, ln_324, tg_325, rf_325_0, rf_325_1, rf_325_2, tg_326, rf_326_0, tg_327, ln_327, tg_328, rf_328_0, tg_329, ln_329, tg_330, rf_330_0, rf_330_1, rf_330_2, tg_331, rf_331_0, tg_332, ln_332, tg_333, rf_333_0, tg_334, ln_334, tg_335, ln_335, tg_336, rf_336_0, tg_337, ln_337, tg_339, ln_339, tg_346, rf_346_1, rf_346_2, rf_346_4, rf_346_5, rf_346_6, rf_346_7, rf_346_8, rf_346_11, rf_346_13, rf_346_14, rf_346_15, rf_346_17, rf_346_18, rf_346_19, rf_346_20, rf_346_21, rf_346_22, rf_346_26, rf_346_28, rf_346_29, rf_346_32, rf_346_34, rf_346_35, rf_346_36, tg_347, ln_347, tg_348, ln_348, tg_349, ln_349, tg_350, ln_350, tg_351, ln_351, tg_352, ln_352, tg_353, ln_353, tg_354, ln_354, tg_355, ln_355, tg_356, ln_356, tg_357, ln_357, tg_358, ln_358, tg_359, ln_359, tg_360, ln_360, tg_361, ln_361, tg_362, ln_362, tg_363, ln_363, tg_364, ln_364, tg_365, ln_365, tg_366, ln_366, tg_367, ln_367, tg_368, ln_368, tg_369, ln_369, tg_370, ln_370, h3, n_le s1 s2, s3, r5, b2_f, n_cl s2, n_neg s2, s4, g1, n_eq s5 s6, q, eT, eJ, hE1, hE3, if_false, Bool.false_eq_true, Bool.not_true]
          | false =>
            have W1 : MW I0 (f_wb I 356 (mS3 I0 j (tj j) fb)) := W.tr MW_made
            have M1 := hM.w W1
            obtain ⟨I2, s2', es, R2, A2, X2, E2⟩ := x_mcome (xs := xs) (L := L) (I := f_wb I 356 (mS3 I0 j (tj j) fb)) (lim := lim) (m := tj j) (o := h) (h := nI (1 + j)) (RM_made R) hh (by rw [f_wb_ne (by omega)]; exact hag) g4 M1.2.2.2.2.2.1 h7 h8
            rw [eg, if_neg (by rw [hE3]; decide)] at es
            have hj0 : jst lim m h fj tj (fun j => mS1 I0 j fb) (fun j => mS3 I0 j (tj j) fb) j s = s2' := by
              rw [es]
              unfold jst
              rw [if_neg hns, if_pos ⟨q, hE1, hE3⟩]
            obtain ⟨I', j', R', A', W', E'⟩ := ih (j + 1) s2' I2 (by omega) R2 (by rw [es]; exact Nat.lt_of_lt_of_le hh (tk_mono _ _ _ _ _ _)) A2 (W1.tr X2.MW) (by rw [X2.1 364 (by omega) (by omega), f_wb_ne (by omega)]; exact hf)
            refine ⟨I', j', ?_, ?_, W', fun d Q => ?_⟩
            · unfold wj; rw [hj0]; exact R'
            · unfold wj; rw [hj0]; exact A'
            · rw [w135_76, ← E' d Q]
              simp only [w135_77, w135_78, w135_81, w135_84, w135_85, w135_88, w135_91, w135_92, w135_95, w135_96, w135_97, w135_98, w135_101, w135_102, w135_103, w135_106, w135_107, w135_110, w135_111, w135_112, w135_115, w135_118, w135_119, w135_120, w135_123, w135_124, w135_125, w135_126, w135_127, w135_128, w135_129, w135_132, w135_135, eq_self, Nat.zero_le, n_lt, n_le, n_eq, n_neg, n_cl, n_mul, n_add, z_0, z_1, z_2, sc_0, sc_i, sc_r, sc_l, sc_n, jc_n, jc_i, jc_r, jc_l, Option.toList_some, Option.toList_none, List.cons_append, List.nil_append, Nat.reduceLT, Nat.reduceLeDiff, Nat.reduceMul, Nat.reduceAdd, Nat.reduceSub, Nat.reduceEqDiff, not_false_eq_true, not_true_eq_false, false_or, or_false, true_or, or_true, false_imp_iff, true_imp_iff, and_true, true_and, forall_const, false_implies, true_implies, b_t0, b_f0, tg_1, rf_1_0, rf_1_1, rf_1_2, rf_1_3, rf_1_4, rf_1_5, rf_1_6, tg_2, rf_2_0, rf_2_1, rf_2_2, rf_2_3, tg_3, ln_3, tg_4, ln_4, tg_5, rf_5_0, tg_6, ln_6, tg_7, rf_7_0, tg_8, ln_8, tg_123, rf_123_0, rf_123_1, rf_123_2, rf_123_3, rf_123_4, tg_124, ln_124, tg_125, rf_125_0, tg_126, ln_126, tg_127, rf_127_0, tg_128, ln_128, tg_129, ln_129, tg_322, rf_322_0, rf_322_1, rf_322_2, rf_322_3, tg_323, ln_323, tg_324, ln_324, tg_325, rf_325_0, rf_325_1, rf_325_2, tg_326, rf_326_0, tg_327, ln_327, tg_328, rf_328_0, tg_329, ln_329, tg_330, rf_330_0, rf_330_1, rf_330_2, tg_331, rf_331_0, tg_332, ln_332, tg_333, rf_333_0, tg_334, ln_334, tg_335, ln_335, tg_336, rf_336_0, tg_337, ln_337, tg_339, ln_339, tg_346, rf_346_1, rf_346_2, rf_346_4, rf_346_5, rf_346_6, rf_346_7, rf_346_8, rf_346_11, rf_346_13, rf_346_14, rf_346_15, rf_346_17, rf_346_18, rf_346_19, rf_346_20, rf_346_21, rf_346_22, rf_346_26, rf_346_28, rf_346_29, rf_346_32, rf_346_34, rf_346_35, rf_346_36, tg_347, ln_347, tg_348, ln_348, tg_349, ln_349, tg_350, ln_350, tg_351, ln_351, tg_352, ln_352, tg_353, ln_353, tg_354, ln_354, tg_355, ln_355, tg_356, ln_356, tg_357, ln_357, tg_358, ln_358, tg_359, ln_359, tg_360, ln_360, tg_361, ln_361, tg_362, ln_362, tg_363, ln_363, tg_364, ln_364, tg_365, ln_365, tg_366, ln_366, tg_367, ln_367, tg_368, ln_368, tg_369, ln_369, tg_370, ln_370, h3, n_le s1 s2, s3, r5, b2_f, b2_t, n_cl s2, n_neg s2, s4, g1, g2', n_eq s5 s6, q, eT, eJ, hE1, hE3, if_false, Bool.false_eq_true, Bool.not_false, E2]
      · have hj0 : jst lim m h fj tj (fun j => mS1 I0 j fb) (fun j => mS3 I0 j (tj j) fb) j s = s := by
          unfold jst
          rw [if_neg hns, if_neg (by simp [q])]
        obtain ⟨I', j', R', A', W', E'⟩ := ih (j + 1) s I (by omega) R hh hag W hf
        refine ⟨I', j', ?_, ?_, W', fun d Q => ?_⟩
        · unfold wj; rw [hj0]; exact R'
        · unfold wj; rw [hj0]; exact A'
        · rw [w135_76, ← E' d Q]
          simp only [w135_77, w135_78, w135_81, w135_84, w135_85, w135_88, w135_91, w135_92, w135_95, w135_96, w135_97, w135_98, w135_132, w135_135, eq_self, Nat.zero_le, n_lt, n_le, n_eq, n_neg, n_cl, n_mul, n_add, z_0, z_1, z_2, sc_0, sc_i, sc_r, sc_l, sc_n, jc_n, jc_i, jc_r, jc_l, Option.toList_some, Option.toList_none, List.cons_append, List.nil_append, Nat.reduceLT, Nat.reduceLeDiff, Nat.reduceMul, Nat.reduceAdd, Nat.reduceSub, Nat.reduceEqDiff, not_false_eq_true, not_true_eq_false, false_or, or_false, true_or, or_true, false_imp_iff, true_imp_iff, and_true, true_and, forall_const, false_implies, true_implies, b_t0, b_f0, tg_1, rf_1_0, rf_1_1, rf_1_2, rf_1_3, rf_1_4, rf_1_5, rf_1_6, tg_2, rf_2_0, rf_2_1, rf_2_2, rf_2_3, tg_3, ln_3, tg_4, ln_4, tg_5, rf_5_0, tg_6, ln_6, tg_7, rf_7_0, tg_8, ln_8, tg_123, rf_123_0, rf_123_1, rf_123_2, rf_123_3, rf_123_4, tg_124, ln_124, tg_125, rf_125_0, tg_126, ln_126, tg_127, rf_127_0, tg_128, ln_128, tg_129, ln_129, tg_322, rf_322_0, rf_322_1, rf_322_2, rf_322_3, tg_323, ln_323, tg_324, ln_324, tg_325, rf_325_0, rf_325_1, rf_325_2, tg_326, rf_326_0, tg_327, ln_327, tg_328, rf_328_0, tg_329, ln_329, tg_330, rf_330_0, rf_330_1, rf_330_2, tg_331, rf_331_0, tg_332, ln_332, tg_333, rf_333_0, tg_334, ln_334, tg_335, ln_335, tg_336, rf_336_0, tg_337, ln_337, tg_339, ln_339, tg_346, rf_346_1, rf_346_2, rf_346_4, rf_346_5, rf_346_6, rf_346_7, rf_346_8, rf_346_11, rf_346_13, rf_346_14, rf_346_15, rf_346_17, rf_346_18, rf_346_19, rf_346_20, rf_346_21, rf_346_22, rf_346_26, rf_346_28, rf_346_29, rf_346_32, rf_346_34, rf_346_35, rf_346_36, tg_347, ln_347, tg_348, ln_348, tg_349, ln_349, tg_350, ln_350, tg_351, ln_351, tg_352, ln_352, tg_353, ln_353, tg_354, ln_354, tg_355, ln_355, tg_356, ln_356, tg_357, ln_357, tg_358, ln_358, tg_359, ln_359, tg_360, ln_360, tg_361, ln_361, tg_362, ln_362, tg_363, ln_363, tg_364, ln_364, tg_365, ln_365, tg_366, ln_366, tg_367, ln_367, tg_368, ln_368, tg_369, ln_369, tg_370, ln_370, h3, n_le s1 s2, s3, r5, b2_f, n_cl s2, n_neg s2, s4, g1, n_eq s5 s6, q]
theorem RM_gE {mc hx : Nat} {I : fI} {s s' : gS} (R : RM I s hx) (h : gE mc s s') : RM I s' hx := by
  obtain ⟨r1, r2, r3, r4, r5, r6, r7⟩ := R
  obtain ⟨h1, h2, h3⟩ := h
  refine ⟨by rw [← h1]; exact r1, by rw [← h1]; exact r2, by rw [← h3]; exact r3, by rw [← h3]; exact r4, by rw [← h3]; exact r5, fun i hi => ?_, fun i hi hio => ?_⟩
  · rw [← h1] at hi
    obtain ⟨g1, g2, g3, g4⟩ := h2 i hi
    obtain ⟨q1, q2, q3, q4, q5, q6⟩ := r6 i hi
    exact ⟨by rw [← g2]; exact q1, by rw [← g2]; exact q2, fun k hk => (q3 k hk).trans (g3 k hk), by rw [← g4]; exact q4, by rw [← g4]; exact q5, by rw [← g4]; exact q6⟩
  · rw [← h1] at hi
    obtain ⟨g1, g2, g3, g4⟩ := h2 i hi
    rw [← g4]
    exact r7 i hi hio
theorem BE_mfl {I : fI} {mc : Nat} : BE mc (fun m f => mFl I m f) (fun m f => mFl I m f) := fun m _ f f' h => E6.meet (E6.shift h E6.rf) E6.rf
theorem BE_m1 {I : fI} {jc : Nat} : BE jc (fun j f => mS1 I j f) (fun j f => mS1 I j f) := fun j _ f f' h => E6.meet h E6.rf
theorem BE_m3 {I : fI} {jc : Nat} {tj : Nat → Nat} : BE jc (fun j f => mS3 I j (tj j) f) (fun j f => mS3 I j (tj j) f) := by
  intro j hj f f' h
  refine E6.meet ?_ E6.rf
  intro k hk
  have := BE_m1 (I := I) j hj f f' h k hk
  unfold mSet
  split
  · rfl
  · exact this
def mwI (I : fI) (h w : Nat) : fI := f_wb (f_up (f_up I 346 23 (nI (w + 1))) 346 25 (nI 0)) 363 (sl I 359 (6 * h))
theorem mwI_R {I : fI} {s : gS} {h : Nat} (R : RM I s 64) (hh : h < s.1) (hw : s.2.2.1 ≤ 999) : RM (mwI I h s.2.2.1) (wkS s h) h ∧ MW I (mwI I h s.2.2.1) ∧ mwI I h s.2.2.1 346 25 = b2 (!((wkS s h).2.1 h).2.2.2.2.1) ∧ mwI I h s.2.2.1 364 = sl I 359 (6 * h) := by
  obtain ⟨r1, r2, r3, r4, r5, r6, r7⟩ := R
  refine ⟨⟨r1, ?_, by show s.2.2.1 + 1 ≤ 1000; omega, ?_, ?_, ?_, ?_⟩, ⟨?_, ?_⟩, ?_, ?_⟩
  · simp [mwI, f_up_at, f_wb_at, wkS, r2]
  · simp [mwI, f_up_at, f_wb_at, wkS]
  · simp [mwI, f_up_at, f_wb_at, wkS, r5]
  · intro i hi
    have hi : i < s.1 := hi
    have g := r6 i hi
    show MH _ i (gupd s.2.1 h _ i)
    unfold MH at g ⊢
    unfold gupd
    by_cases q : i = h
    · subst q
      rw [if_pos rfl]
      simpa [mwI, f_up_at, f_wb_at] using g
    · rw [if_neg q]
      simpa [mwI, f_up_at, f_wb_at] using g
  · intro i hi hih
    have hi : i < s.1 := hi
    show _ = b2 (gupd s.2.1 h _ i).2.2.2.2.1
    unfold gupd
    rw [if_neg hih]
    simpa [mwI, f_up_at, f_wb_at] using r7 i hi (by omega)
  · intro o h1 h2
    unfold mwI
    rw [f_wb_ne (by omega), f_up_ne h1, f_up_ne h1]
  · intro k h1 h2 h3 h4
    simp [mwI, f_up_at, f_wb_at, h2, h4]
  · show _ = b2 (!(gupd s.2.1 h _ h).2.2.2.2.1)
    simp [mwI, f_up_at, f_wb_at, gupd, b2]
  · exact f_wb_eq (b := 363)
theorem x_mwork {I : fI} {s : gS} {h : Nat} (hM : MD I mc jc fj tj lim) (R : RM I s 64) (hh : h < s.1) (hw : s.2.2.1 ≤ 999) : ∃ I', RM I' (wk lim jc fj tj (fun m f => mFl I m f) (fun j f => mS1 I j f) (fun j f => mS3 I j (tj j) f) s h) 64 ∧ MW I I' ∧ ∀ (d : Nat) (Q : Option Value × jW → Prop), Wp (d + 3) 135 0 [some (.ref 346), some (.int (nI h)), none, none] [] (f_W xs I L) Q = Q (none, f_W xs I' L) := by
  obtain ⟨R1, W1, A1, F1⟩ := mwI_R R hh hw
  obtain ⟨r1, r2, r3, r4, r5, r6, r7⟩ := id R
  obtain ⟨g1, g2, g3, g4, g5, g6⟩ := r6 h hh
  have h64 : h < 64 := by omega
  have hE := wkS_E (mc := 6) (lim := lim) (jc := jc) (fj := fj) (tj := tj) (s := s) (h := h) (fb := sl I 359 (6 * h)) g3 (BE_mfl (I := I)) (BE_m1 (I := I)) (BE_m3 (I := I) (tj := tj)) (fun j hj => (hM.2.2.2.2.1 j hj).2.2.2) hh (fun i hi => (r6 i hi).2.1)
  have n1 : (364 : Nat) ≠ 357 := by omega
  have eT := fun (d : Nat) (Q : Option Value × jW → Prop) => sp_mtake (d := d) (xs := xs) (I := mwI I h s.2.2.1) (L := L) (Q := Q) rw6_364 n1
  rw [sl_0, F1] at eT
  have eg : ∀ (J : fI) (g : Nat → Int32), f_wb J 356 g 357 = g := fun J g => f_wb_eq (b := 356)
  have eF : ∀ g : Nat → Int32, mFl (f_wb (mwI I h s.2.2.1) 356 g) (s.2.1 h).1 (sl I 359 (6 * h)) = mFl I (s.2.1 h).1 (sl I 359 (6 * h)) := fun g => mFl_w (W1.tr MW_made)
  have eK := fun (d : Nat) (Q : Option Value × jW → Prop) => sp_ticks (d := d) (xs := xs) (I := f_wb (mwI I h s.2.2.1) 356 (sl I 359 (6 * h))) (L := L) (Q := Q) g2
  simp only [eg, eF, f_wb_wb] at eK
  have W2 : MW I (f_wb (mwI I h s.2.2.1) 356 (mFl I (s.2.1 h).1 (sl I 359 (6 * h)))) := W1.tr MW_made
  have M2 := hM.w W2
  have hh1 : h < (wkS s h).1 := hh
  obtain ⟨I3, s3, es, R3, A3, X3, E3⟩ := x_mcome (xs := xs) (L := L) (I := f_wb (mwI I h s.2.2.1) 356 (mFl I (s.2.1 h).1 (sl I 359 (6 * h)))) (lim := lim) (m := (s.2.1 h).1) (o := h) (h := nI 0) (RM_made R1) hh1 (by rw [f_wb_ne (by omega)]; exact A1) g2 M2.2.2.2.2.2.1 hM.2.2.2.2.2.2.1 hM.2.2.2.2.2.2.2
  rw [eg] at es
  have hh3 : h < s3.1 := by
    rw [es]
    split
    · exact hh1
    · exact Nat.lt_of_lt_of_le hh1 (tk_mono _ _ _ _ _ _)
  obtain ⟨I4, j', R4, A4, W4, E4⟩ := x_mwloop (xs := xs) (L := L) hM (h := h) (m := (s.2.1 h).1) g2 (fb := sl I 359 (6 * h)) jc 0 s3 I3 (by omega) R3 hh3 A3 (W2.tr X3.MW) (by rw [X3.1 364 (by omega) (by omega), f_wb_ne (by omega)]; exact F1)
  rw [es] at R4 A4
  generalize hs4 : wj lim (s.2.1 h).1 h fj tj (fun j => mS1 I j (sl I 359 (6 * h))) (fun j => mS3 I j (tj j) (sl I 359 (6 * h))) jc 0 (if bEmp (mFl I (s.2.1 h).1 (sl I 359 (6 * h))) = true then wkS s h else tk lim (wkS s h) (s.2.1 h).1 (mFl I (s.2.1 h).1 (sl I 359 (6 * h))) (nI h) (nI 0)) = s4 at *
  have R5 : RM (f_up I4 363 h (b2 (s4.2.1 h).2.2.2.2.1)) s4 64 := by
    obtain ⟨p1, p2, p3, p4, p5, p6, p7⟩ := R4
    refine ⟨p1, by simpa [f_up_at] using p2, p3, by simpa [f_up_at] using p4, by simpa [f_up_at] using p5, fun i hi => ?_, fun i hi _ => ?_⟩
    · have g := p6 i hi
      unfold MH at g ⊢
      simpa [f_up_at] using g
    · by_cases q : i = h
      · subst q
        simp [f_up_at]
      · simp [f_up_at, q]
        exact p7 i hi q
  have W5 : MW I (f_up I4 363 h (b2 (s4.2.1 h).2.2.2.2.1)) := ⟨fun o h1 h2 => by rw [f_up_ne (by omega)]; exact W4.1 o h1 h2, fun k a b c e => by rw [f_up_ne (by omega)]; exact W4.2 k a b c e⟩
  refine ⟨_, RM_gE R5 hE, W5, fun d Q => ?_⟩
  have s1 : h < 2147483648 := by omega
  have s2 : ¬ 64 ≤ h := by omega
  have e0 : 6 * h < 2147483648 := by omega
  have e1 : 6 * h + 1 < 2147483648 := by omega
  have e2 : 6 * h + 2 < 2147483648 := by omega
  have e3 : 6 * h + 3 < 2147483648 := by omega
  have e4 : 6 * h + 4 < 2147483648 := by omega
  have e5 : 6 * h + 5 < 2147483648 := by omega
  have q0 : ¬ 384 ≤ 6 * h := by omega
  have q1 : ¬ 384 ≤ 6 * h + 1 := by omega
  have q2 : ¬ 384 ≤ 6 * h + 2 := by omega
  have q3 : ¬ 384 ≤ 6 * h + 3 := by omega
  have q4 : ¬ 384 ≤ 6 * h + 4 := by omega
  have q5 : ¬ 384 ≤ 6 * h + 5 := by omega
  have pre : ∀ (d : Nat) (Q : Option Value × jW → Prop), Wp (d + 3) 135 0 [some (.ref 346), some (.int (nI h)), none, none] [] (f_W xs I L) Q = Wp (d + 3) 135 53 [some (.ref 346), some (.int (nI h)), some (.int (nI (s.2.1 h).1)), some (.int (nI 6))] [] (f_W xs (mwI I h s.2.2.1) L) Q := by
    intro d Q
    have n1 : (358 : Nat) ≠ 346 := by omega
    have n2 : (359 : Nat) ≠ 346 := by omega
    have n3 : (359 : Nat) ≠ 364 := by omega
    simp only [w135_0, w135_1, w135_1r, w135_2, w135_5, w135_6, w135_7, w135_10, w135_11, w135_12, w135_15, w135_16, w135_19, w135_20, w135_21, w135_22, w135_23, w135_24, w135_25, w135_27, w135_30, w135_31, w135_34, w135_35, w135_36, w135_39, w135_41, w135_42, w135_43, w135_44, w135_45, w135_46, w135_47, w135_50, w135_54, w135_55, w135_58, w135_59, w135_62, w135_63, w135_64, w135_67, w135_68, w135_69, w135_70, w135_71, w135_74, w135_75, w135_76, w135_77, w135_78, w135_81, w135_84, w135_85, w135_88, w135_91, w135_92, w135_95, w135_96, w135_97, w135_98, w135_101, w135_102, w135_103, w135_106, w135_107, w135_110, w135_111, w135_112, w135_115, w135_118, w135_119, w135_120, w135_123, w135_124, w135_125, w135_126, w135_127, w135_128, w135_129, w135_132, w135_135, w135_138, w135_139, w135_142, w135_143, w135_144, w135_147, w135_150, w135_151, w135_154, w135_155, w135_156, eq_self, Nat.zero_le, n_lt, n_le, n_eq, n_neg, n_cl, n_mul, n_add, z_0, z_1, z_2, sc_0, sc_i, sc_r, sc_l, sc_n, jc_n, jc_i, jc_r, jc_l, Option.toList_some, Option.toList_none, List.cons_append, List.nil_append, Nat.reduceLT, Nat.reduceLeDiff, Nat.reduceMul, Nat.reduceAdd, Nat.reduceSub, Nat.reduceEqDiff, not_false_eq_true, not_true_eq_false, false_or, or_false, true_or, or_true, false_imp_iff, true_imp_iff, and_true, true_and, forall_const, false_implies, true_implies, b_t0, b_f0, tg_1, rf_1_0, rf_1_1, rf_1_2, rf_1_3, rf_1_4, rf_1_5, rf_1_6, tg_2, rf_2_0, rf_2_1, rf_2_2, rf_2_3, tg_3, ln_3, tg_4, ln_4, tg_5, rf_5_0, tg_6, ln_6, tg_7, rf_7_0, tg_8, ln_8, tg_123, rf_123_0, rf_123_1, rf_123_2, rf_123_3, rf_123_4, tg_124, ln_124, tg_125, rf_125_0, tg_126, ln_126, tg_127, rf_127_0, tg_128, ln_128, tg_129, ln_129, tg_322, rf_322_0, rf_322_1, rf_322_2, rf_322_3, tg_323, ln_323, tg_324, ln_324, tg_325, rf_325_0, rf_325_1, rf_325_2, tg_326, rf_326_0, tg_327, ln_327, tg_328, rf_328_0, tg_329, ln_329, tg_330, rf_330_0, rf_330_1, rf_330_2, tg_331, rf_331_0, tg_332, ln_332, tg_333, rf_333_0, tg_334, ln_334, tg_335, ln_335, tg_336, rf_336_0, tg_337, ln_337, tg_339, ln_339, tg_346, rf_346_1, rf_346_2, rf_346_4, rf_346_5, rf_346_6, rf_346_7, rf_346_8, rf_346_11, rf_346_13, rf_346_14, rf_346_15, rf_346_17, rf_346_18, rf_346_19, rf_346_20, rf_346_21, rf_346_22, rf_346_26, rf_346_28, rf_346_29, rf_346_32, rf_346_34, rf_346_35, rf_346_36, tg_347, ln_347, tg_348, ln_348, tg_349, ln_349, tg_350, ln_350, tg_351, ln_351, tg_352, ln_352, tg_353, ln_353, tg_354, ln_354, tg_355, ln_355, tg_356, ln_356, tg_357, ln_357, tg_358, ln_358, tg_359, ln_359, tg_360, ln_360, tg_361, ln_361, tg_362, ln_362, tg_363, ln_363, tg_364, ln_364, tg_365, ln_365, tg_366, ln_366, tg_367, ln_367, tg_368, ln_368, tg_369, ln_369, tg_370, ln_370, Nat.add_zero, r4, n_cl s1, n_neg s1, s2, f_up_ne n1, f_up_ne n2, f_up_ne n3, g1, n_neg e0, n_neg e1, n_neg e2, n_neg e3, n_neg e4, n_neg e5, n_cl e0, n_cl e1, n_cl e2, n_cl e3, n_cl e4, n_cl e5, q0, q1, q2, q3, q4, q5]
    rw [f_six (b := 363) ln_364 (g := sl I 359 (6 * h))] <;> rfl
  rw [pre]
  have post : ∀ (d : Nat) (Q : Option Value × jW → Prop), Wp (d + 3) 135 138 [some (.ref 346), some (.int (nI h)), some (.int (nI (s.2.1 h).1)), some (.int j')] [] (f_W xs I4 L) Q = Q (none, f_W xs (f_up I4 363 h (b2 (s4.2.1 h).2.2.2.2.1)) L) := by
    intro d Q
    cases hw4 : (s4.2.1 h).2.2.2.2.1 <;> rw [hw4] at A4 <;> simp only [w135_0, w135_1, w135_1r, w135_2, w135_5, w135_6, w135_7, w135_10, w135_11, w135_12, w135_15, w135_16, w135_19, w135_20, w135_21, w135_22, w135_23, w135_24, w135_25, w135_27, w135_30, w135_31, w135_34, w135_35, w135_36, w135_39, w135_41, w135_42, w135_43, w135_44, w135_45, w135_46, w135_47, w135_50, w135_54, w135_55, w135_58, w135_59, w135_62, w135_63, w135_64, w135_67, w135_68, w135_69, w135_70, w135_71, w135_74, w135_75, w135_76, w135_77, w135_78, w135_81, w135_84, w135_85, w135_88, w135_91, w135_92, w135_95, w135_96, w135_97, w135_98, w135_101, w135_102, w135_103, w135_106, w135_107, w135_110, w135_111, w135_112, w135_115, w135_118, w135_119, w135_120, w135_123, w135_124, w135_125, w135_126, w135_127, w135_128, w135_129, w135_132, w135_135, w135_138, w135_139, w135_142, w135_143, w135_144, w135_147, w135_150, w135_151, w135_154, w135_155, w135_156, eq_self, Nat.zero_le, n_lt, n_le, n_eq, n_neg, n_cl, n_mul, n_add, z_0, z_1, z_2, sc_0, sc_i, sc_r, sc_l, sc_n, jc_n, jc_i, jc_r, jc_l, Option.toList_some, Option.toList_none, List.cons_append, List.nil_append, Nat.reduceLT, Nat.reduceLeDiff, Nat.reduceMul, Nat.reduceAdd, Nat.reduceSub, Nat.reduceEqDiff, not_false_eq_true, not_true_eq_false, false_or, or_false, true_or, or_true, false_imp_iff, true_imp_iff, and_true, true_and, forall_const, false_implies, true_implies, b_t0, b_f0, tg_1, rf_1_0, rf_1_1, rf_1_2, rf_1_3, rf_1_4, rf_1_5, rf_1_6, tg_2, rf_2_0, rf_2_1, rf_2_2, rf_2_3, tg_3, ln_3, tg_4, ln_4, tg_5, rf_5_0, tg_6, ln_6, tg_7, rf_7_0, tg_8, ln_8, tg_123, rf_123_0, rf_123_1, rf_123_2, rf_123_3, rf_123_4, tg_124, ln_124, tg_125, rf_125_0, tg_126, ln_126, tg_127, rf_127_0, tg_128, ln_128, tg_129, ln_129, tg_322, rf_322_0, rf_322_1, rf_322_2, rf_322_3, tg_323, ln_323, tg_324, ln_324, tg_325, rf_325_0, rf_325_1, rf_325_2, tg_326, rf_326_0, tg_327, ln_327, tg_328, rf_328_0, tg_329, ln_329, tg_330, rf_330_0, rf_330_1, rf_330_2, tg_331, rf_331_0, tg_332, ln_332, tg_333, rf_333_0, tg_334, ln_334, tg_335, ln_335, tg_336, rf_336_0, tg_337, ln_337, tg_339, ln_339, tg_346, rf_346_1, rf_346_2, rf_346_4, rf_346_5, rf_346_6, rf_346_7, rf_346_8, rf_346_11, rf_346_13, rf_346_14, rf_346_15, rf_346_17, rf_346_18, rf_346_19, rf_346_20, rf_346_21, rf_346_22, rf_346_26, rf_346_28, rf_346_29, rf_346_32, rf_346_34, rf_346_35, rf_346_36, tg_347, ln_347, tg_348, ln_348, tg_349, ln_349, tg_350, ln_350, tg_351, ln_351, tg_352, ln_352, tg_353, ln_353, tg_354, ln_354, tg_355, ln_355, tg_356, ln_356, tg_357, ln_357, tg_358, ln_358, tg_359, ln_359, tg_360, ln_360, tg_361, ln_361, tg_362, ln_362, tg_363, ln_363, tg_364, ln_364, tg_365, ln_365, tg_366, ln_366, tg_367, ln_367, tg_368, ln_368, tg_369, ln_369, tg_370, ln_370, n_cl s1, n_neg s1, s2, A4, b2_t, b2_f, Bool.not_true, Bool.not_false]
  rw [← post d Q, ← E4 d Q]
  simp only [w135_53, w135_54, w135_55, w135_58, w135_59, w135_62, w135_63, w135_64, w135_67, w135_68, w135_69, w135_70, w135_71, w135_74, w135_75, eq_self, Nat.zero_le, n_lt, n_le, n_eq, n_neg, n_cl, n_mul, n_add, z_0, z_1, z_2, sc_0, sc_i, sc_r, sc_l, sc_n, jc_n, jc_i, jc_r, jc_l, Option.toList_some, Option.toList_none, List.cons_append, List.nil_append, Nat.reduceLT, Nat.reduceLeDiff, Nat.reduceMul, Nat.reduceAdd, Nat.reduceSub, Nat.reduceEqDiff, not_false_eq_true, not_true_eq_false, false_or, or_false, true_or, or_true, false_imp_iff, true_imp_iff, and_true, true_and, forall_const, false_implies, true_implies, b_t0, b_f0, tg_1, rf_1_0, rf_1_1, rf_1_2, rf_1_3, rf_1_4, rf_1_5, rf_1_6, tg_2, rf_2_0, rf_2_1, rf_2_2, rf_2_3, tg_3, ln_3, tg_4, ln_4, tg_5, rf_5_0, tg_6, ln_6, tg_7, rf_7_0, tg_8, ln_8, tg_123, rf_123_0, rf_123_1, rf_123_2, rf_123_3, rf_123_4, tg_124, ln_124, tg_125, rf_125_0, tg_126, ln_126, tg_127, rf_127_0, tg_128, ln_128, tg_129, ln_129, tg_322, rf_322_0, rf_322_1, rf_322_2, rf_322_3, tg_323, ln_323, tg_324, ln_324, tg_325, rf_325_0, rf_325_1, rf_325_2, tg_326, rf_326_0, tg_327, ln_327, tg_328, rf_328_0, tg_329, ln_329, tg_330, rf_330_0, rf_330_1, rf_330_2, tg_331, rf_331_0, tg_332, ln_332, tg_333, rf_333_0, tg_334, ln_334, tg_335, ln_335, tg_336, rf_336_0, tg_337, ln_337, tg_339, ln_339, tg_346, rf_346_1, rf_346_2, rf_346_4, rf_346_5, rf_346_6, rf_346_7, rf_346_8, rf_346_11, rf_346_13, rf_346_14, rf_346_15, rf_346_17, rf_346_18, rf_346_19, rf_346_20, rf_346_21, rf_346_22, rf_346_26, rf_346_28, rf_346_29, rf_346_32, rf_346_34, rf_346_35, rf_346_36, tg_347, ln_347, tg_348, ln_348, tg_349, ln_349, tg_350, ln_350, tg_351, ln_351, tg_352, ln_352, tg_353, ln_353, tg_354, ln_354, tg_355, ln_355, tg_356, ln_356, tg_357, ln_357, tg_358, ln_358, tg_359, ln_359, tg_360, ln_360, tg_361, ln_361, tg_362, ln_362, tg_363, ln_363, tg_364, ln_364, tg_365, ln_365, tg_366, ln_366, tg_367, ln_367, tg_368, ln_368, tg_369, ln_369, tg_370, ln_370, eT, eK, E3]
end MWS
