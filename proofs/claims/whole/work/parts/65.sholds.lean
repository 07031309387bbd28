/-! holds: both agree -/
section SHOLD
variable {xs : List Value} {L : fL} {I I' : fI} {mc jc lim sm : Nat} {fj tj : Nat → Nat}
theorem fen_eq (h : RD I mc jc lim sm fj tj) {m : Nat} (hm : m < 6) : fenM I m = fen I m := by
  unfold fenM fen
  rw [(h.2.2.2.2.1 m hm).2.2.1]
theorem fen_1 (h : RD I mc jc lim sm fj tj) {m : Nat} (hm : m < 6) (hf : fen I m = true) : m < mc ∧ GB (I (15 + 7 * m)) ∧ E6 (sl I 356 (6 * m)) (I (15 + 7 * m)) := by
  obtain ⟨a1, a2, a3, a4, -⟩ := h.2.2.2.2.1 m hm
  refine a4 ?_
  rcases a2 with q | q
  · unfold fen at hf
    rw [q] at hf
    exact absurd hf (by decide)
  · exact q
theorem eX_eM (h : RD I mc jc lim sm fj tj) {m : Nat} (hm : m < 6) (hf : fen I m = true) : E6 (eX I m) (eM I m) := by
  obtain ⟨b1, b2, b3⟩ := fen_1 h hm hf
  obtain ⟨c1, c2⟩ := (h.2.2.2.2.1 m hm).2.2.2.2.1 b1
  exact E6.meet b3.sy c1.sy
theorem TXM (h : RD I mc jc lim sm fj tj) {m : Nat} (hm : m < mc) : TX I m = TM I m := by
  have mc6 := h.1.2.1
  unfold TX TM
  rw [fen_eq h (by omega)]
  cases hf : fen I m with
  | false => rfl
  | true =>
    have e := eX_eM h (by omega) hf
    have e2 := RD_fl h m hm _ _ e
    rw [bEmp_congr e, bEmp_congr e2, bCov_congr (fen_1 h (by omega) hf).2.2.sy e2]
    cases bEmp (eM I m) <;> cases bEmp (mFl I m (eM I m)) <;> cases bCov (sl I 356 (6 * m)) (mFl I m (eM I m)) <;> rfl
theorem JXM (h : RD I mc jc lim sm fj tj) {j : Nat} (hj : j < jc) : JX I fj tj j = JM I fj tj j := by
  have mc6 := h.1.2.1
  obtain ⟨q1, q2⟩ := h.2.2.2.1 j hj
  unfold JX JM
  rw [fen_eq h (show fj j < 6 by omega), fen_eq h (show tj j < 6 by omega)]
  cases hf : fen I (fj j) with
  | false => rfl
  | true =>
    have e := eX_eM h (by omega) hf
    have e1 := RD_s1 h j hj _ _ e
    have e2 := RD_s3 h j hj _ _ e
    rw [bEmp_congr e, bEmp_congr e1, bEmp_congr e2]
    cases hf2 : fen I (tj j) with
    | false => cases bEmp (eM I (fj j)) <;> cases bEmp (mS1 I j (eM I (fj j))) <;> cases bEmp (mS3 I j (tj j) (eM I (fj j))) <;> rfl
    | true =>
      rw [bCov_congr (fen_1 h (by omega) hf2).2.2.sy e2]
      cases bEmp (eM I (fj j)) <;> cases bEmp (mS1 I j (eM I (fj j))) <;> cases bEmp (mS3 I j (tj j) (eM I (fj j))) <;> cases bCov (sl I 356 (6 * tj j)) (mS3 I j (tj j) (eM I (fj j))) <;> rfl
theorem WXM (h : RD I mc jc lim sm fj tj) {m : Nat} (hm : m < mc) : WX I m = WM I m := by
  have mc6 := h.1.2.1
  obtain ⟨-, -, -, w1, -, -, w2, w3⟩ := h.2.2.1
  unfold WX WM
  rw [fen_eq h (by omega), w1]
  cases hf : fen I m with
  | false => rfl
  | true =>
    have e := eX_eM h (by omega) hf
    have ed : decide (I 2 7 = nI m) = decide (nI m = I 2 7) := decide_eq_decide.mpr ⟨fun h => h.symm, fun h => h.symm⟩
    rw [bEmp_congr e, ed]
    cases he : bEmp (eM I m) with
    | true => rw [emp_meet he]; cases decide (nI m = I 2 7) <;> rfl
    | false =>
      have hw : bEmp (sl I 354 6) = false := by rw [bEmp_congr w2]; exact w3.2
      rw [bTch_meet he hw, bTch_congr w2.sy e]
      rfl
theorem TX_lo (lo : ∀ o, o < 123 → I' o = I o) {m : Nat} (hm : m < 6) : TX I' m = TX I m := by
  have e : eX I' m = eX I m := by unfold eX; rw [lo _ (by omega), lo _ (by omega)]
  unfold TX fen
  rw [lo (9 + 7 * m) (by omega), e, lo (15 + 7 * m) (by omega), rFl_lo lo hm]
theorem JX_lo (lo : ∀ o, o < 123 → I' o = I o) {j : Nat} (hj : j < 12) (h1 : fj j < 6) (h2 : tj j < 6) : JX I' fj tj j = JX I fj tj j := by
  have e : eX I' (fj j) = eX I (fj j) := by unfold eX; rw [lo _ (by omega), lo _ (by omega)]
  unfold JX fen
  rw [lo (9 + 7 * fj j) (by omega), lo (9 + 7 * tj j) (by omega), e, lo (15 + 7 * tj j) (by omega), rS1_lo lo hj, rS3_lo lo hj h2]
theorem WX_lo (lo : ∀ o, o < 123 → I' o = I o) {m : Nat} (hm : m < 6) : WX I' m = WX I m := by
  have e : eX I' m = eX I m := by unfold eX; rw [lo _ (by omega), lo _ (by omega)]
  unfold WX fen
  rw [lo (9 + 7 * m) (by omega), e, lo 2 (by omega), lo 8 (by omega)]
def hMv (I : fI) (mc jc sm : Nat) (fj tj : Nat → Nat) : Int32 := if sm < mc ∧ bEmp (mSt I sm) = false ∧ (fenM I sm && bCov (sl I 356 (6 * sm)) (mSt I sm)) = false then nI 1 else oV 10 (fi (TM I) mc 0) (oV 20 (fi (JM I fj tj) jc 0) (oV 40 (fi (WM I) mc 0) (nI 0)))
theorem hv_1 (h : RD I' mc jc lim sm fj tj) (lo : ∀ o, o < 123 → I' o = I o) : fi (TX I) mc 0 = fi (TM I') mc 0 := by
  have mc6 := h.1.2.1
  exact fi_congr mc 0 mc (by omega) (fun m hm => (TX_lo lo (show m < 6 by omega)).symm.trans (TXM h hm))
theorem hv_2 (h : RD I' mc jc lim sm fj tj) (lo : ∀ o, o < 123 → I' o = I o) : fi (JX I fj tj) jc 0 = fi (JM I' fj tj) jc 0 := by
  have mc6 := h.1.2.1
  have jc12 := h.1.2.2.2.1
  refine fi_congr jc 0 jc (by omega) (fun j hj => ?_)
  have hf := h.2.2.2.1 j hj
  exact (JX_lo lo (show j < 12 by omega) (show fj j < 6 by omega) (show tj j < 6 by omega)).symm.trans (JXM h hj)
theorem hv_3 (h : RD I' mc jc lim sm fj tj) (lo : ∀ o, o < 123 → I' o = I o) : fi (WX I) mc 0 = fi (WM I') mc 0 := by
  have mc6 := h.1.2.1
  exact fi_congr mc 0 mc (by omega) (fun m hm => (WX_lo lo (show m < 6 by omega)).symm.trans (WXM h hm))
theorem hv_4 (h : RD I' mc jc lim sm fj tj) (lo : ∀ o, o < 123 → I' o = I o) (q : sm < mc) : (fen I sm && bCov (I (15 + 7 * sm)) (rSt I sm)) = (fenM I' sm && bCov (sl I' 356 (6 * sm)) (mSt I' sm)) := by
  have sm6 := h.2.2.1.1
  have es := RD_st h q
  have e0 : fen I sm = fen I' sm := by unfold fen; rw [lo (9 + 7 * sm) (by omega)]
  have e1 : I (15 + 7 * sm) = I' (15 + 7 * sm) := (lo _ (by omega)).symm
  have e2 : rSt I sm = rSt I' sm := (rSt_lo lo sm6).symm
  rw [fen_eq h sm6, e0, e1, e2]
  cases hf : fen I' sm with
  | false => rw [Bool.false_and, Bool.false_and]
  | true => rw [bCov_congr (fen_1 h sm6 hf).2.2.sy es]
theorem hv_eq (h : RD I' mc jc lim sm fj tj) (lo : ∀ o, o < 123 → I' o = I o) : hXv I mc jc sm fj tj = hMv I' mc jc sm fj tj := by
  have sm6 := h.2.2.1.1
  have e2 : rSt I sm = rSt I' sm := (rSt_lo lo sm6).symm
  unfold hXv hMv
  rw [hv_1 h lo, hv_2 h lo, hv_3 h lo]
  generalize oV 10 (fi (TM I') mc 0) (oV 20 (fi (JM I' fj tj) jc 0) (oV 40 (fi (WM I') mc 0) (nI 0))) = v
  generalize nI 1 = w
  by_cases q : sm < mc
  · have es := RD_st h q
    rw [hv_4 h lo q, e2, bEmp_congr es]
  · rw [if_neg (fun r => q r.1), if_neg (fun r => q r.1)]
theorem x_mholds (h : RD I mc jc lim sm fj tj) : ∃ I' : fI, HM I I' ∧ ∀ (d : Nat) (Q : Option Value × jW → Prop), Wp (d + 3) 157 0 [some (.ref 346), none] [] (f_W xs I L) Q = Q (some (.int (hMv I mc jc sm fj tj)), f_W xs I' L) := by
  obtain ⟨h1, h2, h3, h4, h5, h6, h7, h8⟩ := id h
  have mc6 := h1.2.1
  have jc12 := h1.2.2.2.1
  have sm6 := h3.1
  have hB : ∀ m, m < 6 → isB (I 355 m) := fun m hm => by rw [(h5 m hm).2.2.1]; exact (h5 m hm).2.1
  have hx0 : HM I I := fun _ _ => rfl
  have eg : ∀ (I : fI) (g : Nat → Int32), f_wb I 356 g 357 = g := fun I g => f_wb_eq (b := 356)
  have sb := fun (d : Nat) (Q : Option Value × jW → Prop) => sp_startBox (d := d) (Q := Q) (xs := xs) (I := I) (L := L) h2.1 mc6 h3.2.2.1 sm6
  have rest : ∀ I1 : fI, HM I I1 → ∃ I' : fI, HM I I' ∧ ∀ (d : Nat) (Q : Option Value × jW → Prop), Wp (d + 3) 157 20 [some (.ref 346), none] [] (f_W xs I1 L) Q = Q (some (.int (oV 10 (fi (TM I) mc 0) (oV 20 (fi (JM I fj tj) jc 0) (oV 40 (fi (WM I) mc 0) (nI 0))))), f_W xs I' L) := by
    intro I1 hx1
    obtain ⟨I2, hx2, E2⟩ := x_mtout (xs := xs) (L := L) h2.1 mc6 hB mc 0 I1 (by omega) hx1
    cases ht : fi (TM I) mc 0 with
    | some m =>
      refine ⟨I2, hx2, fun d Q => ?_⟩
      simp only [w157_20, w157_21, eq_self, Nat.zero_le, n_lt, n_le, n_eq, n_neg, n_cl, n_mul, n_add, z_0, z_1, z_2, sc_0, sc_i, sc_r, sc_l, sc_n, jc_n, jc_i, jc_r, jc_l, Option.toList_some, Option.toList_none, List.cons_append, List.nil_append, Nat.reduceLT, Nat.reduceLeDiff, Nat.reduceMul, Nat.reduceAdd, Nat.reduceSub, Nat.reduceEqDiff, not_false_eq_true, not_true_eq_false, false_or, or_false, true_or, or_true, false_imp_iff, true_imp_iff, and_true, true_and, forall_const, false_implies, true_implies, b_t0, b_f0, tg_1, rf_1_0, rf_1_1, rf_1_2, rf_1_3, rf_1_4, rf_1_5, rf_1_6, tg_2, rf_2_0, rf_2_1, rf_2_2, rf_2_3, tg_3, ln_3, tg_4, ln_4, tg_5, rf_5_0, tg_6, ln_6, tg_7, rf_7_0, tg_8, ln_8, tg_123, rf_123_0, rf_123_1, rf_123_2, rf_123_3, rf_123_4, tg_124, ln_124, tg_125, rf_125_0, tg_126, ln_126, tg_127, rf_127_0, tg_128, ln_128, tg_129, ln_129, tg_322, rf_322_0, rf_322_1, rf_322_2, rf_322_3, tg_323, ln_323, tg_324, ln_324, tg_325, rf_325_0, rf_325_1, rf_325_2, tg_326, rf_326_0, tg_327, ln_327, tg_328, rf_328_0, tg_329, ln_329, tg_330, rf_330_0, rf_330_1, rf_330_2, tg_331, rf_331_0, tg_332, ln_332, tg_333, rf_333_0, tg_334, ln_334, tg_335, ln_335, tg_336, rf_336_0, tg_337, ln_337, tg_339, ln_339, tg_346, rf_346_1, rf_346_2, rf_346_4, rf_346_5, rf_346_6, rf_346_7, rf_346_8, rf_346_11, rf_346_13, rf_346_14, rf_346_15, rf_346_17, rf_346_18, rf_346_19, rf_346_20, rf_346_21, rf_346_22, rf_346_26, rf_346_28, rf_346_29, rf_346_32, rf_346_34, rf_346_35, rf_346_36, tg_347, ln_347, tg_348, ln_348, tg_349, ln_349, tg_350, ln_350, tg_351, ln_351, tg_352, ln_352, tg_353, ln_353, tg_354, ln_354, tg_355, ln_355, tg_356, ln_356, tg_357, ln_357, tg_358, ln_358, tg_359, ln_359, tg_360, ln_360, tg_361, ln_361, tg_362, ln_362, tg_363, ln_363, tg_364, ln_364, tg_365, ln_365, tg_366, ln_366, tg_367, ln_367, tg_368, ln_368, tg_369, ln_369, tg_370, ln_370, E2, ht, oV]
    | none =>
      obtain ⟨I3, hx3, E3⟩ := x_mjout (xs := xs) (L := L) mc6 hB h2.2.2.1 jc12 h2.2.2.2.2.1 jc 0 I2 (by omega) hx2
      cases hj : fi (JM I fj tj) jc 0 with
      | some j =>
        refine ⟨I3, hx3, fun d Q => ?_⟩
        simp only [w157_20, w157_21, w157_75, w157_76, eq_self, Nat.zero_le, n_lt, n_le, n_eq, n_neg, n_cl, n_mul, n_add, z_0, z_1, z_2, sc_0, sc_i, sc_r, sc_l, sc_n, jc_n, jc_i, jc_r, jc_l, Option.toList_some, Option.toList_none, List.cons_append, List.nil_append, Nat.reduceLT, Nat.reduceLeDiff, Nat.reduceMul, Nat.reduceAdd, Nat.reduceSub, Nat.reduceEqDiff, not_false_eq_true, not_true_eq_false, false_or, or_false, true_or, or_true, false_imp_iff, true_imp_iff, and_true, true_and, forall_const, false_implies, true_implies, b_t0, b_f0, tg_1, rf_1_0, rf_1_1, rf_1_2, rf_1_3, rf_1_4, rf_1_5, rf_1_6, tg_2, rf_2_0, rf_2_1, rf_2_2, rf_2_3, tg_3, ln_3, tg_4, ln_4, tg_5, rf_5_0, tg_6, ln_6, tg_7, rf_7_0, tg_8, ln_8, tg_123, rf_123_0, rf_123_1, rf_123_2, rf_123_3, rf_123_4, tg_124, ln_124, tg_125, rf_125_0, tg_126, ln_126, tg_127, rf_127_0, tg_128, ln_128, tg_129, ln_129, tg_322, rf_322_0, rf_322_1, rf_322_2, rf_322_3, tg_323, ln_323, tg_324, ln_324, tg_325, rf_325_0, rf_325_1, rf_325_2, tg_326, rf_326_0, tg_327, ln_327, tg_328, rf_328_0, tg_329, ln_329, tg_330, rf_330_0, rf_330_1, rf_330_2, tg_331, rf_331_0, tg_332, ln_332, tg_333, rf_333_0, tg_334, ln_334, tg_335, ln_335, tg_336, rf_336_0, tg_337, ln_337, tg_339, ln_339, tg_346, rf_346_1, rf_346_2, rf_346_4, rf_346_5, rf_346_6, rf_346_7, rf_346_8, rf_346_11, rf_346_13, rf_346_14, rf_346_15, rf_346_17, rf_346_18, rf_346_19, rf_346_20, rf_346_21, rf_346_22, rf_346_26, rf_346_28, rf_346_29, rf_346_32, rf_346_34, rf_346_35, rf_346_36, tg_347, ln_347, tg_348, ln_348, tg_349, ln_349, tg_350, ln_350, tg_351, ln_351, tg_352, ln_352, tg_353, ln_353, tg_354, ln_354, tg_355, ln_355, tg_356, ln_356, tg_357, ln_357, tg_358, ln_358, tg_359, ln_359, tg_360, ln_360, tg_361, ln_361, tg_362, ln_362, tg_363, ln_363, tg_364, ln_364, tg_365, ln_365, tg_366, ln_366, tg_367, ln_367, tg_368, ln_368, tg_369, ln_369, tg_370, ln_370, E2, ht, E3, hj, oV]
      | none =>
        obtain ⟨I4, hx4, E4⟩ := x_mwout (xs := xs) (L := L) h2.1 mc6 hB mc 0 I3 (by omega) hx3
        refine ⟨I4, hx4, fun d Q => ?_⟩
        simp only [w157_20, w157_21, w157_75, w157_76, w157_148, w157_149, eq_self, Nat.zero_le, n_lt, n_le, n_eq, n_neg, n_cl, n_mul, n_add, z_0, z_1, z_2, sc_0, sc_i, sc_r, sc_l, sc_n, jc_n, jc_i, jc_r, jc_l, Option.toList_some, Option.toList_none, List.cons_append, List.nil_append, Nat.reduceLT, Nat.reduceLeDiff, Nat.reduceMul, Nat.reduceAdd, Nat.reduceSub, Nat.reduceEqDiff, not_false_eq_true, not_true_eq_false, false_or, or_false, true_or, or_true, false_imp_iff, true_imp_iff, and_true, true_and, forall_const, false_implies, true_implies, b_t0, b_f0, tg_1, rf_1_0, rf_1_1, rf_1_2, rf_1_3, rf_1_4, rf_1_5, rf_1_6, tg_2, rf_2_0, rf_2_1, rf_2_2, rf_2_3, tg_3, ln_3, tg_4, ln_4, tg_5, rf_5_0, tg_6, ln_6, tg_7, rf_7_0, tg_8, ln_8, tg_123, rf_123_0, rf_123_1, rf_123_2, rf_123_3, rf_123_4, tg_124, ln_124, tg_125, rf_125_0, tg_126, ln_126, tg_127, rf_127_0, tg_128, ln_128, tg_129, ln_129, tg_322, rf_322_0, rf_322_1, rf_322_2, rf_322_3, tg_323, ln_323, tg_324, ln_324, tg_325, rf_325_0, rf_325_1, rf_325_2, tg_326, rf_326_0, tg_327, ln_327, tg_328, rf_328_0, tg_329, ln_329, tg_330, rf_330_0, rf_330_1, rf_330_2, tg_331, rf_331_0, tg_332, ln_332, tg_333, rf_333_0, tg_334, ln_334, tg_335, ln_335, tg_336, rf_336_0, tg_337, ln_337, tg_339, ln_339, tg_346, rf_346_1, rf_346_2, rf_346_4, rf_346_5, rf_346_6, rf_346_7, rf_346_8, rf_346_11, rf_346_13, rf_346_14, rf_346_15, rf_346_17, rf_346_18, rf_346_19, rf_346_20, rf_346_21, rf_346_22, rf_346_26, rf_346_28, rf_346_29, rf_346_32, rf_346_34, rf_346_35, rf_346_36, tg_347, ln_347, tg_348, ln_348, tg_349, ln_349, tg_350, ln_350, tg_351, ln_351, tg_352, ln_352, tg_353, ln_353, tg_354, ln_354, tg_355, ln_355, tg_356, ln_356, tg_357, ln_357, tg_358, ln_358, tg_359, ln_359, tg_360, ln_360, tg_361, ln_361, tg_362, ln_362, tg_363, ln_363, tg_364, ln_364, tg_365, ln_365, tg_366, ln_366, tg_367, ln_367, tg_368, ln_368, tg_369, ln_369, tg_370, ln_370, E2, ht, E3, hj, E4]
        rfl
  by_cases q : sm < mc
  · simp only [q, if_true] at sb
    cases he : bEmp (mSt I sm) with
    | true =>
      simp only [he, Bool.not_true] at sb
      obtain ⟨I', hx', E⟩ := rest _ (hx0.w (g := mSt I sm))
      refine ⟨I', hx', fun d Q => ?_⟩
      have ev : hMv I mc jc sm fj tj = oV 10 (fi (TM I) mc 0) (oV 20 (fi (JM I fj tj) jc 0) (oV 40 (fi (WM I) mc 0) (nI 0))) := by
        unfold hMv; rw [he]; simp
      rw [ev, ← E d Q]
      simp only [w157_0, w157_1, w157_4, eq_self, Nat.zero_le, n_lt, n_le, n_eq, n_neg, n_cl, n_mul, n_add, z_0, z_1, z_2, sc_0, sc_i, sc_r, sc_l, sc_n, jc_n, jc_i, jc_r, jc_l, Option.toList_some, Option.toList_none, List.cons_append, List.nil_append, Nat.reduceLT, Nat.reduceLeDiff, Nat.reduceMul, Nat.reduceAdd, Nat.reduceSub, Nat.reduceEqDiff, not_false_eq_true, not_true_eq_false, false_or, or_false, true_or, or_true, false_imp_iff, true_imp_iff, and_true, true_and, forall_const, false_implies, true_implies, b_t0, b_f0, tg_1, rf_1_0, rf_1_1, rf_1_2, rf_1_3, rf_1_4, rf_1_5, rf_1_6, tg_2, rf_2_0, rf_2_1, rf_2_2, rf_2_3, tg_3, ln_3, tg_4, ln_4, tg_5, rf_5_0, tg_6, ln_6, tg_7, rf_7_0, tg_8, ln_8, tg_123, rf_123_0, rf_123_1, rf_123_2, rf_123_3, rf_123_4, tg_124, ln_124, tg_125, rf_125_0, tg_126, ln_126, tg_127, rf_127_0, tg_128, ln_128, tg_129, ln_129, tg_322, rf_322_0, rf_322_1, rf_322_2, rf_322_3, tg_323, ln_323, tg_324, ln_324, tg_325, rf_325_0, rf_325_1, rf_325_2, tg_326, rf_326_0, tg_327, ln_327, tg_328, rf_328_0, tg_329, ln_329, tg_330, rf_330_0, rf_330_1, rf_330_2, tg_331, rf_331_0, tg_332, ln_332, tg_333, rf_333_0, tg_334, ln_334, tg_335, ln_335, tg_336, rf_336_0, tg_337, ln_337, tg_339, ln_339, tg_346, rf_346_1, rf_346_2, rf_346_4, rf_346_5, rf_346_6, rf_346_7, rf_346_8, rf_346_11, rf_346_13, rf_346_14, rf_346_15, rf_346_17, rf_346_18, rf_346_19, rf_346_20, rf_346_21, rf_346_22, rf_346_26, rf_346_28, rf_346_29, rf_346_32, rf_346_34, rf_346_35, rf_346_36, tg_347, ln_347, tg_348, ln_348, tg_349, ln_349, tg_350, ln_350, tg_351, ln_351, tg_352, ln_352, tg_353, ln_353, tg_354, ln_354, tg_355, ln_355, tg_356, ln_356, tg_357, ln_357, tg_358, ln_358, tg_359, ln_359, tg_360, ln_360, tg_361, ln_361, tg_362, ln_362, tg_363, ln_363, tg_364, ln_364, tg_365, ln_365, tg_366, ln_366, tg_367, ln_367, tg_368, ln_368, tg_369, ln_369, tg_370, ln_370, sb, b2_f]
    | false =>
      simp only [he, Bool.not_false] at sb
      have hx1 : HM I (f_wb I 356 (mSt I sm)) := hx0.w
      have fe := fun (d : Nat) (Q : Option Value × jW → Prop) => sp_misFen (d := d) (Q := Q) (xs := xs) (L := L) hx1 sm6 (hB sm sm6)
      simp only [eg, he, Bool.false_or] at fe
      have e9 : f_wb I 356 (mSt I sm) 346 9 = nI sm := by rw [f_wb_ne (by omega)]; exact h3.2.2.1
      cases hc : (fenM I sm && bCov (sl I 356 (6 * sm)) (mSt I sm)) with
      | true =>
        simp only [hc] at fe
        obtain ⟨I', hx', E⟩ := rest _ hx1
        refine ⟨I', hx', fun d Q => ?_⟩
        have ev : hMv I mc jc sm fj tj = oV 10 (fi (TM I) mc 0) (oV 20 (fi (JM I fj tj) jc 0) (oV 40 (fi (WM I) mc 0) (nI 0))) := by
          unfold hMv; rw [hc]; simp
        rw [ev, ← E d Q]
        simp only [w157_0, w157_1, w157_4, w157_7, w157_8, w157_9, w157_12, w157_15, eq_self, Nat.zero_le, n_lt, n_le, n_eq, n_neg, n_cl, n_mul, n_add, z_0, z_1, z_2, sc_0, sc_i, sc_r, sc_l, sc_n, jc_n, jc_i, jc_r, jc_l, Option.toList_some, Option.toList_none, List.cons_append, List.nil_append, Nat.reduceLT, Nat.reduceLeDiff, Nat.reduceMul, Nat.reduceAdd, Nat.reduceSub, Nat.reduceEqDiff, not_false_eq_true, not_true_eq_false, false_or, or_false, true_or, or_true, false_imp_iff, true_imp_iff, and_true, true_and, forall_const, false_implies, true_implies, b_t0, b_f0, tg_1, rf_1_0, rf_1_1, rf_1_2, rf_1_3, rf_1_4, rf_1_5, rf_1_6, tg_2, rf_2_0, rf_2_1, rf_2_2, rf_2_3, tg_3, ln_3, tg_4, ln_4, tg_5, rf_5_0, tg_6, ln_6, tg_7, rf_7_0, tg_8, ln_8, tg_123, rf_123_0, rf_123_1, rf_123_2, rf_123_3, rf_123_4, tg_124, ln_124, tg_125, rf_125_0, tg_126, ln_126, tg_127, rf_127_0, tg_128, ln_128, tg_129, ln_129, tg_322, rf_322_0, rf_322_1, rf_322_2, rf_322_3, tg_323, ln_323, tg_324, ln_324, tg_325, rf_325_0, rf_325_1, rf_325_2, tg_326, rf_326_0, tg_327, ln_327, tg_328, rf_328_0, tg_329, ln_329, tg_330, rf_330_0, rf_330_1, rf_330_2, tg_331, rf_331_0, tg_332, ln_332, tg_333, rf_333_0, tg_334, ln_334, tg_335, ln_335, tg_336, rf_336_0, tg_337, ln_337, tg_339, ln_339, tg_346, rf_346_1, rf_346_2, rf_346_4, rf_346_5, rf_346_6, rf_346_7, rf_346_8, rf_346_11, rf_346_13, rf_346_14, rf_346_15, rf_346_17, rf_346_18, rf_346_19, rf_346_20, rf_346_21, rf_346_22, rf_346_26, rf_346_28, rf_346_29, rf_346_32, rf_346_34, rf_346_35, rf_346_36, tg_347, ln_347, tg_348, ln_348, tg_349, ln_349, tg_350, ln_350, tg_351, ln_351, tg_352, ln_352, tg_353, ln_353, tg_354, ln_354, tg_355, ln_355, tg_356, ln_356, tg_357, ln_357, tg_358, ln_358, tg_359, ln_359, tg_360, ln_360, tg_361, ln_361, tg_362, ln_362, tg_363, ln_363, tg_364, ln_364, tg_365, ln_365, tg_366, ln_366, tg_367, ln_367, tg_368, ln_368, tg_369, ln_369, tg_370, ln_370, sb, b2_t, e9, fe]
      | false =>
        simp only [hc] at fe
        refine ⟨_, hx1, fun d Q => ?_⟩
        have ev : hMv I mc jc sm fj tj = nI 1 := by
          unfold hMv; rw [hc, he]; simp [q]
        rw [ev]
        simp only [w157_0, w157_1, w157_4, w157_7, w157_8, w157_9, w157_12, w157_15, w157_18, w157_19, eq_self, Nat.zero_le, n_lt, n_le, n_eq, n_neg, n_cl, n_mul, n_add, z_0, z_1, z_2, sc_0, sc_i, sc_r, sc_l, sc_n, jc_n, jc_i, jc_r, jc_l, Option.toList_some, Option.toList_none, List.cons_append, List.nil_append, Nat.reduceLT, Nat.reduceLeDiff, Nat.reduceMul, Nat.reduceAdd, Nat.reduceSub, Nat.reduceEqDiff, not_false_eq_true, not_true_eq_false, false_or, or_false, true_or, or_true, false_imp_iff, true_imp_iff, and_true, true_and, forall_const, false_implies, true_implies, b_t0, b_f0, tg_1, rf_1_0, rf_1_1, rf_1_2, rf_1_3, rf_1_4, rf_1_5, rf_1_6, tg_2, rf_2_0, rf_2_1, rf_2_2, rf_2_3, tg_3, ln_3, tg_4, ln_4, tg_5, rf_5_0, tg_6, ln_6, tg_7, rf_7_0, tg_8, ln_8, tg_123, rf_123_0, rf_123_1, rf_123_2, rf_123_3, rf_123_4, tg_124, ln_124, tg_125, rf_125_0, tg_126, ln_126, tg_127, rf_127_0, tg_128, ln_128, tg_129, ln_129, tg_322, rf_322_0, rf_322_1, rf_322_2, rf_322_3, tg_323, ln_323, tg_324, ln_324, tg_325, rf_325_0, rf_325_1, rf_325_2, tg_326, rf_326_0, tg_327, ln_327, tg_328, rf_328_0, tg_329, ln_329, tg_330, rf_330_0, rf_330_1, rf_330_2, tg_331, rf_331_0, tg_332, ln_332, tg_333, rf_333_0, tg_334, ln_334, tg_335, ln_335, tg_336, rf_336_0, tg_337, ln_337, tg_339, ln_339, tg_346, rf_346_1, rf_346_2, rf_346_4, rf_346_5, rf_346_6, rf_346_7, rf_346_8, rf_346_11, rf_346_13, rf_346_14, rf_346_15, rf_346_17, rf_346_18, rf_346_19, rf_346_20, rf_346_21, rf_346_22, rf_346_26, rf_346_28, rf_346_29, rf_346_32, rf_346_34, rf_346_35, rf_346_36, tg_347, ln_347, tg_348, ln_348, tg_349, ln_349, tg_350, ln_350, tg_351, ln_351, tg_352, ln_352, tg_353, ln_353, tg_354, ln_354, tg_355, ln_355, tg_356, ln_356, tg_357, ln_357, tg_358, ln_358, tg_359, ln_359, tg_360, ln_360, tg_361, ln_361, tg_362, ln_362, tg_363, ln_363, tg_364, ln_364, tg_365, ln_365, tg_366, ln_366, tg_367, ln_367, tg_368, ln_368, tg_369, ln_369, tg_370, ln_370, sb, b2_t, b2_f, e9, fe]
  · simp only [q, if_false] at sb
    obtain ⟨I', hx', E⟩ := rest _ (hx0.w (g := I 354))
    refine ⟨I', hx', fun d Q => ?_⟩
    have ev : hMv I mc jc sm fj tj = oV 10 (fi (TM I) mc 0) (oV 20 (fi (JM I fj tj) jc 0) (oV 40 (fi (WM I) mc 0) (nI 0))) := by
      unfold hMv; simp [q]
    rw [ev, ← E d Q]
    simp only [w157_0, w157_1, w157_4, eq_self, Nat.zero_le, n_lt, n_le, n_eq, n_neg, n_cl, n_mul, n_add, z_0, z_1, z_2, sc_0, sc_i, sc_r, sc_l, sc_n, jc_n, jc_i, jc_r, jc_l, Option.toList_some, Option.toList_none, List.cons_append, List.nil_append, Nat.reduceLT, Nat.reduceLeDiff, Nat.reduceMul, Nat.reduceAdd, Nat.reduceSub, Nat.reduceEqDiff, not_false_eq_true, not_true_eq_false, false_or, or_false, true_or, or_true, false_imp_iff, true_imp_iff, and_true, true_and, forall_const, false_implies, true_implies, b_t0, b_f0, tg_1, rf_1_0, rf_1_1, rf_1_2, rf_1_3, rf_1_4, rf_1_5, rf_1_6, tg_2, rf_2_0, rf_2_1, rf_2_2, rf_2_3, tg_3, ln_3, tg_4, ln_4, tg_5, rf_5_0, tg_6, ln_6, tg_7, rf_7_0, tg_8, ln_8, tg_123, rf_123_0, rf_123_1, rf_123_2, rf_123_3, rf_123_4, tg_124, ln_124, tg_125, rf_125_0, tg_126, ln_126, tg_127, rf_127_0, tg_128, ln_128, tg_129, ln_129, tg_322, rf_322_0, rf_322_1, rf_322_2, rf_322_3, tg_323, ln_323, tg_324, ln_324, tg_325, rf_325_0, rf_325_1, rf_325_2, tg_326, rf_326_0, tg_327, ln_327, tg_328, rf_328_0, tg_329, ln_329, tg_330, rf_330_0, rf_330_1, rf_330_2, tg_331, rf_331_0, tg_332, ln_332, tg_333, rf_333_0, tg_334, ln_334, tg_335, ln_335, tg_336, rf_336_0, tg_337, ln_337, tg_339, ln_339, tg_346, rf_346_1, rf_346_2, rf_346_4, rf_346_5, rf_346_6, rf_346_7, rf_346_8, rf_346_11, rf_346_13, rf_346_14, rf_346_15, rf_346_17, rf_346_18, rf_346_19, rf_346_20, rf_346_21, rf_346_22, rf_346_26, rf_346_28, rf_346_29, rf_346_32, rf_346_34, rf_346_35, rf_346_36, tg_347, ln_347, tg_348, ln_348, tg_349, ln_349, tg_350, ln_350, tg_351, ln_351, tg_352, ln_352, tg_353, ln_353, tg_354, ln_354, tg_355, ln_355, tg_356, ln_356, tg_357, ln_357, tg_358, ln_358, tg_359, ln_359, tg_360, ln_360, tg_361, ln_361, tg_362, ln_362, tg_363, ln_363, tg_364, ln_364, tg_365, ln_365, tg_366, ln_366, tg_367, ln_367, tg_368, ln_368, tg_369, ln_369, tg_370, ln_370, sb, b2_f]
theorem HX.FR {I0 I : fI} (h : HX I0 I) : FR I0 I := ⟨fun o ho => h o (by omega) (by omega), by rw [h 123 (by omega) (by omega)], fun k _ _ _ _ _ => by rw [h 346 (by omega) (by omega)]⟩
theorem HM.FR {I0 I : fI} (h : HM I0 I) : FR I0 I := ⟨fun o ho => h o (by omega), by rw [h 123 (by omega)], fun k _ _ _ _ _ => by rw [h 346 (by omega)]⟩
theorem same_holds (hR : Rel I) : Same xs I L 80 [some (.ref 1)] 157 [some (.ref 346), none] := by
  obtain ⟨mc, jc, lim, sm, fj, tj, hh, f⟩ := hR
  obtain ⟨I1, hx1, E1⟩ := x_breach (xs := xs) (L := L) hh
  have h1 := RD_fr hh hx1.FR
  have f1 := RF_fr hh f (fun o ho _ _ => hx1 o (by omega) (by omega))
  obtain ⟨I2, hx2, E2⟩ := x_mholds (xs := xs) (L := L) h1
  refine ⟨hXv I mc jc sm fj tj, I1, I2, L, fun d Q => ?_, fun d Q => ?_, mc, jc, lim, sm, fj, tj, RD_fr h1 hx2.FR, RF_fr h1 f1 (fun o ho _ _ => hx2 o (by omega))⟩
  · simp only [w80_0, w80_1, w80_4, w80_7, eq_self, Nat.zero_le, n_lt, n_le, n_eq, n_neg, n_cl, n_mul, n_add, z_0, z_1, z_2, sc_0, sc_i, sc_r, sc_l, sc_n, jc_n, jc_i, jc_r, jc_l, Option.toList_some, Option.toList_none, List.cons_append, List.nil_append, Nat.reduceLT, Nat.reduceLeDiff, Nat.reduceMul, Nat.reduceAdd, Nat.reduceSub, Nat.reduceEqDiff, not_false_eq_true, not_true_eq_false, false_or, or_false, true_or, or_true, false_imp_iff, true_imp_iff, and_true, true_and, forall_const, false_implies, true_implies, b_t0, b_f0, tg_1, rf_1_0, rf_1_1, rf_1_2, rf_1_3, rf_1_4, rf_1_5, rf_1_6, tg_2, rf_2_0, rf_2_1, rf_2_2, rf_2_3, tg_3, ln_3, tg_4, ln_4, tg_5, rf_5_0, tg_6, ln_6, tg_7, rf_7_0, tg_8, ln_8, tg_123, rf_123_0, rf_123_1, rf_123_2, rf_123_3, rf_123_4, tg_124, ln_124, tg_125, rf_125_0, tg_126, ln_126, tg_127, rf_127_0, tg_128, ln_128, tg_129, ln_129, tg_322, rf_322_0, rf_322_1, rf_322_2, rf_322_3, tg_323, ln_323, tg_324, ln_324, tg_325, rf_325_0, rf_325_1, rf_325_2, tg_326, rf_326_0, tg_327, ln_327, tg_328, rf_328_0, tg_329, ln_329, tg_330, rf_330_0, rf_330_1, rf_330_2, tg_331, rf_331_0, tg_332, ln_332, tg_333, rf_333_0, tg_334, ln_334, tg_335, ln_335, tg_336, rf_336_0, tg_337, ln_337, tg_339, ln_339, tg_346, rf_346_1, rf_346_2, rf_346_4, rf_346_5, rf_346_6, rf_346_7, rf_346_8, rf_346_11, rf_346_13, rf_346_14, rf_346_15, rf_346_17, rf_346_18, rf_346_19, rf_346_20, rf_346_21, rf_346_22, rf_346_26, rf_346_28, rf_346_29, rf_346_32, rf_346_34, rf_346_35, rf_346_36, tg_347, ln_347, tg_348, ln_348, tg_349, ln_349, tg_350, ln_350, tg_351, ln_351, tg_352, ln_352, tg_353, ln_353, tg_354, ln_354, tg_355, ln_355, tg_356, ln_356, tg_357, ln_357, tg_358, ln_358, tg_359, ln_359, tg_360, ln_360, tg_361, ln_361, tg_362, ln_362, tg_363, ln_363, tg_364, ln_364, tg_365, ln_365, tg_366, ln_366, tg_367, ln_367, tg_368, ln_368, tg_369, ln_369, tg_370, ln_370, E1]
  · rw [hv_eq h1 hx1.lo, E2]
end SHOLD
