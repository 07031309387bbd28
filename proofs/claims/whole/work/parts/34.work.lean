/-! WORK: a heap by a tick, then by each jump -/
def jst (lim m h : Nat) (fj tj : Nat → Nat) (R1 R3 : Nat → Nat → Int32) (j : Nat) (s : gS) : gS :=
  if s.2.2.2 = true then s else if fj j = m ∧ bEmp (R1 j) = false ∧ bEmp (R3 j) = false then tk lim s (tj j) (R3 j) (nI h) (nI (1 + j)) else s
def wj (lim m h : Nat) (fj tj : Nat → Nat) (R1 R3 : Nat → Nat → Int32) : Nat → Nat → gS → gS
  | 0, _, s => s
  | k + 1, j, s => wj lim m h fj tj R1 R3 k (j + 1) (jst lim m h fj tj R1 R3 j s)
theorem wj_spent {lim m h : Nat} {fj tj : Nat → Nat} {R1 R3 : Nat → Nat → Int32} {s : gS} (hs : s.2.2.2 = true) : ∀ k j, wj lim m h fj tj R1 R3 k j s = s := by
  intro k
  induction k with
  | zero => intro j; rfl
  | succ k ih =>
    intro j
    unfold wj jst
    rw [if_pos hs]
    exact ih (j + 1)
def wk (lim jc : Nat) (fj tj : Nat → Nat) (T : Nat → (Nat → Int32) → Nat → Int32) (R1 R3 : Nat → (Nat → Int32) → Nat → Int32) (s : gS) (h : Nat) : gS :=
  let e := s.2.1 h
  let s1 : gS := (s.1, gupd s.2.1 h (e.1, e.2.1, e.2.2.1, e.2.2.2.1, true, e.2.2.2.2.2), s.2.2.1 + 1, s.2.2.2)
  wj lim e.1 h fj tj (fun j => R1 j e.2.1) (fun j => R3 j e.2.1) jc 0 (if bEmp (T e.1 e.2.1) = true then s1 else tk lim s1 e.1 (T e.1 e.2.1) (nI h) (nI 0))
/-- what the machine is told -/
def MI (I : fI) (mc jc : Nat) (fj tj : Nat → Nat) (lim : Nat) : Prop := I 2 4 = nI mc ∧ mc ≤ 6 ∧ I 2 5 = nI jc ∧ jc ≤ 12 ∧ (∀ j, j < jc → I (51 + 6 * j) 3 = nI (fj j) ∧ I (51 + 6 * j) 4 = nI (tj j) ∧ fj j < 6 ∧ tj j < 6 ∧ ∀ k, k < 3 → isB (I (56 + 6 * j) k)) ∧ I 123 5 = nI lim ∧ 1 ≤ lim ∧ lim ≤ 12
def SW (I I' : fI) : Prop := (∀ o, (o < 123 ∨ 322 ≤ o) → I' o = I o) ∧ ∀ k, k < 6 ∨ k = 9 → I' 123 k = I 123 k
theorem SW.rf {I : fI} : SW I I := ⟨fun _ _ => rfl, fun _ _ => rfl⟩
theorem SW.tr {I I' I'' : fI} (h1 : SW I I') (h2 : SW I' I'') : SW I I'' := ⟨fun o ho => (h2.1 o ho).trans (h1.1 o ho), fun k hk => (h2.2 k hk).trans (h1.2 k hk)⟩
theorem SX.SW {I I' : fI} (h : SX I I') : SW I I' := ⟨fun o ho => h.1 o (by omega), h.2⟩
theorem SW_next {I : fI} {g : Nat → Int32} : SW I (f_wb I 127 g) := ⟨fun o ho => f_wb_ne (by omega), fun k _ => by simp [f_wb_at]⟩
theorem MI.sw {I I' : fI} {mc jc lim : Nat} {fj tj : Nat → Nat} (h : MI I mc jc fj tj lim) (hs : SW I I') : MI I' mc jc fj tj lim := by
  obtain ⟨h1, h2, h3, h4, h5, h6, h7⟩ := h
  refine ⟨by rw [hs.1 2 (by omega)]; exact h1, h2, by rw [hs.1 2 (by omega)]; exact h3, h4, fun j hj => ?_, by rw [hs.2 5 (by omega)]; exact h6, h7⟩
  rw [hs.1 (51 + 6 * j) (by omega), hs.1 (56 + 6 * j) (by omega)]
  exact h5 j hj
theorem RX_next {I : fI} {s : gS} {g : Nat → Int32} (R : RX I s) : RX (f_wb I 127 g) s := by
  obtain ⟨r1, r2, r3, r4, r5, r6⟩ := R
  refine ⟨r1, by simpa [f_wb_at] using r2, r3, by simpa [f_wb_at] using r4, by simpa [f_wb_at] using r5, fun h hh => ?_⟩
  have h0 := r6 h hh
  have q1 : ¬ 130 + 3 * h = 128 := by omega
  have q2 : ¬ 132 + 3 * h = 128 := by omega
  unfold RH at h0 ⊢
  simpa [f_wb_at, q1, q2] using h0
theorem rFl_sw {I I' : fI} (hs : SW I I') {m : Nat} (hm : m < 6) (f : Nat → Int32) : rFl I' m f = rFl I m f := by
  unfold rFl
  rw [hs.1 (13 + 7 * m) (by omega), hs.1 (11 + 7 * m) (by omega)]
theorem rS1_sw {I I' : fI} (hs : SW I I') {j : Nat} (hj : j < 12) (f : Nat → Int32) : rS1 I' j f = rS1 I j f := by
  unfold rS1
  rw [hs.1 (53 + 6 * j) (by omega)]
theorem rS3_sw {I I' : fI} (hs : SW I I') {j t : Nat} (hj : j < 12) (ht : t < 6) (f : Nat → Int32) : rS3 I' j t f = rS3 I j t f := by
  unfold rS3 bSet
  rw [rS1_sw hs hj, hs.1 (11 + 7 * t) (by omega), hs.1 (56 + 6 * j) (by omega), hs.1 (55 + 6 * j) (by omega)]
section WKS
variable {xs : List Value} {L : fL} {mc jc lim : Nat} {fj tj : Nat → Nat} {I0 : fI}
theorem x_wkloop (hM : MI I0 mc jc fj tj lim) (hT : ∀ j, j < jc → tj j < mc) {h m : Nat} (hh : h < 64) (hm : m < 6) {fb : Nat → Int32} {a2 : Nat} : ∀ (k j : Nat) (s : gS) (I : fI) (a4 : Option Value), j + k = jc → RX I s → SW I0 I → I 126 = fb → ∃ I', RX I' (wj lim m h fj tj (fun j => rS1 I0 j fb) (fun j => rS3 I0 j (tj j) fb) k j s) ∧ SW I0 I' ∧ ∀ (d : Nat) (Q : Option Value × jW → Prop), Wp (d + 3) 41 66 [some (.ref 123), some (.int (nI h)), some (.ref a2), some (.int (nI m)), some (.int (nI j)), a4] [] (f_W xs I L) Q = Q (none, f_W xs I' L) := by
  intro k
  induction k with
  | zero =>
    intro j s I a4 hj R hS hf
    obtain ⟨h1, h2, h3, h4, h5, h6, h7, h8⟩ := hM.sw hS
    have s1 : jc < 2147483648 := by omega
    have hj : j = jc := by omega
    subst hj
    refine ⟨I, R, hS, fun d Q => ?_⟩
    rw [w41_66]
    simp only [w41_0, w41_1, w41_2, w41_5, w41_6, w41_7, w41_10, w41_11, w41_12, w41_12r, w41_13, w41_16, w41_17, w41_18, w41_21, w41_22, w41_23, w41_26, w41_27, w41_30, w41_31, w41_34, w41_37, w41_38, w41_41, w41_42, w41_43, w41_46, w41_47, w41_50, w41_53, w41_56, w41_57, w41_58, w41_59, w41_60, w41_63, w41_64, w41_68, w41_69, w41_72, w41_75, w41_78, w41_79, w41_82, w41_85, w41_86, w41_89, w41_92, w41_94, w41_95, w41_97, w41_99, w41_102, w41_103, w41_106, w41_107, w41_110, w41_112, w41_113, w41_116, w41_117, w41_120, w41_123, w41_126, w41_127, w41_129, w41_132, w41_133, w41_134, w41_136, w41_137, w41_140, w41_143, w41_146, eq_self, Nat.zero_le, n_lt, n_le, n_eq, n_neg, n_cl, n_mul, n_add, z_0, z_1, z_2, sc_0, sc_i, sc_r, sc_l, sc_n, jc_n, jc_i, jc_r, jc_l, Option.toList_some, Option.toList_none, List.cons_append, List.nil_append, Nat.reduceLT, Nat.reduceLeDiff, Nat.reduceMul, Nat.reduceAdd, Nat.reduceSub, Nat.reduceEqDiff, not_false_eq_true, not_true_eq_false, false_or, or_false, true_or, or_true, false_imp_iff, true_imp_iff, and_true, true_and, forall_const, false_implies, true_implies, b_t0, b_f0, tg_1, rf_1_0, rf_1_1, rf_1_2, rf_1_3, rf_1_4, rf_1_5, rf_1_6, tg_2, rf_2_0, rf_2_1, rf_2_2, rf_2_3, tg_3, ln_3, tg_4, ln_4, tg_5, rf_5_0, tg_6, ln_6, tg_7, rf_7_0, tg_8, ln_8, tg_123, rf_123_0, rf_123_1, rf_123_2, rf_123_3, rf_123_4, tg_124, ln_124, tg_125, rf_125_0, tg_126, ln_126, tg_127, rf_127_0, tg_128, ln_128, tg_129, ln_129, tg_322, rf_322_0, rf_322_1, rf_322_2, rf_322_3, tg_323, ln_323, tg_324, ln_324, tg_325, rf_325_0, rf_325_1, rf_325_2, tg_326, rf_326_0, tg_327, ln_327, tg_328, rf_328_0, tg_329, ln_329, tg_330, rf_330_0, rf_330_1, rf_330_2, tg_331, rf_331_0, tg_332, ln_332, tg_333, rf_333_0, tg_334, ln_334, tg_335, ln_335, tg_336, rf_336_0, tg_337, ln_337, tg_339, ln_339, tg_346, rf_346_1, rf_346_2, rf_346_4, rf_346_5, rf_346_6, rf_346_7, rf_346_8, rf_346_11, rf_346_13, rf_346_14, rf_346_15, rf_346_17, rf_346_18, rf_346_19, rf_346_20, rf_346_21, rf_346_22, rf_346_26, rf_346_28, rf_346_29, rf_346_32, rf_346_34, rf_346_35, rf_346_36, tg_347, ln_347, tg_348, ln_348, tg_349, ln_349, tg_350, ln_350, tg_351, ln_351, tg_352, ln_352, tg_353, ln_353, tg_354, ln_354, tg_355, ln_355, tg_356, ln_356, tg_357, ln_357, tg_358, ln_358, tg_359, ln_359, tg_360, ln_360, tg_361, ln_361, tg_362, ln_362, tg_363, ln_363, tg_364, ln_364, tg_365, ln_365, tg_366, ln_366, tg_367, ln_367, tg_368, ln_368, tg_369, ln_369, tg_370, ln_370, h3, n_le s1 s1, Nat.le_refl]
  | succ k ih =>
    intro j s I a4 hj R hS hf
    obtain ⟨h1, h2, h3, h4, h5, h6, h7, h8⟩ := id (hM.sw hS)
    have hjj : j < jc := by omega
    have hj12 : j < 12 := by omega
    obtain ⟨g1, g2, g3, g4, g5⟩ := h5 j hjj
    obtain ⟨l1, l2, l3, l4, l5, l6, l7⟩ := lay_J j hj12
    have s1 : jc < 2147483648 := by omega
    have s2 : j < 2147483648 := by omega
    have s3 : ¬ jc ≤ j := by omega
    have s4 : ¬ 12 ≤ j := by omega
    have s5 : fj j < 2147483648 := by omega
    have s6 : m < 2147483648 := by omega
    have s7 : tj j < 2147483648 := by omega
    have r5 := R.2.2.2.2.1
    cases hsp : s.2.2.2 with
    | true =>
      refine ⟨I, by rw [wj_spent hsp]; exact R, hS, fun d Q => ?_⟩
      rw [hsp] at r5
      rw [w41_66]
      simp only [w41_0, w41_1, w41_2, w41_5, w41_6, w41_7, w41_10, w41_11, w41_12, w41_12r, w41_13, w41_16, w41_17, w41_18, w41_21, w41_22, w41_23, w41_26, w41_27, w41_30, w41_31, w41_34, w41_37, w41_38, w41_41, w41_42, w41_43, w41_46, w41_47, w41_50, w41_53, w41_56, w41_57, w41_58, w41_59, w41_60, w41_63, w41_64, w41_68, w41_69, w41_72, w41_75, w41_78, w41_79, w41_82, w41_85, w41_86, w41_89, w41_92, w41_94, w41_95, w41_97, w41_99, w41_102, w41_103, w41_106, w41_107, w41_110, w41_112, w41_113, w41_116, w41_117, w41_120, w41_123, w41_126, w41_127, w41_129, w41_132, w41_133, w41_134, w41_136, w41_137, w41_140, w41_143, w41_146, eq_self, Nat.zero_le, n_lt, n_le, n_eq, n_neg, n_cl, n_mul, n_add, z_0, z_1, z_2, sc_0, sc_i, sc_r, sc_l, sc_n, jc_n, jc_i, jc_r, jc_l, Option.toList_some, Option.toList_none, List.cons_append, List.nil_append, Nat.reduceLT, Nat.reduceLeDiff, Nat.reduceMul, Nat.reduceAdd, Nat.reduceSub, Nat.reduceEqDiff, not_false_eq_true, not_true_eq_false, false_or, or_false, true_or, or_true, false_imp_iff, true_imp_iff, and_true, true_and, forall_const, false_implies, true_implies, b_t0, b_f0, tg_1, rf_1_0, rf_1_1, rf_1_2, rf_1_3, rf_1_4, rf_1_5, rf_1_6, tg_2, rf_2_0, rf_2_1, rf_2_2, rf_2_3, tg_3, ln_3, tg_4, ln_4, tg_5, rf_5_0, tg_6, ln_6, tg_7, rf_7_0, tg_8, ln_8, tg_123, rf_123_0, rf_123_1, rf_123_2, rf_123_3, rf_123_4, tg_124, ln_124, tg_125, rf_125_0, tg_126, ln_126, tg_127, rf_127_0, tg_128, ln_128, tg_129, ln_129, tg_322, rf_322_0, rf_322_1, rf_322_2, rf_322_3, tg_323, ln_323, tg_324, ln_324, tg_325, rf_325_0, rf_325_1, rf_325_2, tg_326, rf_326_0, tg_327, ln_327, tg_328, rf_328_0, tg_329, ln_329, tg_330, rf_330_0, rf_330_1, rf_330_2, tg_331, rf_331_0, tg_332, ln_332, tg_333, rf_333_0, tg_334, ln_334, tg_335, ln_335, tg_336, rf_336_0, tg_337, ln_337, tg_339, ln_339, tg_346, rf_346_1, rf_346_2, rf_346_4, rf_346_5, rf_346_6, rf_346_7, rf_346_8, rf_346_11, rf_346_13, rf_346_14, rf_346_15, rf_346_17, rf_346_18, rf_346_19, rf_346_20, rf_346_21, rf_346_22, rf_346_26, rf_346_28, rf_346_29, rf_346_32, rf_346_34, rf_346_35, rf_346_36, tg_347, ln_347, tg_348, ln_348, tg_349, ln_349, tg_350, ln_350, tg_351, ln_351, tg_352, ln_352, tg_353, ln_353, tg_354, ln_354, tg_355, ln_355, tg_356, ln_356, tg_357, ln_357, tg_358, ln_358, tg_359, ln_359, tg_360, ln_360, tg_361, ln_361, tg_362, ln_362, tg_363, ln_363, tg_364, ln_364, tg_365, ln_365, tg_366, ln_366, tg_367, ln_367, tg_368, ln_368, tg_369, ln_369, tg_370, ln_370, h3, n_le s1 s2, s3, r5, Bool.true_eq_false]
    | false =>
      rw [hsp] at r5
      have hns : ¬ s.2.2.2 = true := by rw [hsp]; decide
      by_cases q : fj j = m
      · have e1 : rS1 I j (I (125 + 1)) = rS1 I0 j fb := by rw [rS1_sw hS hj12]; show rS1 I0 j (I 126) = _; rw [hf]
        have e3 : rS3 I j (tj j) (I (125 + 1)) = rS3 I0 j (tj j) fb := by rw [rS3_sw hS hj12 g4]; show rS3 I0 j (tj j) (I 126) = _; rw [hf]
        have n1 : (125 : Nat) ≠ 127 := by omega
        have hc2 : (121 : Nat) < 127 := by omega
        cases hE1 : bEmp (rS1 I0 j fb) with
        | true =>
          obtain ⟨I', R', S', E'⟩ := ih (j + 1) s (f_wb I 127 (rS1 I0 j fb)) (some (.ref (51 + 6 * j))) (by omega) (RX_next R) (hS.tr SW_next) (by rw [f_wb_ne (by omega)]; exact hf)
          refine ⟨I', ?_, S', fun d Q => ?_⟩
          · unfold wj jst
            rw [if_neg hns, if_neg (by rw [hE1]; simp)]
            exact R'
          · rw [w41_66]
            simp only [w41_0, w41_1, w41_2, w41_5, w41_6, w41_7, w41_10, w41_11, w41_12, w41_12r, w41_13, w41_16, w41_17, w41_18, w41_21, w41_22, w41_23, w41_26, w41_27, w41_30, w41_31, w41_34, w41_37, w41_38, w41_41, w41_42, w41_43, w41_46, w41_47, w41_50, w41_53, w41_56, w41_57, w41_58, w41_59, w41_60, w41_63, w41_64, w41_68, w41_69, w41_72, w41_75, w41_78, w41_79, w41_82, w41_85, w41_86, w41_89, w41_92, w41_94, w41_95, w41_97, w41_99, w41_102, w41_103, w41_106, w41_107, w41_110, w41_112, w41_113, w41_116, w41_117, w41_120, w41_123, w41_126, w41_127, w41_129, w41_132, w41_133, w41_134, w41_136, w41_137, w41_140, w41_143, w41_146, eq_self, Nat.zero_le, n_lt, n_le, n_eq, n_neg, n_cl, n_mul, n_add, z_0, z_1, z_2, sc_0, sc_i, sc_r, sc_l, sc_n, jc_n, jc_i, jc_r, jc_l, Option.toList_some, Option.toList_none, List.cons_append, List.nil_append, Nat.reduceLT, Nat.reduceLeDiff, Nat.reduceMul, Nat.reduceAdd, Nat.reduceSub, Nat.reduceEqDiff, not_false_eq_true, not_true_eq_false, false_or, or_false, true_or, or_true, false_imp_iff, true_imp_iff, and_true, true_and, forall_const, false_implies, true_implies, b_t0, b_f0, tg_1, rf_1_0, rf_1_1, rf_1_2, rf_1_3, rf_1_4, rf_1_5, rf_1_6, tg_2, rf_2_0, rf_2_1, rf_2_2, rf_2_3, tg_3, ln_3, tg_4, ln_4, tg_5, rf_5_0, tg_6, ln_6, tg_7, rf_7_0, tg_8, ln_8, tg_123, rf_123_0, rf_123_1, rf_123_2, rf_123_3, rf_123_4, tg_124, ln_124, tg_125, rf_125_0, tg_126, ln_126, tg_127, rf_127_0, tg_128, ln_128, tg_129, ln_129, tg_322, rf_322_0, rf_322_1, rf_322_2, rf_322_3, tg_323, ln_323, tg_324, ln_324, tg_325, rf_325_0, rf_325_1, rf_325_2, tg_326, rf_326_0, tg_327, ln_327, tg_328, rf_328_0, tg_329, ln_329, tg_330, rf_330_0, rf_330_1, rf_330_2, tg_331, rf_331_0, tg_332, ln_332, tg_333, rf_333_0, tg_334, ln_334, tg_335, ln_335, tg_336, rf_336_0, tg_337, ln_337, tg_339, ln_339, tg_346, rf_346_1, rf_346_2, rf_346_4, rf_346_5, rf_346_6, rf_346_7, rf_346_8, rf_346_11, rf_346_13, rf_346_14, rf_346_15, rf_346_17, rf_346_18, rf_346_19, rf_346_20, rf_346_21, rf_346_22, rf_346_26, rf_346_28, rf_346_29, rf_346_32, rf_346_34, rf_346_35, rf_346_36, tg_347, ln_347, tg_348, ln_348, tg_349, ln_349, tg_350, ln_350, tg_351, ln_351, tg_352, ln_352, tg_353, ln_353, tg_354, ln_354, tg_355, ln_355, tg_356, ln_356, tg_357, ln_357, tg_358, ln_358, tg_359, ln_359, tg_360, ln_360, tg_361, ln_361, tg_362, ln_362, tg_363, ln_363, tg_364, ln_364, tg_365, ln_365, tg_366, ln_366, tg_367, ln_367, tg_368, ln_368, tg_369, ln_369, tg_370, ln_370, h3, n_le s1 s2, s3, r5, Bool.false_eq_true, l1, l2, n_cl s2, n_neg s2, s4, g1, n_eq s5 s6, q, sp_spring hj12 h1 h2 g2 (hT j hjj) g5 bx_125 bx_127 hc2 n1, e1, hE1, if_true, b2_f]
            exact E' d Q
        | false =>
          cases hE3 : bEmp (rS3 I0 j (tj j) fb) with
          | true =>
            obtain ⟨I', R', S', E'⟩ := ih (j + 1) s (f_wb I 127 (rS3 I0 j (tj j) fb)) (some (.ref (51 + 6 * j))) (by omega) (RX_next R) (hS.tr SW_next) (by rw [f_wb_ne (by omega)]; exact hf)
            refine ⟨I', ?_, S', fun d Q => ?_⟩
            · unfold wj jst
              rw [if_neg hns, if_neg (by rw [hE3]; simp)]
              exact R'
            · rw [w41_66]
              simp only [w41_0, w41_1, w41_2, w41_5, w41_6, w41_7, w41_10, w41_11, w41_12, w41_12r, w41_13, w41_16, w41_17, w41_18, w41_21, w41_22, w41_23, w41_26, w41_27, w41_30, w41_31, w41_34, w41_37, w41_38, w41_41, w41_42, w41_43, w41_46, w41_47, w41_50, w41_53, w41_56, w41_57, w41_58, w41_59, w41_60, w41_63, w41_64, w41_68, w41_69, w41_72, w41_75, w41_78, w41_79, w41_82, w41_85, w41_86, w41_89, w41_92, w41_94, w41_95, w41_97, w41_99, w41_102, w41_103, w41_106, w41_107, w41_110, w41_112, w41_113, w41_116, w41_117, w41_120, w41_123, w41_126, w41_127, w41_129, w41_132, w41_133, w41_134, w41_136, w41_137, w41_140, w41_143, w41_146, eq_self, Nat.zero_le, n_lt, n_le, n_eq, n_neg, n_cl, n_mul, n_add, z_0, z_1, z_2, sc_0, sc_i, sc_r, sc_l, sc_n, jc_n, jc_i, jc_r, jc_l, Option.toList_some, Option.toList_none, List.cons_append, List.nil_append, Nat.reduceLT, Nat.reduceLeDiff, Nat.reduceMul, Nat.reduceAdd, Nat.reduceSub, Nat.reduceEqDiff, not_false_eq_true, not_true_eq_false, false_or, or_false, true_or, or_true, false_imp_iff, true_imp_iff, and_true, true_and, forall_const, false_implies, true_implies, b_t0, b_f0, tg_1, rf_1_0, rf_1_1, rf_1_2, rf_1_3, rf_1_4, rf_1_5, rf_1_6, tg_2, rf_2_0, rf_2_1, rf_2_2, rf_2_3, tg_3, ln_3, tg_4, ln_4, tg_5, rf_5_0, tg_6, ln_6, tg_7, rf_7_0, tg_8, ln_8, tg_123, rf_123_0, rf_123_1, rf_123_2, rf_123_3, rf_123_4, tg_124, ln_124, tg_125, rf_125_0, tg_126, ln_126, tg_127, rf_127_0, tg_128, ln_128, tg_129, ln_129, tg_322, rf_322_0, rf_322_1, rf_322_2, rf_322_3, tg_323, ln_323, tg_324, ln_324, tg_325, rf_325_0, rf_325_1, rf_325_2, tg_326, rf_326_0, tg_327, ln_327, tg_328, rf_328_0, tg_329, ln_329, tg_330, rf_330_0, rf_330_1, rf_330_2, tg_331, rf_331_0, tg_332, ln_332, tg_333, rf_333_0, tg_334, ln_334, tg_335, ln_335, tg_336, rf_336_0, tg_337, ln_337, tg_339, ln_339, tg_346, rf_346_1, rf_346_2, rf_346_4, rf_346_5, rf_346_6, rf_346_7, rf_346_8, rf_346_11, rf_346_13, rf_346_14, rf_346_15, rf_346_17, rf_346_18, rf_346_19, rf_346_20, rf_346_21, rf_346_22, rf_346_26, rf_346_28, rf_346_29, rf_346_32, rf_346_34, rf_346_35, rf_346_36, tg_347, ln_347, tg_348, ln_348, tg_349, ln_349, tg_350, ln_350, tg_351, ln_351, tg_352, ln_352, tg_353, ln_353, tg_354, ln_354, tg_355, ln_355, tg_356, ln_356, tg_357, ln_357, tg_358, ln_358, tg_359, ln_359, tg_360, ln_360, tg_361, ln_361, tg_362, ln_362, tg_363, ln_363, tg_364, ln_364, tg_365, ln_365, tg_366, ln_366, tg_367, ln_367, tg_368, ln_368, tg_369, ln_369, tg_370, ln_370, h3, n_le s1 s2, s3, r5, Bool.false_eq_true, l1, l2, n_cl s2, n_neg s2, s4, g1, n_eq s5 s6, q, sp_spring hj12 h1 h2 g2 (hT j hjj) g5 bx_125 bx_127 hc2 n1, e1, e3, hE1, hE3, if_false, Bool.not_true, b2_f]
              exact E' d Q
          | false =>
            have hSn : SW I0 (f_wb I 127 (rS3 I0 j (tj j) fb)) := hS.tr SW_next
            obtain ⟨I2, R2, S2, E2⟩ := x_take (xs := xs) (L := L) (lim := lim) (m := tj j) (o := nI h) (h := nI (1 + j)) (RX_next (g := rS3 I0 j (tj j) fb) R) g4 (by rw [SW_next.2 5 (by omega)]; exact h6) h7 h8
            rw [show f_wb I 127 (rS3 I0 j (tj j) fb) 128 = rS3 I0 j (tj j) fb from f_wb_eq (b := 127)] at R2
            obtain ⟨I', R', S', E'⟩ := ih (j + 1) _ I2 (some (.ref (51 + 6 * j))) (by omega) R2 (hSn.tr S2.SW) (by rw [S2.1 126 (by omega), f_wb_ne (by omega)]; exact hf)
            refine ⟨I', ?_, S', fun d Q => ?_⟩
            · unfold wj jst
              rw [if_neg hns, if_pos ⟨q, hE1, hE3⟩]
              exact R'
            · have n5 : (51 + 6 * j : Nat) ≠ 127 + 1 := by omega
              rw [w41_66]
              simp only [w41_0, w41_1, w41_2, w41_5, w41_6, w41_7, w41_10, w41_11, w41_12, w41_12r, w41_13, w41_16, w41_17, w41_18, w41_21, w41_22, w41_23, w41_26, w41_27, w41_30, w41_31, w41_34, w41_37, w41_38, w41_41, w41_42, w41_43, w41_46, w41_47, w41_50, w41_53, w41_56, w41_57, w41_58, w41_59, w41_60, w41_63, w41_64, w41_68, w41_69, w41_72, w41_75, w41_78, w41_79, w41_82, w41_85, w41_86, w41_89, w41_92, w41_94, w41_95, w41_97, w41_99, w41_102, w41_103, w41_106, w41_107, w41_110, w41_112, w41_113, w41_116, w41_117, w41_120, w41_123, w41_126, w41_127, w41_129, w41_132, w41_133, w41_134, w41_136, w41_137, w41_140, w41_143, w41_146, eq_self, Nat.zero_le, n_lt, n_le, n_eq, n_neg, n_cl, n_mul, n_add, z_0, z_1, z_2, sc_0, sc_i, sc_r, sc_l, sc_n, jc_n, jc_i, jc_r, jc_l, Option.toList_some, Option.toList_none, List.cons_append, List.nil_append, Nat.reduceLT, Nat.reduceLeDiff, Nat.reduceMul, Nat.reduceAdd, Nat.reduceSub, Nat.reduceEqDiff, not_false_eq_true, not_true_eq_false, false_or, or_false, true_or, or_true, false_imp_iff, true_imp_iff, and_true, true_and, forall_const, false_implies, true_implies, b_t0, b_f0, tg_1, rf_1_0, rf_1_1, rf_1_2, rf_1_3, rf_1_4, rf_1_5, rf_1_6, tg_2, rf_2_0, rf_2_1, rf_2_2, rf_2_3, tg_3, ln_3, tg_4, ln_4, tg_5, rf_5_0, tg_6, ln_6, tg_7, rf_7_0, tg_8, ln_8, tg_123, rf_123_0, rf_123_1, rf_123_2, rf_123_3, rf_123_4, tg_124, ln_124, tg_125, rf_125_0, tg_126, ln_126, tg_127, rf_127_0, tg_128, ln_128, tg_129, ln_129, tg_322, rf_322_0, rf_322_1, rf_322_2, rf_322_3, tg_323, ln_323, tg_324, ln_324, tg_325, rf_325_0, rf_325_1, rf_325_2, tg_326, rf_326_0, tg_327, ln_327, tg_328, rf_328_0, tg_329, ln_329, tg_330, rf_330_0, rf_330_1, rf_330_2, tg_331, rf_331_0, tg_332, ln_332, tg_333, rf_333_0, tg_334, ln_334, tg_335, ln_335, tg_336, rf_336_0, tg_337, ln_337, tg_339, ln_339, tg_346, rf_346_1, rf_346_2, rf_346_4, rf_346_5, rf_346_6, rf_346_7, rf_346_8, rf_346_11, rf_346_13, rf_346_14, rf_346_15, rf_346_17, rf_346_18, rf_346_19, rf_346_20, rf_346_21, rf_346_22, rf_346_26, rf_346_28, rf_346_29, rf_346_32, rf_346_34, rf_346_35, rf_346_36, tg_347, ln_347, tg_348, ln_348, tg_349, ln_349, tg_350, ln_350, tg_351, ln_351, tg_352, ln_352, tg_353, ln_353, tg_354, ln_354, tg_355, ln_355, tg_356, ln_356, tg_357, ln_357, tg_358, ln_358, tg_359, ln_359, tg_360, ln_360, tg_361, ln_361, tg_362, ln_362, tg_363, ln_363, tg_364, ln_364, tg_365, ln_365, tg_366, ln_366, tg_367, ln_367, tg_368, ln_368, tg_369, ln_369, tg_370, ln_370, h3, n_le s1 s2, s3, r5, Bool.false_eq_true, l1, l2, n_cl s2, n_neg s2, s4, g1, g2, n_eq s5 s6, q, sp_spring hj12 h1 h2 g2 (hT j hjj) g5 bx_125 bx_127 hc2 n1, e1, e3, hE1, hE3, if_false, Bool.not_false, b2_t, f_wb_ne n5, E2]
              exact E' d Q
      · obtain ⟨I', R', S', E'⟩ := ih (j + 1) s I (some (.ref (51 + 6 * j))) (by omega) R hS hf
        refine ⟨I', ?_, S', fun d Q => ?_⟩
        · unfold wj jst
          rw [if_neg hns, if_neg (by simp [q])]
          exact R'
        · rw [w41_66]
          simp only [w41_0, w41_1, w41_2, w41_5, w41_6, w41_7, w41_10, w41_11, w41_12, w41_12r, w41_13, w41_16, w41_17, w41_18, w41_21, w41_22, w41_23, w41_26, w41_27, w41_30, w41_31, w41_34, w41_37, w41_38, w41_41, w41_42, w41_43, w41_46, w41_47, w41_50, w41_53, w41_56, w41_57, w41_58, w41_59, w41_60, w41_63, w41_64, w41_68, w41_69, w41_72, w41_75, w41_78, w41_79, w41_82, w41_85, w41_86, w41_89, w41_92, w41_94, w41_95, w41_97, w41_99, w41_102, w41_103, w41_106, w41_107, w41_110, w41_112, w41_113, w41_116, w41_117, w41_120, w41_123, w41_126, w41_127, w41_129, w41_132, w41_133, w41_134, w41_136, w41_137, w41_140, w41_143, w41_146, eq_self, Nat.zero_le, n_lt, n_le, n_eq, n_neg, n_cl, n_mul, n_add, z_0, z_1, z_2, sc_0, sc_i, sc_r, sc_l, sc_n, jc_n, jc_i, jc_r, jc_l, Option.toList_some, Option.toList_none, List.cons_append, List.nil_append, Nat.reduceLT, Nat.reduceLeDiff, Nat.reduceMul, Nat.reduceAdd, Nat.reduceSub, Nat.reduceEqDiff, not_false_eq_true, not_true_eq_false, false_or, or_false, true_or, or_true, false_imp_iff, true_imp_iff, and_true, true_and, forall_const, false_implies, true_implies, b_t0, b_f0, tg_1, rf_1_0, rf_1_1, rf_1_2, rf_1_3, rf_1_4, rf_1_5, rf_1_6, tg_2, rf_2_0, rf_2_1, rf_2_2, rf_2_3, tg_3, ln_3, tg_4, ln_4, tg_5, rf_5_0, tg_6, ln_6, tg_7, rf_7_0, tg_8, ln_8, tg_123, rf_123_0, rf_123_1, rf_123_2, rf_123_3, rf_123_4, tg_124, ln_124, tg_125, rf_125_0, tg_126, ln_126, tg_127, rf_127_0, tg_128, ln_128, tg_129, ln_129, tg_322, rf_322_0, rf_322_1, rf_322_2, rf_322_3, tg_323, ln_323, tg_324, ln_324, tg_325, rf_325_0, rf_325_1, rf_325_2, tg_326, rf_326_0, tg_327, ln_327, tg_328, rf_328_0, tg_329, ln_329, tg_330, rf_330_0, rf_330_1, rf_330_2, tg_331, rf_331_0, tg_332, ln_332, tg_333, rf_333_0, tg_334, ln_334, tg_335, ln_335, tg_336, rf_336_0, tg_337, ln_337, tg_339, ln_339, tg_346, rf_346_1, rf_346_2, rf_346_4, rf_346_5, rf_346_6, rf_346_7, rf_346_8, rf_346_11, rf_346_13, rf_346_14, rf_346_15, rf_346_17, rf_346_18, rf_346_19, rf_346_20, rf_346_21, rf_346_22, rf_346_26, rf_346_28, rf_346_29, rf_346_32, rf_346_34, rf_346_35, rf_346_36, tg_347, ln_347, tg_348, ln_348, tg_349, ln_349, tg_350, ln_350, tg_351, ln_351, tg_352, ln_352, tg_353, ln_353, tg_354, ln_354, tg_355, ln_355, tg_356, ln_356, tg_357, ln_357, tg_358, ln_358, tg_359, ln_359, tg_360, ln_360, tg_361, ln_361, tg_362, ln_362, tg_363, ln_363, tg_364, ln_364, tg_365, ln_365, tg_366, ln_366, tg_367, ln_367, tg_368, ln_368, tg_369, ln_369, tg_370, ln_370, h3, n_le s1 s2, s3, r5, Bool.false_eq_true, l1, l2, n_cl s2, n_neg s2, s4, g1, n_eq s5 s6, q]
          exact E' d Q
end WKS
