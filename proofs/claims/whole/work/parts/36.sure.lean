/-! which heaps are sure -/
def iN (x : Int32) : Nat := x.toInt.toNat
theorem iN_n {o : Nat} (h : o < 64) : iN (nI o) = o := by
  have : ∀ o, o < 64 → iN (nI o) = o := by decide +kernel
  exact this o h
def sr (f : Nat → gH) : Nat → Nat → Bool
  | 0, _ => false
  | k + 1, h => (decide ((f h).2.2.1 = -4) || sr f k (iN (f h).2.2.1)) && !(f h).2.2.2.2.2
def sure (f : Nat → gH) (h : Nat) : Bool := sr f (h + 1) h
/-- an origin is an earlier heap -/
def OG (s : gS) : Prop := s.1 ≤ 64 ∧ ∀ i, i < s.1 → (s.2.1 i).2.2.1 = -4 ∨ ∃ o, o < i ∧ (s.2.1 i).2.2.1 = nI o
theorem nI_ne4 {o : Nat} (h : o < 64) : ¬ nI o = -4 := by
  have : ∀ o, o < 64 → ¬ nI o = -4 := by decide +kernel
  exact this o h
theorem sr_fuel {s : gS} (hO : OG s) : ∀ (n k h : Nat), h < n → n ≤ s.1 → h < k → sr s.2.1 k h = sr s.2.1 (h + 1) h := by
  intro n
  induction n with
  | zero => intro k h hh; omega
  | succ n ih =>
    intro k h hh hn hk
    obtain ⟨k, rfl⟩ : ∃ k', k = k' + 1 := ⟨k - 1, by omega⟩
    unfold sr
    rcases hO.2 h (by omega) with h1 | ⟨o, h1, h2⟩
    · rw [h1]; simp
    · have h64 : o < 64 := by have := hO.1; omega
      rw [h2, iN_n h64, ih k o (by omega) (by omega) (by omega), ih h o (by omega) (by omega) (by omega)]
theorem sure_0 {s : gS} {h : Nat} (h1 : (s.2.1 h).2.2.1 = -4) : sure s.2.1 h = !(s.2.1 h).2.2.2.2.2 := by
  unfold sure sr
  rw [h1]
  simp
theorem sure_s {s : gS} (hO : OG s) {h o : Nat} (hh : h < s.1) (ho : o < h) (h1 : (s.2.1 h).2.2.1 = nI o) : sure s.2.1 h = (sure s.2.1 o && !(s.2.1 h).2.2.2.2.2) := by
  have h64 : o < 64 := by have := hO.1; omega
  conv => lhs; unfold sure sr
  rw [h1, iN_n h64, sr_fuel hO h h o ho (by omega) ho]
  simp [nI_ne4 h64, sure]
def QX (I I' : fI) : Prop := ∀ o k, k ≠ 6 ∨ o < 130 ∨ 322 ≤ o → I' o k = I o k
theorem QX.rf {I : fI} : QX I I := fun _ _ _ => rfl
theorem QX.tr {I I' I'' : fI} (h1 : QX I I') (h2 : QX I' I'') : QX I I'' := fun o k h => (h2 o k h).trans (h1 o k h)
theorem QX.SW {I I' : fI} (h : QX I I') : SW I I' := ⟨fun o ho => funext fun k => h o k (by omega), fun k _ => h 123 k (by omega)⟩
theorem RX_Q {I I' : fI} {s : gS} (R : RX I s) (h : QX I I') : RX I' s := by
  obtain ⟨r1, r2, r3, r4, r5, r6⟩ := R
  refine ⟨r1, by rw [h _ _ (by omega)]; exact r2, r3, by rw [h _ _ (by omega)]; exact r4, by rw [h _ _ (by omega)]; exact r5, fun i hi => ?_⟩
  obtain ⟨q1, q2, q3, q4, q5, q6, q7⟩ := r6 i hi
  exact ⟨by rw [h _ _ (by omega)]; exact q1, q2, fun k hk => by rw [h _ _ (by omega)]; exact q3 k hk, by rw [h _ _ (by omega)]; exact q4, by rw [h _ _ (by omega)]; exact q5, by rw [h _ _ (by omega)]; exact q6, by rw [h _ _ (by omega)]; exact q7⟩
theorem QX_up {I : fI} {h : Nat} {v : Int32} (hh : h < 64) : QX I (f_up I (130 + 3 * h) 6 v) := by
  intro o k hk
  rw [f_up_at, if_neg (by omega)]
/-- each heap's sure is as counted -/
def SU (I : fI) (s : gS) (n : Nat) : Prop := ∀ i, i < n → I (130 + 3 * i) 6 = b2 (sure s.2.1 i)
theorem SU_up {I : fI} {s : gS} {h : Nat} (hS : SU I s h) {v : Int32} (hv : v = b2 (sure s.2.1 h)) : SU (f_up I (130 + 3 * h) 6 v) s (h + 1) := by
  intro i hi
  by_cases q : i = h
  · subst q
    rw [f_up_at, if_pos ⟨rfl, rfl⟩]
    exact hv
  · rw [f_up_at, if_neg (by omega)]
    exact hS i (by omega)
section SURS
variable {xs : List Value} {L : fL}
theorem x_suloop {s : gS} (hO : OG s) : ∀ (k h : Nat) (I : fI) (a2 a3 : Option Value), h + k = s.1 → RX I s → SU I s h → ∃ I', RX I' s ∧ SU I' s s.1 ∧ QX I I' ∧ ∀ (d : Nat) (Q : Option Value × jW → Prop), Wp (d + 1) 49 2 [some (.ref 123), some (.int (nI h)), a2, a3] [] (f_W xs I L) Q = Q (none, f_W xs I' L) := by
  intro k
  induction k with
  | zero =>
    intro h I a2 a3 hk R S
    have hk : h = s.1 := by omega
    subst hk
    have s1 : s.1 < 2147483648 := by have := R.1; omega
    refine ⟨I, R, S, QX.rf, fun d Q => ?_⟩
    rw [w49_2]
    simp only [w49_0, w49_1, w49_3, w49_4, w49_7, w49_10, w49_11, w49_14, w49_15, w49_16, w49_19, w49_20, w49_21, w49_23, w49_26, w49_27, w49_28, w49_31, w49_34, w49_35, w49_38, w49_39, w49_40, w49_43, w49_46, w49_47, w49_50, w49_51, w49_52, w49_53, w49_56, w49_57, w49_58, w49_59, w49_62, w49_63, w49_66, w49_67, w49_68, w49_71, w49_74, w49_75, w49_78, w49_79, w49_82, w49_85, w49_88, eq_self, Nat.zero_le, n_lt, n_le, n_eq, n_neg, n_cl, n_mul, n_add, z_0, z_1, z_2, sc_0, sc_i, sc_r, sc_l, sc_n, jc_n, jc_i, jc_r, jc_l, Option.toList_some, Option.toList_none, List.cons_append, List.nil_append, Nat.reduceLT, Nat.reduceLeDiff, Nat.reduceMul, Nat.reduceAdd, Nat.reduceSub, Nat.reduceEqDiff, not_false_eq_true, not_true_eq_false, false_or, or_false, true_or, or_true, false_imp_iff, true_imp_iff, and_true, true_and, forall_const, false_implies, true_implies, b_t0, b_f0, tg_1, rf_1_0, rf_1_1, rf_1_2, rf_1_3, rf_1_4, rf_1_5, rf_1_6, tg_2, rf_2_0, rf_2_1, rf_2_2, rf_2_3, tg_3, ln_3, tg_4, ln_4, tg_5, rf_5_0, tg_6, ln_6, tg_7, rf_7_0, tg_8, ln_8, tg_123, rf_123_0, rf_123_1, rf_123_2, rf_123_3, rf_123_4, tg_124, ln_124, tg_125, rf_125_0, tg_126, ln_126, tg_127, rf_127_0, tg_128, ln_128, tg_129, ln_129, tg_322, rf_322_0, rf_322_1, rf_322_2, rf_322_3, tg_323, ln_323, tg_324, ln_324, tg_325, rf_325_0, rf_325_1, rf_325_2, tg_326, rf_326_0, tg_327, ln_327, tg_328, rf_328_0, tg_329, ln_329, tg_330, rf_330_0, rf_330_1, rf_330_2, tg_331, rf_331_0, tg_332, ln_332, tg_333, rf_333_0, tg_334, ln_334, tg_335, ln_335, tg_336, rf_336_0, tg_337, ln_337, tg_339, ln_339, tg_346, rf_346_1, rf_346_2, rf_346_4, rf_346_5, rf_346_6, rf_346_7, rf_346_8, rf_346_11, rf_346_13, rf_346_14, rf_346_15, rf_346_17, rf_346_18, rf_346_19, rf_346_20, rf_346_21, rf_346_22, rf_346_26, rf_346_28, rf_346_29, rf_346_32, rf_346_34, rf_346_35, rf_346_36, tg_347, ln_347, tg_348, ln_348, tg_349, ln_349, tg_350, ln_350, tg_351, ln_351, tg_352, ln_352, tg_353, ln_353, tg_354, ln_354, tg_355, ln_355, tg_356, ln_356, tg_357, ln_357, tg_358, ln_358, tg_359, ln_359, tg_360, ln_360, tg_361, ln_361, tg_362, ln_362, tg_363, ln_363, tg_364, ln_364, tg_365, ln_365, tg_366, ln_366, tg_367, ln_367, tg_368, ln_368, tg_369, ln_369, tg_370, ln_370, R.2.1, n_le s1 s1, Nat.le_refl]
  | succ k ih =>
    intro h I a2 a3 hk R S
    have hh : h < s.1 := by omega
    obtain ⟨r1, r2, r3, r4, r5, r6⟩ := id R
    have h64 : h < 64 := by omega
    obtain ⟨l1, l2, l3⟩ := lay_H h h64
    obtain ⟨g1, g2, g3, g4, g5, g6, g7⟩ := r6 h hh
    have s1 : s.1 < 2147483648 := by omega
    have s2 : h < 2147483648 := by omega
    have s3 : ¬ s.1 ≤ h := by omega
    have s4 : ¬ 64 ≤ h := by omega
    have key : ∀ v : Int32, v = b2 (sure s.2.1 h) → ∀ a2 a3 : Option Value, ∃ I', RX I' s ∧ SU I' s s.1 ∧ QX I I' ∧ ∀ (d : Nat) (Q : Option Value × jW → Prop), Wp (d + 1) 49 2 [some (.ref 123), some (.int (nI (h + 1))), a2, a3] [] (f_W xs (f_up I (130 + 3 * h) 6 v) L) Q = Q (none, f_W xs I' L) := by
      intro v hv a2 a3
      obtain ⟨I', R', S', F', E'⟩ := ih (h + 1) (f_up I (130 + 3 * h) 6 v) a2 a3 (by omega) (RX_Q R (QX_up h64)) (SU_up S hv)
      exact ⟨I', R', S', (QX_up h64).tr F', E'⟩
    rcases hO.2 h hh with e1 | ⟨o, ho, e1⟩
    · rw [e1] at g4
      cases hj : (s.2.1 h).2.2.2.2.2 with
      | true =>
        rw [hj] at g7
        obtain ⟨I', R', S', F', E'⟩ := key (nI 0) (by rw [sure_0 e1, hj]; rfl) (some (.int (-4))) (some (.int (nI 1)))
        refine ⟨I', R', S', F', fun d Q => ?_⟩
        rw [← E' d Q, w49_2]
        simp only [w49_0, w49_1, w49_3, w49_4, w49_7, w49_10, w49_11, w49_14, w49_15, w49_16, w49_19, w49_20, w49_21, w49_23, w49_26, w49_27, w49_28, w49_31, w49_34, w49_35, w49_38, w49_39, w49_40, w49_43, w49_46, w49_47, w49_50, w49_51, w49_52, w49_53, w49_56, w49_57, w49_58, w49_59, w49_62, w49_63, w49_66, w49_67, w49_68, w49_71, w49_74, w49_75, w49_78, w49_79, w49_82, w49_85, w49_88, eq_self, Nat.zero_le, n_lt, n_le, n_eq, n_neg, n_cl, n_mul, n_add, z_0, z_1, z_2, sc_0, sc_i, sc_r, sc_l, sc_n, jc_n, jc_i, jc_r, jc_l, Option.toList_some, Option.toList_none, List.cons_append, List.nil_append, Nat.reduceLT, Nat.reduceLeDiff, Nat.reduceMul, Nat.reduceAdd, Nat.reduceSub, Nat.reduceEqDiff, not_false_eq_true, not_true_eq_false, false_or, or_false, true_or, or_true, false_imp_iff, true_imp_iff, and_true, true_and, forall_const, false_implies, true_implies, b_t0, b_f0, tg_1, rf_1_0, rf_1_1, rf_1_2, rf_1_3, rf_1_4, rf_1_5, rf_1_6, tg_2, rf_2_0, rf_2_1, rf_2_2, rf_2_3, tg_3, ln_3, tg_4, ln_4, tg_5, rf_5_0, tg_6, ln_6, tg_7, rf_7_0, tg_8, ln_8, tg_123, rf_123_0, rf_123_1, rf_123_2, rf_123_3, rf_123_4, tg_124, ln_124, tg_125, rf_125_0, tg_126, ln_126, tg_127, rf_127_0, tg_128, ln_128, tg_129, ln_129, tg_322, rf_322_0, rf_322_1, rf_322_2, rf_322_3, tg_323, ln_323, tg_324, ln_324, tg_325, rf_325_0, rf_325_1, rf_325_2, tg_326, rf_326_0, tg_327, ln_327, tg_328, rf_328_0, tg_329, ln_329, tg_330, rf_330_0, rf_330_1, rf_330_2, tg_331, rf_331_0, tg_332, ln_332, tg_333, rf_333_0, tg_334, ln_334, tg_335, ln_335, tg_336, rf_336_0, tg_337, ln_337, tg_339, ln_339, tg_346, rf_346_1, rf_346_2, rf_346_4, rf_346_5, rf_346_6, rf_346_7, rf_346_8, rf_346_11, rf_346_13, rf_346_14, rf_346_15, rf_346_17, rf_346_18, rf_346_19, rf_346_20, rf_346_21, rf_346_22, rf_346_26, rf_346_28, rf_346_29, rf_346_32, rf_346_34, rf_346_35, rf_346_36, tg_347, ln_347, tg_348, ln_348, tg_349, ln_349, tg_350, ln_350, tg_351, ln_351, tg_352, ln_352, tg_353, ln_353, tg_354, ln_354, tg_355, ln_355, tg_356, ln_356, tg_357, ln_357, tg_358, ln_358, tg_359, ln_359, tg_360, ln_360, tg_361, ln_361, tg_362, ln_362, tg_363, ln_363, tg_364, ln_364, tg_365, ln_365, tg_366, ln_366, tg_367, ln_367, tg_368, ln_368, tg_369, ln_369, tg_370, ln_370, r2, n_le s1 s2, s3, n_cl s2, n_neg s2, s4, l1, l2, l3, g4, g7, b2_t]
      | false =>
        rw [hj] at g7
        obtain ⟨I', R', S', F', E'⟩ := key (nI 1) (by rw [sure_0 e1, hj]; rfl) (some (.int (-4))) (some (.int (nI 1)))
        refine ⟨I', R', S', F', fun d Q => ?_⟩
        rw [← E' d Q, w49_2]
        simp only [w49_0, w49_1, w49_3, w49_4, w49_7, w49_10, w49_11, w49_14, w49_15, w49_16, w49_19, w49_20, w49_21, w49_23, w49_26, w49_27, w49_28, w49_31, w49_34, w49_35, w49_38, w49_39, w49_40, w49_43, w49_46, w49_47, w49_50, w49_51, w49_52, w49_53, w49_56, w49_57, w49_58, w49_59, w49_62, w49_63, w49_66, w49_67, w49_68, w49_71, w49_74, w49_75, w49_78, w49_79, w49_82, w49_85, w49_88, eq_self, Nat.zero_le, n_lt, n_le, n_eq, n_neg, n_cl, n_mul, n_add, z_0, z_1, z_2, sc_0, sc_i, sc_r, sc_l, sc_n, jc_n, jc_i, jc_r, jc_l, Option.toList_some, Option.toList_none, List.cons_append, List.nil_append, Nat.reduceLT, Nat.reduceLeDiff, Nat.reduceMul, Nat.reduceAdd, Nat.reduceSub, Nat.reduceEqDiff, not_false_eq_true, not_true_eq_false, false_or, or_false, true_or, or_true, false_imp_iff, true_imp_iff, and_true, true_and, forall_const, false_implies, true_implies, b_t0, b_f0, tg_1, rf_1_0, rf_1_1, rf_1_2, rf_1_3, rf_1_4, rf_1_5, rf_1_6, tg_2, rf_2_0, rf_2_1, rf_2_2, rf_2_3, tg_3, ln_3, tg_4, ln_4, tg_5, rf_5_0, tg_6, ln_6, tg_7, rf_7_0, tg_8, ln_8, tg_123, rf_123_0, rf_123_1, rf_123_2, rf_123_3, rf_123_4, tg_124, ln_124, tg_125, rf_125_0, tg_126, ln_126, tg_127, rf_127_0, tg_128, ln_128, tg_129, ln_129, tg_322, rf_322_0, rf_322_1, rf_322_2, rf_322_3, tg_323, ln_323, tg_324, ln_324, tg_325, rf_325_0, rf_325_1, rf_325_2, tg_326, rf_326_0, tg_327, ln_327, tg_328, rf_328_0, tg_329, ln_329, tg_330, rf_330_0, rf_330_1, rf_330_2, tg_331, rf_331_0, tg_332, ln_332, tg_333, rf_333_0, tg_334, ln_334, tg_335, ln_335, tg_336, rf_336_0, tg_337, ln_337, tg_339, ln_339, tg_346, rf_346_1, rf_346_2, rf_346_4, rf_346_5, rf_346_6, rf_346_7, rf_346_8, rf_346_11, rf_346_13, rf_346_14, rf_346_15, rf_346_17, rf_346_18, rf_346_19, rf_346_20, rf_346_21, rf_346_22, rf_346_26, rf_346_28, rf_346_29, rf_346_32, rf_346_34, rf_346_35, rf_346_36, tg_347, ln_347, tg_348, ln_348, tg_349, ln_349, tg_350, ln_350, tg_351, ln_351, tg_352, ln_352, tg_353, ln_353, tg_354, ln_354, tg_355, ln_355, tg_356, ln_356, tg_357, ln_357, tg_358, ln_358, tg_359, ln_359, tg_360, ln_360, tg_361, ln_361, tg_362, ln_362, tg_363, ln_363, tg_364, ln_364, tg_365, ln_365, tg_366, ln_366, tg_367, ln_367, tg_368, ln_368, tg_369, ln_369, tg_370, ln_370, r2, n_le s1 s2, s3, n_cl s2, n_neg s2, s4, l1, l2, l3, g4, g7, b2_f]
    · have o64 : o < 64 := by omega
      obtain ⟨k1, k2, k3⟩ := lay_H o o64
      have s5 : o < 2147483648 := by omega
      have s6 : ¬ 64 ≤ o := by omega
      have s7 : ¬ s.1 ≤ o := by omega
      rw [e1] at g4
      have hso := S o ho
      have hss := sure_s hO hh ho e1
      cases hv : sure s.2.1 o with
      | true =>
        rw [hv] at hso hss
        cases hj : (s.2.1 h).2.2.2.2.2 with
        | true =>
          rw [hj] at g7 hss
          obtain ⟨I', R', S', F', E'⟩ := key (nI 0) (by rw [hss]; rfl) (some (.int (nI o))) (some (.int (nI 1)))
          refine ⟨I', R', S', F', fun d Q => ?_⟩
          rw [← E' d Q, w49_2]
          simp only [w49_0, w49_1, w49_3, w49_4, w49_7, w49_10, w49_11, w49_14, w49_15, w49_16, w49_19, w49_20, w49_21, w49_23, w49_26, w49_27, w49_28, w49_31, w49_34, w49_35, w49_38, w49_39, w49_40, w49_43, w49_46, w49_47, w49_50, w49_51, w49_52, w49_53, w49_56, w49_57, w49_58, w49_59, w49_62, w49_63, w49_66, w49_67, w49_68, w49_71, w49_74, w49_75, w49_78, w49_79, w49_82, w49_85, w49_88, eq_self, Nat.zero_le, n_lt, n_le, n_eq, n_neg, n_cl, n_mul, n_add, z_0, z_1, z_2, sc_0, sc_i, sc_r, sc_l, sc_n, jc_n, jc_i, jc_r, jc_l, Option.toList_some, Option.toList_none, List.cons_append, List.nil_append, Nat.reduceLT, Nat.reduceLeDiff, Nat.reduceMul, Nat.reduceAdd, Nat.reduceSub, Nat.reduceEqDiff, not_false_eq_true, not_true_eq_false, false_or, or_false, true_or, or_true, false_imp_iff, true_imp_iff, and_true, true_and, forall_const, false_implies, true_implies, b_t0, b_f0, tg_1, rf_1_0, rf_1_1, rf_1_2, rf_1_3, rf_1_4, rf_1_5, rf_1_6, tg_2, rf_2_0, rf_2_1, rf_2_2, rf_2_3, tg_3, ln_3, tg_4, ln_4, tg_5, rf_5_0, tg_6, ln_6, tg_7, rf_7_0, tg_8, ln_8, tg_123, rf_123_0, rf_123_1, rf_123_2, rf_123_3, rf_123_4, tg_124, ln_124, tg_125, rf_125_0, tg_126, ln_126, tg_127, rf_127_0, tg_128, ln_128, tg_129, ln_129, tg_322, rf_322_0, rf_322_1, rf_322_2, rf_322_3, tg_323, ln_323, tg_324, ln_324, tg_325, rf_325_0, rf_325_1, rf_325_2, tg_326, rf_326_0, tg_327, ln_327, tg_328, rf_328_0, tg_329, ln_329, tg_330, rf_330_0, rf_330_1, rf_330_2, tg_331, rf_331_0, tg_332, ln_332, tg_333, rf_333_0, tg_334, ln_334, tg_335, ln_335, tg_336, rf_336_0, tg_337, ln_337, tg_339, ln_339, tg_346, rf_346_1, rf_346_2, rf_346_4, rf_346_5, rf_346_6, rf_346_7, rf_346_8, rf_346_11, rf_346_13, rf_346_14, rf_346_15, rf_346_17, rf_346_18, rf_346_19, rf_346_20, rf_346_21, rf_346_22, rf_346_26, rf_346_28, rf_346_29, rf_346_32, rf_346_34, rf_346_35, rf_346_36, tg_347, ln_347, tg_348, ln_348, tg_349, ln_349, tg_350, ln_350, tg_351, ln_351, tg_352, ln_352, tg_353, ln_353, tg_354, ln_354, tg_355, ln_355, tg_356, ln_356, tg_357, ln_357, tg_358, ln_358, tg_359, ln_359, tg_360, ln_360, tg_361, ln_361, tg_362, ln_362, tg_363, ln_363, tg_364, ln_364, tg_365, ln_365, tg_366, ln_366, tg_367, ln_367, tg_368, ln_368, tg_369, ln_369, tg_370, ln_370, r2, n_le s1 s2, s3, n_cl s2, n_neg s2, s4, l1, l2, l3, g4, g7, b2_t, nI_ne4 o64, sp_hasHeap, n_le s1 s5, n_lt s5 (show 0 < 2147483648 by decide), s7, Nat.not_lt_zero, decide_false, Bool.not_false, Bool.and_true, n_cl s5, n_neg s5, s6, k1, k2, hso]
        | false =>
          rw [hj] at g7 hss
          obtain ⟨I', R', S', F', E'⟩ := key (nI 1) (by rw [hss]; rfl) (some (.int (nI o))) (some (.int (nI 1)))
          refine ⟨I', R', S', F', fun d Q => ?_⟩
          rw [← E' d Q, w49_2]
          simp only [w49_0, w49_1, w49_3, w49_4, w49_7, w49_10, w49_11, w49_14, w49_15, w49_16, w49_19, w49_20, w49_21, w49_23, w49_26, w49_27, w49_28, w49_31, w49_34, w49_35, w49_38, w49_39, w49_40, w49_43, w49_46, w49_47, w49_50, w49_51, w49_52, w49_53, w49_56, w49_57, w49_58, w49_59, w49_62, w49_63, w49_66, w49_67, w49_68, w49_71, w49_74, w49_75, w49_78, w49_79, w49_82, w49_85, w49_88, eq_self, Nat.zero_le, n_lt, n_le, n_eq, n_neg, n_cl, n_mul, n_add, z_0, z_1, z_2, sc_0, sc_i, sc_r, sc_l, sc_n, jc_n, jc_i, jc_r, jc_l, Option.toList_some, Option.toList_none, List.cons_append, List.nil_append, Nat.reduceLT, Nat.reduceLeDiff, Nat.reduceMul, Nat.reduceAdd, Nat.reduceSub, Nat.reduceEqDiff, not_false_eq_true, not_true_eq_false, false_or, or_false, true_or, or_true, false_imp_iff, true_imp_iff, and_true, true_and, forall_const, false_implies, true_implies, b_t0, b_f0, tg_1, rf_1_0, rf_1_1, rf_1_2, rf_1_3, rf_1_4, rf_1_5, rf_1_6, tg_2, rf_2_0, rf_2_1, rf_2_2, rf_2_3, tg_3, ln_3, tg_4, ln_4, tg_5, rf_5_0, tg_6, ln_6, tg_7, rf_7_0, tg_8, ln_8, tg_123, rf_123_0, rf_123_1, rf_123_2, rf_123_3, rf_123_4, tg_124, ln_124, tg_125, rf_125_0, tg_126, ln_126, tg_127, rf_127_0, tg_128, ln_128, tg_129, ln_129, tg_322, rf_322_0, rf_322_1, rf_322_2, rf_322_3, tg_323, ln_323, tg_324, ln_324, tg_325, rf_325_0, rf_325_1, rf_325_2, tg_326, rf_326_0, tg_327, ln_327, tg_328, rf_328_0, tg_329, ln_329, tg_330, rf_330_0, rf_330_1, rf_330_2, tg_331, rf_331_0, tg_332, ln_332, tg_333, rf_333_0, tg_334, ln_334, tg_335, ln_335, tg_336, rf_336_0, tg_337, ln_337, tg_339, ln_339, tg_346, rf_346_1, rf_346_2, rf_346_4, rf_346_5, rf_346_6, rf_346_7, rf_346_8, rf_346_11, rf_346_13, rf_346_14, rf_346_15, rf_346_17, rf_346_18, rf_346_19, rf_346_20, rf_346_21, rf_346_22, rf_346_26, rf_346_28, rf_346_29, rf_346_32, rf_346_34, rf_346_35, rf_346_36, tg_347, ln_347, tg_348, ln_348, tg_349, ln_349, tg_350, ln_350, tg_351, ln_351, tg_352, ln_352, tg_353, ln_353, tg_354, ln_354, tg_355, ln_355, tg_356, ln_356, tg_357, ln_357, tg_358, ln_358, tg_359, ln_359, tg_360, ln_360, tg_361, ln_361, tg_362, ln_362, tg_363, ln_363, tg_364, ln_364, tg_365, ln_365, tg_366, ln_366, tg_367, ln_367, tg_368, ln_368, tg_369, ln_369, tg_370, ln_370, r2, n_le s1 s2, s3, n_cl s2, n_neg s2, s4, l1, l2, l3, g4, g7, b2_t, b2_f, nI_ne4 o64, sp_hasHeap, n_le s1 s5, n_lt s5 (show 0 < 2147483648 by decide), s7, Nat.not_lt_zero, decide_false, Bool.not_false, Bool.and_true, n_cl s5, n_neg s5, s6, k1, k2, hso]
      | false =>
        rw [hv] at hso hss
        obtain ⟨I', R', S', F', E'⟩ := key (nI 0) (by rw [hss]; rfl) (some (.int (nI o))) (some (.int (nI 0)))
        refine ⟨I', R', S', F', fun d Q => ?_⟩
        rw [← E' d Q, w49_2]
        simp only [w49_0, w49_1, w49_3, w49_4, w49_7, w49_10, w49_11, w49_14, w49_15, w49_16, w49_19, w49_20, w49_21, w49_23, w49_26, w49_27, w49_28, w49_31, w49_34, w49_35, w49_38, w49_39, w49_40, w49_43, w49_46, w49_47, w49_50, w49_51, w49_52, w49_53, w49_56, w49_57, w49_58, w49_59, w49_62, w49_63, w49_66, w49_67, w49_68, w49_71, w49_74, w49_75, w49_78, w49_79, w49_82, w49_85, w49_88, eq_self, Nat.zero_le, n_lt, n_le, n_eq, n_neg, n_cl, n_mul, n_add, z_0, z_1, z_2, sc_0, sc_i, sc_r, sc_l, sc_n, jc_n, jc_i, jc_r, jc_l, Option.toList_some, Option.toList_none, List.cons_append, List.nil_append, Nat.reduceLT, Nat.reduceLeDiff, Nat.reduceMul, Nat.reduceAdd, Nat.reduceSub, Nat.reduceEqDiff, not_false_eq_true, not_true_eq_false, false_or, or_false, true_or, or_true, false_imp_iff, true_imp_iff, and_true, true_and, forall_const, false_implies, true_implies, b_t0, b_f0, tg_1, rf_1_0, rf_1_1, rf_1_2, rf_1_3, rf_1_4, rf_1_5, rf_1_6, tg_2, rf_2_0, rf_2_1, rf_2_2, rf_2_3, tg_3, ln_3, tg_4, ln_4, tg_5, rf_5_0, tg_6, ln_6, tg_7, rf_7_0, tg_8, ln_8, tg_123, rf_123_0, rf_123_1, rf_123_2, rf_123_3, rf_123_4, tg_124, ln_124, tg_125, rf_125_0, tg_126, ln_126, tg_127, rf_127_0, tg_128, ln_128, tg_129, ln_129, tg_322, rf_322_0, rf_322_1, rf_322_2, rf_322_3, tg_323, ln_323, tg_324, ln_324, tg_325, rf_325_0, rf_325_1, rf_325_2, tg_326, rf_326_0, tg_327, ln_327, tg_328, rf_328_0, tg_329, ln_329, tg_330, rf_330_0, rf_330_1, rf_330_2, tg_331, rf_331_0, tg_332, ln_332, tg_333, rf_333_0, tg_334, ln_334, tg_335, ln_335, tg_336, rf_336_0, tg_337, ln_337, tg_339, ln_339, tg_346, rf_346_1, rf_346_2, rf_346_4, rf_346_5, rf_346_6, rf_346_7, rf_346_8, rf_346_11, rf_346_13, rf_346_14, rf_346_15, rf_346_17, rf_346_18, rf_346_19, rf_346_20, rf_346_21, rf_346_22, rf_346_26, rf_346_28, rf_346_29, rf_346_32, rf_346_34, rf_346_35, rf_346_36, tg_347, ln_347, tg_348, ln_348, tg_349, ln_349, tg_350, ln_350, tg_351, ln_351, tg_352, ln_352, tg_353, ln_353, tg_354, ln_354, tg_355, ln_355, tg_356, ln_356, tg_357, ln_357, tg_358, ln_358, tg_359, ln_359, tg_360, ln_360, tg_361, ln_361, tg_362, ln_362, tg_363, ln_363, tg_364, ln_364, tg_365, ln_365, tg_366, ln_366, tg_367, ln_367, tg_368, ln_368, tg_369, ln_369, tg_370, ln_370, r2, n_le s1 s2, s3, n_cl s2, n_neg s2, s4, l1, l2, l3, g4, g7, b2_t, b2_f, nI_ne4 o64, sp_hasHeap, n_le s1 s5, n_lt s5 (show 0 < 2147483648 by decide), s7, Nat.not_lt_zero, decide_false, Bool.not_false, Bool.and_true, n_cl s5, n_neg s5, s6, k1, k2, hso]
end SURS
