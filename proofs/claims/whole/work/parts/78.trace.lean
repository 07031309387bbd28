/-! SHOWN: the class's trail -/
theorem RX_hi {I I' : fI} {s : gS} (R : RX I s) (h : ∀ o, (o = 123 ∨ (130 ≤ o ∧ o < 322)) → I' o = I o) : RX I' s := by
  obtain ⟨r1, r2, r3, r4, r5, r6⟩ := R
  refine ⟨r1, by rw [h 123 (by omega)]; exact r2, r3, by rw [h 123 (by omega)]; exact r4, by rw [h 123 (by omega)]; exact r5, fun i hi => ?_⟩
  have g := r6 i hi
  unfold RH at g ⊢
  rw [h (130 + 3 * i) (by omega), h (132 + 3 * i) (by omega)]
  exact g
theorem f_up_up {I : fI} {o k : Nat} {v w : Int32} : f_up (f_up I o k v) o k w = f_up I o k w := by
  funext a b
  unfold f_up
  split <;> rfl
theorem n_dec {m : Nat} (h : m ≤ 200) : nI (m + 1) + -1 = nI m := by
  have hd : ∀ m, m < 201 → nI (m + 1) + -1 = nI m := by decide +kernel
  exact hd m (by omega)
theorem n_dec0 : nI 0 + -1 = -1 := by decide
theorem n_m1 : ((-1 : Int32) < nI 0) = True := by simp only [eq_iff_iff, iff_true]; decide
def oA (s : gS) (h len k : Nat) : Int32 := if k < len then nI (an s.2.1 h k) else -4
section TRACE
variable {xs : List Value} {L : fL} {s : gS} {h len : Nat}
theorem oA_s (C : CH s h len) {k : Nat} (hk : k < len) : (s.2.1 (an s.2.1 h k)).2.2.1 = oA s h len (k + 1) := by
  obtain ⟨c1, c2, c3, c4, c5⟩ := C
  unfold oA
  by_cases q : k + 1 < len
  · rw [if_pos q]; exact c4 k q
  · rw [if_neg q]
    have : k = len - 1 := by omega
    rw [this]; exact c5
theorem n_subg {a b : Nat} (ha : a ≤ 64) (hb : b ≤ a) : nI a - nI b = nI (a - b) := by
  have hd : ∀ a, a < 65 → ∀ b, b < 65 → b ≤ a → nI a - nI b = nI (a - b) := by decide +kernel
  exact hd a (by omega) b (by omega) hb
theorem x_lp (C : CH s h len) (hl : len ≤ 64) : ∀ (j k : Nat) (J : fI), k + j = len → RX J s → J 322 4 = nI k → ∃ J' : fI, (∀ o, o ≠ 322 → o ≠ 323 → J' o = J o) ∧ J' 322 4 = nI len ∧ (∀ u, k ≤ u → u < len → J' 323 u = nI (an s.2.1 h u)) ∧ (∀ u, u < k → J' 323 u = J 323 u) ∧ ∀ (d : Nat) (Q : Option Value × jW → Prop), Wp (d + 1) 71 7 [some (.ref 322), some (.int (nI h)), some (.int (oA s h len k))] [] (f_W xs J L) Q = Q (none, f_W xs J' L) := by
  intro j
  induction j with
  | zero =>
    intro k J hk R hL
    have hk : k = len := by omega
    subst hk
    have r2 := R.2.1
    have hh : (!decide ((-4 : Int32) < nI 0) && !decide (nI s.1 ≤ -4)) = false := by
      have : (-4 : Int32) < nI 0 := by decide
      simp [this]
    refine ⟨J, fun _ _ _ => rfl, hL, fun u h1 h2 => by omega, fun _ _ => rfl, fun d Q => ?_⟩
    rw [show oA s h k k = -4 by unfold oA; rw [if_neg (by omega)], w71_7]
    simp only [w71_8, w71_11, w71_12, w71_15, w71_63, eq_self, Nat.zero_le, n_lt, n_le, n_eq, n_neg, n_cl, n_mul, n_add, z_0, z_1, z_2, sc_0, sc_i, sc_r, sc_l, sc_n, jc_n, jc_i, jc_r, jc_l, Option.toList_some, Option.toList_none, List.cons_append, List.nil_append, Nat.reduceLT, Nat.reduceLeDiff, Nat.reduceMul, Nat.reduceAdd, Nat.reduceSub, Nat.reduceEqDiff, not_false_eq_true, not_true_eq_false, false_or, or_false, true_or, or_true, false_imp_iff, true_imp_iff, and_true, true_and, forall_const, false_implies, true_implies, b_t0, b_f0, tg_1, rf_1_0, rf_1_1, rf_1_2, rf_1_3, rf_1_4, rf_1_5, rf_1_6, tg_2, rf_2_0, rf_2_1, rf_2_2, rf_2_3, tg_3, ln_3, tg_4, ln_4, tg_5, rf_5_0, tg_6, ln_6, tg_7, rf_7_0, tg_8, ln_8, tg_123, rf_123_0, rf_123_1, rf_123_2, rf_123_3, rf_123_4, tg_124, ln_124, tg_125, rf_125_0, tg_126, ln_126, tg_127, rf_127_0, tg_128, ln_128, tg_129, ln_129, tg_322, rf_322_0, rf_322_1, rf_322_2, rf_322_3, tg_323, ln_323, tg_324, ln_324, tg_325, rf_325_0, rf_325_1, rf_325_2, tg_326, rf_326_0, tg_327, ln_327, tg_328, rf_328_0, tg_329, ln_329, tg_330, rf_330_0, rf_330_1, rf_330_2, tg_331, rf_331_0, tg_332, ln_332, tg_333, rf_333_0, tg_334, ln_334, tg_335, ln_335, tg_336, rf_336_0, tg_337, ln_337, tg_339, ln_339, tg_346, rf_346_1, rf_346_2, rf_346_4, rf_346_5, rf_346_6, rf_346_7, rf_346_8, rf_346_11, rf_346_13, rf_346_14, rf_346_15, rf_346_17, rf_346_18, rf_346_19, rf_346_20, rf_346_21, rf_346_22, rf_346_26, rf_346_28, rf_346_29, rf_346_32, rf_346_34, rf_346_35, rf_346_36, tg_347, ln_347, tg_348, ln_348, tg_349, ln_349, tg_350, ln_350, tg_351, ln_351, tg_352, ln_352, tg_353, ln_353, tg_354, ln_354, tg_355, ln_355, tg_356, ln_356, tg_357, ln_357, tg_358, ln_358, tg_359, ln_359, tg_360, ln_360, tg_361, ln_361, tg_362, ln_362, tg_363, ln_363, tg_364, ln_364, tg_365, ln_365, tg_366, ln_366, tg_367, ln_367, tg_368, ln_368, tg_369, ln_369, tg_370, ln_370, sp_hasHeap, r2, hh, b2_f]
  | succ j ih =>
    intro k J hk R hL
    have hk2 : k < len := by omega
    have n64 := R.1
    have r2 := R.2.1
    have ak := C.2.2.1 k hk2
    have a64 : an s.2.1 h k < 64 := by omega
    obtain ⟨l1, l2, l3⟩ := lay_H _ a64
    have s1 : k < 2147483648 := by omega
    have s2 : ¬ 64 ≤ k := by omega
    have t1 : an s.2.1 h k < 2147483648 := by omega
    have t2 : ¬ 64 ≤ an s.2.1 h k := by omega
    have hh : (!decide (nI (an s.2.1 h k) < nI 0) && !decide (nI s.1 ≤ nI (an s.2.1 h k))) = true := by
      rw [has_in (by omega), inI_nn t1]
      simp [ak]
    obtain ⟨g1, g2, g3, g4, g5, g6, g7⟩ := R.2.2.2.2.2 _ ak
    have n2 : 130 + 3 * an s.2.1 h k ≠ 322 := by omega
    have n3 : 130 + 3 * an s.2.1 h k ≠ 323 := by omega
    have n4 : (322 : Nat) ≠ 323 := by omega
    have eo : oA s h len k = nI (an s.2.1 h k) := by unfold oA; rw [if_pos hk2]
    have e1 := oA_s C hk2
    rw [← g4] at e1
    obtain ⟨J', f1, f0, f2, f3, E⟩ := ih (k + 1) (f_up (f_up J 323 k (nI (an s.2.1 h k))) 322 4 (nI (k + 1))) (by omega) (RX_hi R (fun o ho => by rw [f_up_ne (by omega), f_up_ne (by omega)])) f_up_eq
    refine ⟨J', fun o h1 h2 => by rw [f1 o h1 h2, f_up_ne h1, f_up_ne h2], f0, fun u h1 h2 => ?_, fun u h1 => ?_, fun d Q => ?_⟩
    · by_cases q : u = k
      · subst q
        rw [f3 u (by omega), f_up_ne (by omega), f_up_eq]
      · exact f2 u (by omega) h2
    · rw [f3 u (by omega), f_up_ne (by omega), f_up_at, if_neg (by omega)]
    · rw [eo, ← E d Q, w71_7]
      simp only [w71_8, w71_11, w71_12, w71_15, w71_18, w71_19, w71_22, w71_24, w71_27, w71_28, w71_31, w71_32, w71_35, w71_36, w71_37, w71_38, w71_38r, w71_39, w71_42, w71_43, w71_44, w71_47, w71_48, w71_51, w71_54, w71_55, w71_56, w71_59, w71_60, eq_self, Nat.zero_le, n_lt, n_le, n_eq, n_neg, n_cl, n_mul, n_add, z_0, z_1, z_2, sc_0, sc_i, sc_r, sc_l, sc_n, jc_n, jc_i, jc_r, jc_l, Option.toList_some, Option.toList_none, List.cons_append, List.nil_append, Nat.reduceLT, Nat.reduceLeDiff, Nat.reduceMul, Nat.reduceAdd, Nat.reduceSub, Nat.reduceEqDiff, not_false_eq_true, not_true_eq_false, false_or, or_false, true_or, or_true, false_imp_iff, true_imp_iff, and_true, true_and, forall_const, false_implies, true_implies, b_t0, b_f0, tg_1, rf_1_0, rf_1_1, rf_1_2, rf_1_3, rf_1_4, rf_1_5, rf_1_6, tg_2, rf_2_0, rf_2_1, rf_2_2, rf_2_3, tg_3, ln_3, tg_4, ln_4, tg_5, rf_5_0, tg_6, ln_6, tg_7, rf_7_0, tg_8, ln_8, tg_123, rf_123_0, rf_123_1, rf_123_2, rf_123_3, rf_123_4, tg_124, ln_124, tg_125, rf_125_0, tg_126, ln_126, tg_127, rf_127_0, tg_128, ln_128, tg_129, ln_129, tg_322, rf_322_0, rf_322_1, rf_322_2, rf_322_3, tg_323, ln_323, tg_324, ln_324, tg_325, rf_325_0, rf_325_1, rf_325_2, tg_326, rf_326_0, tg_327, ln_327, tg_328, rf_328_0, tg_329, ln_329, tg_330, rf_330_0, rf_330_1, rf_330_2, tg_331, rf_331_0, tg_332, ln_332, tg_333, rf_333_0, tg_334, ln_334, tg_335, ln_335, tg_336, rf_336_0, tg_337, ln_337, tg_339, ln_339, tg_346, rf_346_1, rf_346_2, rf_346_4, rf_346_5, rf_346_6, rf_346_7, rf_346_8, rf_346_11, rf_346_13, rf_346_14, rf_346_15, rf_346_17, rf_346_18, rf_346_19, rf_346_20, rf_346_21, rf_346_22, rf_346_26, rf_346_28, rf_346_29, rf_346_32, rf_346_34, rf_346_35, rf_346_36, tg_347, ln_347, tg_348, ln_348, tg_349, ln_349, tg_350, ln_350, tg_351, ln_351, tg_352, ln_352, tg_353, ln_353, tg_354, ln_354, tg_355, ln_355, tg_356, ln_356, tg_357, ln_357, tg_358, ln_358, tg_359, ln_359, tg_360, ln_360, tg_361, ln_361, tg_362, ln_362, tg_363, ln_363, tg_364, ln_364, tg_365, ln_365, tg_366, ln_366, tg_367, ln_367, tg_368, ln_368, tg_369, ln_369, tg_370, ln_370, sp_hasHeap, r2, hL, hh, b2_t, f_up_eq, n_le (show 64 < 2147483648 by decide) s1, s2, n_cl s1, n_neg s1, n_cl t1, n_neg t1, t2, l1, l2, f_up_ne n2, f_up_ne n3, f_up_ne n4, e1]
theorem sp_layPath {I : fI} (R : RX I s) (C : CH s h len) (hl : len ≤ 64) : ∃ J' : fI, (∀ o, o ≠ 322 → o ≠ 323 → J' o = I o) ∧ J' 322 4 = nI len ∧ (∀ u, u < len → J' 323 u = nI (an s.2.1 h u)) ∧ ∀ (d : Nat) (Q : Option Value × jW → Prop), Wp (d + 1) 71 0 [some (.ref 322), some (.int (nI h)), none] [] (f_W xs I L) Q = Q (none, f_W xs J' L) := by
  have c1 := C.1
  have e0 : oA s h len 0 = nI h := by unfold oA; rw [if_pos (by omega)]; rfl
  obtain ⟨J', f1, f0, f2, -, E⟩ := x_lp (xs := xs) (L := L) C hl len 0 (f_up I 322 4 (nI 0)) (by omega) (RX_hi R (fun o ho => f_up_ne (by omega))) f_up_eq
  rw [e0] at E
  refine ⟨J', fun o h1 h2 => by rw [f1 o h1 h2, f_up_ne h1], f0, fun u hu => f2 u (Nat.zero_le _) hu, fun d Q => ?_⟩
  simp only [w71_0, w71_1, w71_2, w71_5, w71_6, eq_self, Nat.zero_le, n_lt, n_le, n_eq, n_neg, n_cl, n_mul, n_add, z_0, z_1, z_2, sc_0, sc_i, sc_r, sc_l, sc_n, jc_n, jc_i, jc_r, jc_l, Option.toList_some, Option.toList_none, List.cons_append, List.nil_append, Nat.reduceLT, Nat.reduceLeDiff, Nat.reduceMul, Nat.reduceAdd, Nat.reduceSub, Nat.reduceEqDiff, not_false_eq_true, not_true_eq_false, false_or, or_false, true_or, or_true, false_imp_iff, true_imp_iff, and_true, true_and, forall_const, false_implies, true_implies, b_t0, b_f0, tg_1, rf_1_0, rf_1_1, rf_1_2, rf_1_3, rf_1_4, rf_1_5, rf_1_6, tg_2, rf_2_0, rf_2_1, rf_2_2, rf_2_3, tg_3, ln_3, tg_4, ln_4, tg_5, rf_5_0, tg_6, ln_6, tg_7, rf_7_0, tg_8, ln_8, tg_123, rf_123_0, rf_123_1, rf_123_2, rf_123_3, rf_123_4, tg_124, ln_124, tg_125, rf_125_0, tg_126, ln_126, tg_127, rf_127_0, tg_128, ln_128, tg_129, ln_129, tg_322, rf_322_0, rf_322_1, rf_322_2, rf_322_3, tg_323, ln_323, tg_324, ln_324, tg_325, rf_325_0, rf_325_1, rf_325_2, tg_326, rf_326_0, tg_327, ln_327, tg_328, rf_328_0, tg_329, ln_329, tg_330, rf_330_0, rf_330_1, rf_330_2, tg_331, rf_331_0, tg_332, ln_332, tg_333, rf_333_0, tg_334, ln_334, tg_335, ln_335, tg_336, rf_336_0, tg_337, ln_337, tg_339, ln_339, tg_346, rf_346_1, rf_346_2, rf_346_4, rf_346_5, rf_346_6, rf_346_7, rf_346_8, rf_346_11, rf_346_13, rf_346_14, rf_346_15, rf_346_17, rf_346_18, rf_346_19, rf_346_20, rf_346_21, rf_346_22, rf_346_26, rf_346_28, rf_346_29, rf_346_32, rf_346_34, rf_346_35, rf_346_36, tg_347, ln_347, tg_348, ln_348, tg_349, ln_349, tg_350, ln_350, tg_351, ln_351, tg_352, ln_352, tg_353, ln_353, tg_354, ln_354, tg_355, ln_355, tg_356, ln_356, tg_357, ln_357, tg_358, ln_358, tg_359, ln_359, tg_360, ln_360, tg_361, ln_361, tg_362, ln_362, tg_363, ln_363, tg_364, ln_364, tg_365, ln_365, tg_366, ln_366, tg_367, ln_367, tg_368, ln_368, tg_369, ln_369, tg_370, ln_370, E]
theorem sp_tput {I : fI} {i x d : Nat} {v : Int32} {Q : Option Value × jW → Prop} (hi : i < 64) (hx : x < 3) : Wp (d + 1) 72 0 [some (.ref 322), some (.int (nI i)), some (.int (nI x)), some (.int v)] [] (f_W xs I L) Q = Q (none, f_W xs (f_up I 324 (3 * i + x) v) L) := by
  have i1 : i < 2147483648 := by omega
  have t1 : 3 * i + x < 2147483648 := by omega
  have t2 : ¬ 192 ≤ 3 * i + x := by omega
  have i2 : ¬ 64 ≤ i := by omega
  simp only [w72_0, w72_1, w72_4, w72_5, w72_7, w72_10, w72_11, w72_14, w72_17, w72_18, w72_21, w72_22, w72_23, w72_24, w72_25, w72_26, w72_27, w72_28, eq_self, Nat.zero_le, n_lt, n_le, n_eq, n_neg, n_cl, n_mul, n_add, z_0, z_1, z_2, sc_0, sc_i, sc_r, sc_l, sc_n, jc_n, jc_i, jc_r, jc_l, Option.toList_some, Option.toList_none, List.cons_append, List.nil_append, Nat.reduceLT, Nat.reduceLeDiff, Nat.reduceMul, Nat.reduceAdd, Nat.reduceSub, Nat.reduceEqDiff, not_false_eq_true, not_true_eq_false, false_or, or_false, true_or, or_true, false_imp_iff, true_imp_iff, and_true, true_and, forall_const, false_implies, true_implies, b_t0, b_f0, tg_1, rf_1_0, rf_1_1, rf_1_2, rf_1_3, rf_1_4, rf_1_5, rf_1_6, tg_2, rf_2_0, rf_2_1, rf_2_2, rf_2_3, tg_3, ln_3, tg_4, ln_4, tg_5, rf_5_0, tg_6, ln_6, tg_7, rf_7_0, tg_8, ln_8, tg_123, rf_123_0, rf_123_1, rf_123_2, rf_123_3, rf_123_4, tg_124, ln_124, tg_125, rf_125_0, tg_126, ln_126, tg_127, rf_127_0, tg_128, ln_128, tg_129, ln_129, tg_322, rf_322_0, rf_322_1, rf_322_2, rf_322_3, tg_323, ln_323, tg_324, ln_324, tg_325, rf_325_0, rf_325_1, rf_325_2, tg_326, rf_326_0, tg_327, ln_327, tg_328, rf_328_0, tg_329, ln_329, tg_330, rf_330_0, rf_330_1, rf_330_2, tg_331, rf_331_0, tg_332, ln_332, tg_333, rf_333_0, tg_334, ln_334, tg_335, ln_335, tg_336, rf_336_0, tg_337, ln_337, tg_339, ln_339, tg_346, rf_346_1, rf_346_2, rf_346_4, rf_346_5, rf_346_6, rf_346_7, rf_346_8, rf_346_11, rf_346_13, rf_346_14, rf_346_15, rf_346_17, rf_346_18, rf_346_19, rf_346_20, rf_346_21, rf_346_22, rf_346_26, rf_346_28, rf_346_29, rf_346_32, rf_346_34, rf_346_35, rf_346_36, tg_347, ln_347, tg_348, ln_348, tg_349, ln_349, tg_350, ln_350, tg_351, ln_351, tg_352, ln_352, tg_353, ln_353, tg_354, ln_354, tg_355, ln_355, tg_356, ln_356, tg_357, ln_357, tg_358, ln_358, tg_359, ln_359, tg_360, ln_360, tg_361, ln_361, tg_362, ln_362, tg_363, ln_363, tg_364, ln_364, tg_365, ln_365, tg_366, ln_366, tg_367, ln_367, tg_368, ln_368, tg_369, ln_369, tg_370, ln_370, sp_isVariable, isVar_n hx, b2_t, n_ng i1, n_le (show 64 < 2147483648 by decide) i1, i2, n_cl t1, n_neg t1, t2]
/-- what the trail's pass needs -/
def TP (I J : fI) (s : gS) (h len : Nat) : Prop := (∀ o, o ≠ 322 → o ≠ 323 → o ≠ 324 → J o = I o) ∧ J 322 4 = nI len ∧ ∀ u, u < len → J 323 u = nI (an s.2.1 h u)
theorem TP.up {I J : fI} (t : TP I J s h len) {k : Nat} {v : Int32} : TP I (f_up J 324 k v) s h len := ⟨fun o h1 h2 h3 => by rw [f_up_ne h3]; exact t.1 o h1 h2 h3, by rw [f_up_ne (by omega)]; exact t.2.1, fun u hu => by rw [f_up_ne (by omega)]; exact t.2.2 u hu⟩
theorem sp_heapOf {I J : fI} (R : RX I s) (ck : ∀ k, k < len → an s.2.1 h k < s.1) (hl : len ≤ 64) (t : TP I J s h len) {i k d : Nat} {Q : Option Value × jW → Prop} (hi : i < len) (hk : k = len - 1 - i) : Wp (d + 2) 172 0 [some (.ref 322), some (.int (nI i))] [] (f_W xs J L) Q = Q (some (.ref (130 + 3 * an s.2.1 h k)), f_W xs J L) := by
  obtain ⟨t0, t1, t2⟩ := t
  have n64 := R.1
  have RJ : RX J s := RX_hi R (fun o ho => t0 o (by omega) (by omega) (by omega))
  have ak := ck k (by omega)
  have i1 : i < 2147483648 := by omega
  have l1 : len < 2147483648 := by omega
  have i2 : ¬ len ≤ i := by omega
  have k1 : k < 2147483648 := by omega
  have k2 : ¬ 64 ≤ k := by omega
  have ek : nI len - nI 1 - nI i = nI k := by rw [n_subg hl (by omega), n_subg (by omega) (by omega), hk]
  simp only [w172_0, w172_1, w172_4, w172_5, w172_8, w172_9, w172_10, w172_13, w172_16, w172_17, w172_20, w172_21, w172_24, w172_25, w172_26, w172_27, w172_28, w172_29, w172_32, w172_34, w172_37, w172_37n, eq_self, Nat.zero_le, n_lt, n_le, n_eq, n_neg, n_cl, n_mul, n_add, z_0, z_1, z_2, sc_0, sc_i, sc_r, sc_l, sc_n, jc_n, jc_i, jc_r, jc_l, Option.toList_some, Option.toList_none, List.cons_append, List.nil_append, Nat.reduceLT, Nat.reduceLeDiff, Nat.reduceMul, Nat.reduceAdd, Nat.reduceSub, Nat.reduceEqDiff, not_false_eq_true, not_true_eq_false, false_or, or_false, true_or, or_true, false_imp_iff, true_imp_iff, and_true, true_and, forall_const, false_implies, true_implies, b_t0, b_f0, tg_1, rf_1_0, rf_1_1, rf_1_2, rf_1_3, rf_1_4, rf_1_5, rf_1_6, tg_2, rf_2_0, rf_2_1, rf_2_2, rf_2_3, tg_3, ln_3, tg_4, ln_4, tg_5, rf_5_0, tg_6, ln_6, tg_7, rf_7_0, tg_8, ln_8, tg_123, rf_123_0, rf_123_1, rf_123_2, rf_123_3, rf_123_4, tg_124, ln_124, tg_125, rf_125_0, tg_126, ln_126, tg_127, rf_127_0, tg_128, ln_128, tg_129, ln_129, tg_322, rf_322_0, rf_322_1, rf_322_2, rf_322_3, tg_323, ln_323, tg_324, ln_324, tg_325, rf_325_0, rf_325_1, rf_325_2, tg_326, rf_326_0, tg_327, ln_327, tg_328, rf_328_0, tg_329, ln_329, tg_330, rf_330_0, rf_330_1, rf_330_2, tg_331, rf_331_0, tg_332, ln_332, tg_333, rf_333_0, tg_334, ln_334, tg_335, ln_335, tg_336, rf_336_0, tg_337, ln_337, tg_339, ln_339, tg_346, rf_346_1, rf_346_2, rf_346_4, rf_346_5, rf_346_6, rf_346_7, rf_346_8, rf_346_11, rf_346_13, rf_346_14, rf_346_15, rf_346_17, rf_346_18, rf_346_19, rf_346_20, rf_346_21, rf_346_22, rf_346_26, rf_346_28, rf_346_29, rf_346_32, rf_346_34, rf_346_35, rf_346_36, tg_347, ln_347, tg_348, ln_348, tg_349, ln_349, tg_350, ln_350, tg_351, ln_351, tg_352, ln_352, tg_353, ln_353, tg_354, ln_354, tg_355, ln_355, tg_356, ln_356, tg_357, ln_357, tg_358, ln_358, tg_359, ln_359, tg_360, ln_360, tg_361, ln_361, tg_362, ln_362, tg_363, ln_363, tg_364, ln_364, tg_365, ln_365, tg_366, ln_366, tg_367, ln_367, tg_368, ln_368, tg_369, ln_369, tg_370, ln_370, n_ng i1, t1, n_le l1 i1, i2, ek, n_cl k1, n_neg k1, k2, t2 k (by omega), sp_heapAt RJ ak]
theorem sp_lb {I J : fI} {mc jc lim : Nat} {fj tj : Nat → Nat} (hM : MI I mc jc fj tj lim) (R : RX I s) (V : INV mc jc fj tj (fun j f => rS3 I j (tj j) f) s) (C : CH s h len) (N : ∀ k, k < len → (s.2.1 (an s.2.1 h k)).2.2.2.2.2 = false) (hl : len ≤ 64) (t : TP I J s h len) {k x d : Nat} {v : Int32} {Q : Option Value × jW → Prop} (hk : k + 1 < len) (hx : x < 3) : Wp (d + 3) 73 0 [some (.ref 322), some (.int (nI (len - 2 - k))), some (.int (nI x)), some (.int v), none, none, none] [] (f_W xs J L) Q = Q (some (.int (bk I (s.2.1 (an s.2.1 h (k + 1))) (s.2.1 (an s.2.1 h k)).2.2.2.1 x v)), f_W xs J L) := by
  have o1 := fun (d : Nat) (Q : Option Value × jW → Prop) => sp_heapOf (d := d) (Q := Q) (xs := xs) (L := L) R C.2.2.1 hl t (i := len - 2 - k) (k := k + 1) (by omega) (by omega)
  have o2 := fun (d : Nat) (Q : Option Value × jW → Prop) => sp_heapOf (d := d) (Q := Q) (xs := xs) (L := L) R C.2.2.1 hl t (i := len - 2 - k + 1) (k := k) (by omega) (by omega)
  obtain ⟨t0, t1, t2⟩ := t
  have n64 := R.1
  have a1 := C.2.2.1 k (by omega)
  have a2 := C.2.2.1 (k + 1) hk
  have mm := (V.2 _ a2).1
  obtain ⟨g1, g2, g3, g4, g5, g6, g7⟩ := R.2.2.2.2.2 _ a1
  obtain ⟨h1, h2, h3, h4, h5, h6, h7⟩ := R.2.2.2.2.2 _ a2
  have lo : ∀ o, o < 322 → J o = I o := fun o ho => t0 o (by omega) (by omega) (by omega)
  have hw := ch_how V C N hk
  generalize an s.2.1 h k = b at *
  generalize an s.2.1 h (k + 1) = c at *
  obtain ⟨l1, l2, l3⟩ := lay_H b (by omega)
  obtain ⟨m1, m2, m3⟩ := lay_H c (by omega)
  obtain ⟨q1, q2, q3, q4, q5⟩ := lay_M (s.2.1 c).1 h2
  have e1 : J (130 + 3 * b) 3 = (s.2.1 b).2.2.2.1 := by rw [lo _ (by omega)]; exact g5
  have e2 : J (130 + 3 * c) 1 = nI (s.2.1 c).1 := by rw [lo _ (by omega)]; exact h1
  have mA := fun (d : Nat) (Q : Option Value × jW → Prop) => sp_modeAt (d := d) (Q := Q) (xs := xs) (I := J) (L := L) (by rw [lo 2 (by omega)]; exact hM.1) hM.2.1 mm
  have le := fun (d : Nat) (Q : Option Value × jW → Prop) => sp_least (d := d) (Q := Q) (xs := xs) (I := J) (L := L) (bx_hp (show c < 64 by omega)) hx
  rw [show 131 + 3 * c + 1 = 132 + 3 * c by omega, lo (132 + 3 * c) (by omega), h3 (2 * x) (by omega)] at le
  rcases hw with w | ⟨j, w1, w2, w3, w4⟩
  · have gr := fun (d : Nat) (Q : Option Value × jW → Prop) => sp_greatest (d := d) (Q := Q) (xs := xs) (I := J) (L := L) (bx_sl h2) hx
    rw [show 12 + 7 * (s.2.1 c).1 + 1 = 13 + 7 * (s.2.1 c).1 by omega, lo (13 + 7 * (s.2.1 c).1) (by omega)] at gr
    unfold bk
    rw [if_pos w]
    unfold mxI
    rw [w] at e1
    simp only [w73_0, w73_1, w73_2, w73_5, w73_7, w73_8, w73_9, w73_10, w73_11, w73_14, w73_17, w73_19, w73_21, w73_24, w73_25, w73_28, w73_30, w73_33, w73_36, w73_39, w73_40, w73_43, w73_45, w73_47, w73_50, w73_51, w73_54, w73_55, w73_57, w73_58, w73_61, w73_62, w73_63, w73_66, w73_68, w73_69, w73_70, w73_73, w73_76, w73_77, w73_80, w73_83, w73_85, w73_86, w73_87, w73_88, w73_89, w73_92, w73_95, w73_97, w73_100, w73_101, w73_104, w73_105, w73_108, w73_111, w73_113, w73_114, w73_115, w73_116, w73_119, w73_120, w73_123, w73_126, w73_127, w73_128, eq_self, Nat.zero_le, n_lt, n_le, n_eq, n_neg, n_cl, n_mul, n_add, z_0, z_1, z_2, sc_0, sc_i, sc_r, sc_l, sc_n, jc_n, jc_i, jc_r, jc_l, Option.toList_some, Option.toList_none, List.cons_append, List.nil_append, Nat.reduceLT, Nat.reduceLeDiff, Nat.reduceMul, Nat.reduceAdd, Nat.reduceSub, Nat.reduceEqDiff, not_false_eq_true, not_true_eq_false, false_or, or_false, true_or, or_true, false_imp_iff, true_imp_iff, and_true, true_and, forall_const, false_implies, true_implies, b_t0, b_f0, tg_1, rf_1_0, rf_1_1, rf_1_2, rf_1_3, rf_1_4, rf_1_5, rf_1_6, tg_2, rf_2_0, rf_2_1, rf_2_2, rf_2_3, tg_3, ln_3, tg_4, ln_4, tg_5, rf_5_0, tg_6, ln_6, tg_7, rf_7_0, tg_8, ln_8, tg_123, rf_123_0, rf_123_1, rf_123_2, rf_123_3, rf_123_4, tg_124, ln_124, tg_125, rf_125_0, tg_126, ln_126, tg_127, rf_127_0, tg_128, ln_128, tg_129, ln_129, tg_322, rf_322_0, rf_322_1, rf_322_2, rf_322_3, tg_323, ln_323, tg_324, ln_324, tg_325, rf_325_0, rf_325_1, rf_325_2, tg_326, rf_326_0, tg_327, ln_327, tg_328, rf_328_0, tg_329, ln_329, tg_330, rf_330_0, rf_330_1, rf_330_2, tg_331, rf_331_0, tg_332, ln_332, tg_333, rf_333_0, tg_334, ln_334, tg_335, ln_335, tg_336, rf_336_0, tg_337, ln_337, tg_339, ln_339, tg_346, rf_346_1, rf_346_2, rf_346_4, rf_346_5, rf_346_6, rf_346_7, rf_346_8, rf_346_11, rf_346_13, rf_346_14, rf_346_15, rf_346_17, rf_346_18, rf_346_19, rf_346_20, rf_346_21, rf_346_22, rf_346_26, rf_346_28, rf_346_29, rf_346_32, rf_346_34, rf_346_35, rf_346_36, tg_347, ln_347, tg_348, ln_348, tg_349, ln_349, tg_350, ln_350, tg_351, ln_351, tg_352, ln_352, tg_353, ln_353, tg_354, ln_354, tg_355, ln_355, tg_356, ln_356, tg_357, ln_357, tg_358, ln_358, tg_359, ln_359, tg_360, ln_360, tg_361, ln_361, tg_362, ln_362, tg_363, ln_363, tg_364, ln_364, tg_365, ln_365, tg_366, ln_366, tg_367, ln_367, tg_368, ln_368, tg_369, ln_369, tg_370, ln_370, o1, o2, mA, l2, m2, m3, e1, e2, q2, q4, (bx_sl h2).1, gr, (bx_hp (show c < 64 by omega)).1, le]
  · have j12 : j < 12 := by have := hM.2.2.2.1; omega
    obtain ⟨y1, y2, y3, y4, y5, y6, y7⟩ := lay_J j j12
    have z1 : j < 2147483648 := by omega
    have z2 : ¬ 12 ≤ j := by omega
    have z3 : ¬ nI (1 + j) = nI 0 := n_1j0 j12
    have z4 : nI (1 + j) - nI 1 = nI j := by rw [Nat.add_comm, n_sub1 (by omega)]
    have hJ : hasJ J (nI j) = true := by
      have h25 : J 2 5 = nI jc := by rw [lo 2 (by omega)]; exact hM.2.2.1
      rw [hasJ_n h25 hM.2.2.2.1 (by omega)]
      simp [w1]
    have hB : isB (J (56 + 6 * j) x) := by rw [lo (56 + 6 * j) (by omega)]; exact (hM.2.2.2.2.1 j w1).2.2.2.2 x hx
    have se := fun (d : Nat) (Q : Option Value × jW → Prop) => sp_sets (d := d) (Q := Q) (xs := xs) (I := J) (L := L) j12 hx hB
    rw [lo (56 + 6 * j) (by omega)] at se hB
    have gl := fun (d : Nat) (Q : Option Value × jW → Prop) => sp_least (d := d) (Q := Q) (xs := xs) (I := J) (L := L) (bx_ga j12) hx
    rw [show 52 + 6 * j + 1 = 53 + 6 * j by omega, lo (53 + 6 * j) (by omega)] at gl
    unfold bk
    rw [w2, if_neg z3, iN_1 j12]
    rw [w2] at e1
    rcases hB with r | r
    · have r' : I (56 + 6 * j) x = nI 0 := r
      rw [if_pos r']
      rw [r'] at se
      simp only [w73_0, w73_1, w73_2, w73_5, w73_7, w73_8, w73_9, w73_10, w73_11, w73_14, w73_17, w73_19, w73_21, w73_24, w73_25, w73_28, w73_30, w73_33, w73_36, w73_39, w73_40, w73_43, w73_45, w73_47, w73_50, w73_51, w73_54, w73_55, w73_57, w73_58, w73_61, w73_62, w73_63, w73_66, w73_68, w73_69, w73_70, w73_73, w73_76, w73_77, w73_80, w73_83, w73_85, w73_86, w73_87, w73_88, w73_89, w73_92, w73_95, w73_97, w73_100, w73_101, w73_104, w73_105, w73_108, w73_111, w73_113, w73_114, w73_115, w73_116, w73_119, w73_120, w73_123, w73_126, w73_127, w73_128, eq_self, Nat.zero_le, n_lt, n_le, n_eq, n_neg, n_cl, n_mul, n_add, z_0, z_1, z_2, sc_0, sc_i, sc_r, sc_l, sc_n, jc_n, jc_i, jc_r, jc_l, Option.toList_some, Option.toList_none, List.cons_append, List.nil_append, Nat.reduceLT, Nat.reduceLeDiff, Nat.reduceMul, Nat.reduceAdd, Nat.reduceSub, Nat.reduceEqDiff, not_false_eq_true, not_true_eq_false, false_or, or_false, true_or, or_true, false_imp_iff, true_imp_iff, and_true, true_and, forall_const, false_implies, true_implies, b_t0, b_f0, tg_1, rf_1_0, rf_1_1, rf_1_2, rf_1_3, rf_1_4, rf_1_5, rf_1_6, tg_2, rf_2_0, rf_2_1, rf_2_2, rf_2_3, tg_3, ln_3, tg_4, ln_4, tg_5, rf_5_0, tg_6, ln_6, tg_7, rf_7_0, tg_8, ln_8, tg_123, rf_123_0, rf_123_1, rf_123_2, rf_123_3, rf_123_4, tg_124, ln_124, tg_125, rf_125_0, tg_126, ln_126, tg_127, rf_127_0, tg_128, ln_128, tg_129, ln_129, tg_322, rf_322_0, rf_322_1, rf_322_2, rf_322_3, tg_323, ln_323, tg_324, ln_324, tg_325, rf_325_0, rf_325_1, rf_325_2, tg_326, rf_326_0, tg_327, ln_327, tg_328, rf_328_0, tg_329, ln_329, tg_330, rf_330_0, rf_330_1, rf_330_2, tg_331, rf_331_0, tg_332, ln_332, tg_333, rf_333_0, tg_334, ln_334, tg_335, ln_335, tg_336, rf_336_0, tg_337, ln_337, tg_339, ln_339, tg_346, rf_346_1, rf_346_2, rf_346_4, rf_346_5, rf_346_6, rf_346_7, rf_346_8, rf_346_11, rf_346_13, rf_346_14, rf_346_15, rf_346_17, rf_346_18, rf_346_19, rf_346_20, rf_346_21, rf_346_22, rf_346_26, rf_346_28, rf_346_29, rf_346_32, rf_346_34, rf_346_35, rf_346_36, tg_347, ln_347, tg_348, ln_348, tg_349, ln_349, tg_350, ln_350, tg_351, ln_351, tg_352, ln_352, tg_353, ln_353, tg_354, ln_354, tg_355, ln_355, tg_356, ln_356, tg_357, ln_357, tg_358, ln_358, tg_359, ln_359, tg_360, ln_360, tg_361, ln_361, tg_362, ln_362, tg_363, ln_363, tg_364, ln_364, tg_365, ln_365, tg_366, ln_366, tg_367, ln_367, tg_368, ln_368, tg_369, ln_369, tg_370, ln_370, o1, o2, l2, m2, m3, e1, e2, z3, z4, sp_hasJump, hJ, b2_t, n_cl z1, n_neg z1, z2, y1, y2, se]
    · have r' : I (56 + 6 * j) x = nI 1 := r
      have r0 : ¬ I (56 + 6 * j) x = nI 0 := by rw [r']; decide
      rw [if_neg r0]
      unfold mxI
      rw [r'] at se
      simp only [w73_0, w73_1, w73_2, w73_5, w73_7, w73_8, w73_9, w73_10, w73_11, w73_14, w73_17, w73_19, w73_21, w73_24, w73_25, w73_28, w73_30, w73_33, w73_36, w73_39, w73_40, w73_43, w73_45, w73_47, w73_50, w73_51, w73_54, w73_55, w73_57, w73_58, w73_61, w73_62, w73_63, w73_66, w73_68, w73_69, w73_70, w73_73, w73_76, w73_77, w73_80, w73_83, w73_85, w73_86, w73_87, w73_88, w73_89, w73_92, w73_95, w73_97, w73_100, w73_101, w73_104, w73_105, w73_108, w73_111, w73_113, w73_114, w73_115, w73_116, w73_119, w73_120, w73_123, w73_126, w73_127, w73_128, eq_self, Nat.zero_le, n_lt, n_le, n_eq, n_neg, n_cl, n_mul, n_add, z_0, z_1, z_2, sc_0, sc_i, sc_r, sc_l, sc_n, jc_n, jc_i, jc_r, jc_l, Option.toList_some, Option.toList_none, List.cons_append, List.nil_append, Nat.reduceLT, Nat.reduceLeDiff, Nat.reduceMul, Nat.reduceAdd, Nat.reduceSub, Nat.reduceEqDiff, not_false_eq_true, not_true_eq_false, false_or, or_false, true_or, or_true, false_imp_iff, true_imp_iff, and_true, true_and, forall_const, false_implies, true_implies, b_t0, b_f0, tg_1, rf_1_0, rf_1_1, rf_1_2, rf_1_3, rf_1_4, rf_1_5, rf_1_6, tg_2, rf_2_0, rf_2_1, rf_2_2, rf_2_3, tg_3, ln_3, tg_4, ln_4, tg_5, rf_5_0, tg_6, ln_6, tg_7, rf_7_0, tg_8, ln_8, tg_123, rf_123_0, rf_123_1, rf_123_2, rf_123_3, rf_123_4, tg_124, ln_124, tg_125, rf_125_0, tg_126, ln_126, tg_127, rf_127_0, tg_128, ln_128, tg_129, ln_129, tg_322, rf_322_0, rf_322_1, rf_322_2, rf_322_3, tg_323, ln_323, tg_324, ln_324, tg_325, rf_325_0, rf_325_1, rf_325_2, tg_326, rf_326_0, tg_327, ln_327, tg_328, rf_328_0, tg_329, ln_329, tg_330, rf_330_0, rf_330_1, rf_330_2, tg_331, rf_331_0, tg_332, ln_332, tg_333, rf_333_0, tg_334, ln_334, tg_335, ln_335, tg_336, rf_336_0, tg_337, ln_337, tg_339, ln_339, tg_346, rf_346_1, rf_346_2, rf_346_4, rf_346_5, rf_346_6, rf_346_7, rf_346_8, rf_346_11, rf_346_13, rf_346_14, rf_346_15, rf_346_17, rf_346_18, rf_346_19, rf_346_20, rf_346_21, rf_346_22, rf_346_26, rf_346_28, rf_346_29, rf_346_32, rf_346_34, rf_346_35, rf_346_36, tg_347, ln_347, tg_348, ln_348, tg_349, ln_349, tg_350, ln_350, tg_351, ln_351, tg_352, ln_352, tg_353, ln_353, tg_354, ln_354, tg_355, ln_355, tg_356, ln_356, tg_357, ln_357, tg_358, ln_358, tg_359, ln_359, tg_360, ln_360, tg_361, ln_361, tg_362, ln_362, tg_363, ln_363, tg_364, ln_364, tg_365, ln_365, tg_366, ln_366, tg_367, ln_367, tg_368, ln_368, tg_369, ln_369, tg_370, ln_370, o1, o2, l2, m2, m3, e1, e2, z3, z4, sp_hasJump, hJ, b2_t, n_cl z1, n_neg z1, z2, y1, y2, y3, se, (bx_ga j12).1, gl, (bx_hp (show c < 64 by omega)).1, le]
def iQ (len k : Nat) : Int32 := if k + 1 < len then nI (len - 2 - k) else -1
theorem iQ_0 {len : Nat} (h1 : 1 ≤ len) (h2 : len ≤ 64) : nI len - nI 2 = iQ len 0 := by
  have hd : ∀ l, l < 64 → nI (l + 1) - nI 2 = if 0 + 1 < l + 1 then nI (l + 1 - 2 - 0) else -1 := by decide +kernel
  have := hd (len - 1) (by omega)
  rw [show len - 1 + 1 = len by omega] at this
  exact this
theorem iQ_s {len k : Nat} (hl : len ≤ 64) (hk : k + 1 < len) : nI (len - 2 - k) + -1 = iQ len (k + 1) := by
  unfold iQ
  by_cases q : k + 1 + 1 < len
  · rw [if_pos q, show len - 2 - k = (len - 2 - (k + 1)) + 1 by omega, n_dec (by omega)]
  · rw [if_neg q, show len - 2 - k = 0 by omega, n_dec0]
theorem x_tr2 {I : fI} {mc jc lim : Nat} {fj tj : Nat → Nat} (hM : MI I mc jc fj tj lim) (R : RX I s) (V : INV mc jc fj tj (fun j f => rS3 I j (tj j) f) s) (C : CH s h len) (N : ∀ k, k < len → (s.2.1 (an s.2.1 h k)).2.2.2.2.2 = false) (hl : len ≤ 64) {x : Nat} (hx : x < 3) : ∀ (j k : Nat) (J : fI), k + 1 + j = len → TP I J s h len → ∃ J' : fI, TP I J' s h len ∧ (∀ u, k < u → u < len → J' 324 (3 * (len - 1 - u) + x) = val I s h x u) ∧ (∀ q, (∀ u, k < u → u < len → q ≠ 3 * (len - 1 - u) + x) → J' 324 q = J 324 q) ∧ ∀ (d : Nat) (Q : Option Value × jW → Prop), Wp (d + 4) 69 78 [some (.ref 322), some (.int (nI h)), some (.int (nI x)), some (.int (val I s h x k)), some (.int (iQ len k))] [] (f_W xs J L) Q = Wp (d + 4) 69 106 [some (.ref 322), some (.int (nI h)), some (.int (nI x)), some (.int (val I s h x (len - 1))), some (.int (-1))] [] (f_W xs J' L) Q := by
  intro j
  induction j with
  | zero =>
    intro k J hk t
    have hk : k = len - 1 := by omega
    subst hk
    refine ⟨J, t, fun u h1 h2 => by omega, fun _ _ => rfl, fun d Q => ?_⟩
    rw [show iQ len (len - 1) = -1 by unfold iQ; rw [if_neg (by omega)], w69_78]
    simp only [w69_80, eq_self, Nat.zero_le, n_lt, n_le, n_eq, n_neg, n_cl, n_mul, n_add, z_0, z_1, z_2, sc_0, sc_i, sc_r, sc_l, sc_n, jc_n, jc_i, jc_r, jc_l, Option.toList_some, Option.toList_none, List.cons_append, List.nil_append, Nat.reduceLT, Nat.reduceLeDiff, Nat.reduceMul, Nat.reduceAdd, Nat.reduceSub, Nat.reduceEqDiff, not_false_eq_true, not_true_eq_false, false_or, or_false, true_or, or_true, false_imp_iff, true_imp_iff, and_true, true_and, forall_const, false_implies, true_implies, b_t0, b_f0, n_m1]
  | succ j ih =>
    intro k J hk t
    have hk2 : k + 1 < len := by omega
    have i1 : len - 2 - k < 2147483648 := by omega
    have eq : iQ len k = nI (len - 2 - k) := by unfold iQ; rw [if_pos hk2]
    have lb := fun (d : Nat) (Q : Option Value × jW → Prop) => sp_lb (xs := xs) (L := L) hM R V C N hl t (k := k) (d := d) (v := val I s h x k) (Q := Q) hk2 hx
    have ev : bk I (s.2.1 (an s.2.1 h (k + 1))) (s.2.1 (an s.2.1 h k)).2.2.2.1 x (val I s h x k) = val I s h x (k + 1) := rfl
    rw [ev] at lb
    have i64 : len - 2 - k < 64 := by omega
    have es := iQ_s hl hk2
    obtain ⟨J', f1, f2, f3, E⟩ := ih (k + 1) (f_up J 324 (3 * (len - 2 - k) + x) (val I s h x (k + 1))) (by omega) t.up
    refine ⟨J', f1, fun u h1 h2 => ?_, fun q hq => ?_, fun d Q => ?_⟩
    · by_cases q : u = k + 1
      · subst q
        rw [f3 _ (fun u h3 h4 => by omega), show 3 * (len - 1 - (k + 1)) + x = 3 * (len - 2 - k) + x by omega, f_up_eq]
      · exact f2 u (by omega) h2
    · rw [f3 q (fun u h3 h4 => hq u (by omega) h4), f_up_at, if_neg (fun r => hq (k + 1) (by omega) hk2 (by rw [r.2]; omega))]
    · rw [eq, ← E d Q, w69_78]
      simp only [w69_80, w69_83, w69_84, w69_86, w69_87, w69_88, w69_91, w69_92, w69_93, w69_95, w69_96, w69_97, w69_100, w69_103, eq_self, Nat.zero_le, n_lt, n_le, n_eq, n_neg, n_cl, n_mul, n_add, z_0, z_1, z_2, sc_0, sc_i, sc_r, sc_l, sc_n, jc_n, jc_i, jc_r, jc_l, Option.toList_some, Option.toList_none, List.cons_append, List.nil_append, Nat.reduceLT, Nat.reduceLeDiff, Nat.reduceMul, Nat.reduceAdd, Nat.reduceSub, Nat.reduceEqDiff, not_false_eq_true, not_true_eq_false, false_or, or_false, true_or, or_true, false_imp_iff, true_imp_iff, and_true, true_and, forall_const, false_implies, true_implies, b_t0, b_f0, tg_1, rf_1_0, rf_1_1, rf_1_2, rf_1_3, rf_1_4, rf_1_5, rf_1_6, tg_2, rf_2_0, rf_2_1, rf_2_2, rf_2_3, tg_3, ln_3, tg_4, ln_4, tg_5, rf_5_0, tg_6, ln_6, tg_7, rf_7_0, tg_8, ln_8, tg_123, rf_123_0, rf_123_1, rf_123_2, rf_123_3, rf_123_4, tg_124, ln_124, tg_125, rf_125_0, tg_126, ln_126, tg_127, rf_127_0, tg_128, ln_128, tg_129, ln_129, tg_322, rf_322_0, rf_322_1, rf_322_2, rf_322_3, tg_323, ln_323, tg_324, ln_324, tg_325, rf_325_0, rf_325_1, rf_325_2, tg_326, rf_326_0, tg_327, ln_327, tg_328, rf_328_0, tg_329, ln_329, tg_330, rf_330_0, rf_330_1, rf_330_2, tg_331, rf_331_0, tg_332, ln_332, tg_333, rf_333_0, tg_334, ln_334, tg_335, ln_335, tg_336, rf_336_0, tg_337, ln_337, tg_339, ln_339, tg_346, rf_346_1, rf_346_2, rf_346_4, rf_346_5, rf_346_6, rf_346_7, rf_346_8, rf_346_11, rf_346_13, rf_346_14, rf_346_15, rf_346_17, rf_346_18, rf_346_19, rf_346_20, rf_346_21, rf_346_22, rf_346_26, rf_346_28, rf_346_29, rf_346_32, rf_346_34, rf_346_35, rf_346_36, tg_347, ln_347, tg_348, ln_348, tg_349, ln_349, tg_350, ln_350, tg_351, ln_351, tg_352, ln_352, tg_353, ln_353, tg_354, ln_354, tg_355, ln_355, tg_356, ln_356, tg_357, ln_357, tg_358, ln_358, tg_359, ln_359, tg_360, ln_360, tg_361, ln_361, tg_362, ln_362, tg_363, ln_363, tg_364, ln_364, tg_365, ln_365, tg_366, ln_366, tg_367, ln_367, tg_368, ln_368, tg_369, ln_369, tg_370, ln_370, n_ng i1, lb, sp_tput i64 hx, es]
theorem x_tr1 {I : fI} {mc jc lim : Nat} {fj tj : Nat → Nat} (hM : MI I mc jc fj tj lim) (R : RX I s) (V : INV mc jc fj tj (fun j f => rS3 I j (tj j) f) s) (C : CH s h len) (N : ∀ k, k < len → (s.2.1 (an s.2.1 h k)).2.2.2.2.2 = false) (hl : len ≤ 64) : ∀ (j x : Nat) (J : fI) (a3 a4 : Option Value), x + j = 3 → TP I J s h len → ∃ J' : fI, TP I J' s h len ∧ (∀ y, x ≤ y → y < 3 → ∀ u, u < len → J' 324 (3 * (len - 1 - u) + y) = val I s h y u) ∧ (∀ y, y < x → ∀ u, u < len → J' 324 (3 * (len - 1 - u) + y) = J 324 (3 * (len - 1 - u) + y)) ∧ ∀ (d : Nat) (Q : Option Value × jW → Prop), Wp (d + 4) 69 23 [some (.ref 322), some (.int (nI h)), some (.int (nI x)), a3, a4] [] (f_W xs J L) Q = Q (some (.int (nI 1)), f_W xs J' L) := by
  have c1 := C.1
  have hh : h < s.1 := C.2.2.1 0 (by omega)
  have n64 := R.1
  obtain ⟨l1, l2, l3⟩ := lay_H h (by omega)
  have h1 : h < 2147483648 := by omega
  have h2 : ¬ 64 ≤ h := by omega
  obtain ⟨g1, g2, g3, g4, g5, g6, g7⟩ := R.2.2.2.2.2 h hh
  intro j
  induction j with
  | zero =>
    intro x J a3 a4 hx t
    have hx : x = 3 := by omega
    subst hx
    refine ⟨J, t, fun y a b => by omega, fun _ _ _ _ => rfl, fun d Q => ?_⟩
    rw [w69_23]
    simp only [w69_24, w69_25, w69_112, w69_113, eq_self, Nat.zero_le, n_lt, n_le, n_eq, n_neg, n_cl, n_mul, n_add, z_0, z_1, z_2, sc_0, sc_i, sc_r, sc_l, sc_n, jc_n, jc_i, jc_r, jc_l, Option.toList_some, Option.toList_none, List.cons_append, List.nil_append, Nat.reduceLT, Nat.reduceLeDiff, Nat.reduceMul, Nat.reduceAdd, Nat.reduceSub, Nat.reduceEqDiff, not_false_eq_true, not_true_eq_false, false_or, or_false, true_or, or_true, false_imp_iff, true_imp_iff, and_true, true_and, forall_const, false_implies, true_implies, b_t0, b_f0, Nat.le_refl]
  | succ j ih =>
    intro x J a3 a4 hx t
    have x3 : x < 3 := by omega
    have s1 : x < 2147483648 := by omega
    have s2 : ¬ 3 ≤ x := by omega
    have RJ : RX J s := RX_hi R (fun o ho => t.1 o (by omega) (by omega) (by omega))
    have le := fun (d : Nat) (Q : Option Value × jW → Prop) => sp_least (d := d) (Q := Q) (xs := xs) (I := J) (L := L) (bx_hp (show h < 64 by omega)) x3
    rw [show 131 + 3 * h + 1 = 132 + 3 * h by omega, t.1 (132 + 3 * h) (by omega) (by omega) (by omega), g3 (2 * x) (by omega)] at le
    have wl := fun (d : Nat) (Q : Option Value × jW → Prop) => sp_least (d := d) (Q := Q) (xs := xs) (I := J) (L := L) bx_7 x3
    simp only [Nat.reduceAdd, t.1 8 (by omega) (by omega) (by omega)] at wl
    have ev : (if (s.2.1 h).2.1 (2 * x) < I 8 (2 * x) then I 8 (2 * x) else (s.2.1 h).2.1 (2 * x)) = val I s h x 0 := rfl
    have el : nI len - nI 1 = nI (len - 1) := by
      obtain ⟨q, rfl⟩ : ∃ q, len = q + 1 := ⟨len - 1, by omega⟩
      rw [n_sub1 (by omega)]
      rfl
    have e2 := iQ_0 c1 hl
    have i64 : len - 1 < 64 := by omega
    have n4 : (322 : Nat) ≠ 324 := by omega
    obtain ⟨J1, t1, p2, p3, E1⟩ := x_tr2 (xs := xs) (L := L) hM R V C N hl x3 (len - 1) 0 (f_up J 324 (3 * (len - 1) + x) (val I s h x 0)) (by omega) t.up
    obtain ⟨J', t2, q2, q3, E⟩ := ih (x + 1) J1 (some (.int (val I s h x (len - 1)))) (some (.int (-1))) (by omega) t1
    refine ⟨J', t2, fun y a b u hu => ?_, fun y a u hu => ?_, fun d Q => ?_⟩
    · by_cases q : y = x
      · subst q
        rw [q3 y (by omega) u hu]
        by_cases q4 : u = 0
        · subst q4
          rw [p3 _ (fun u h3 h4 => by omega), show 3 * (len - 1 - 0) + y = 3 * (len - 1) + y by omega, f_up_eq]
        · exact p2 u (by omega) hu
      · exact q2 y (by omega) b u hu
    · rw [q3 y (by omega) u hu, p3 _ (fun u h3 h4 => by omega), f_up_at, if_neg (by omega)]
    · rw [← E d Q, w69_23]
      simp only [w69_24, w69_25, w69_28, w69_29, w69_32, w69_33, w69_36, w69_39, w69_40, w69_43, w69_44, w69_47, w69_50, w69_51, w69_54, w69_57, w69_58, w69_59, w69_60, w69_63, w69_64, w69_65, w69_66, w69_67, w69_70, w69_71, w69_74, w69_75, w69_76, w69_106, w69_109, eq_self, Nat.zero_le, n_lt, n_le, n_eq, n_neg, n_cl, n_mul, n_add, z_0, z_1, z_2, sc_0, sc_i, sc_r, sc_l, sc_n, jc_n, jc_i, jc_r, jc_l, Option.toList_some, Option.toList_none, List.cons_append, List.nil_append, Nat.reduceLT, Nat.reduceLeDiff, Nat.reduceMul, Nat.reduceAdd, Nat.reduceSub, Nat.reduceEqDiff, not_false_eq_true, not_true_eq_false, false_or, or_false, true_or, or_true, false_imp_iff, true_imp_iff, and_true, true_and, forall_const, false_implies, true_implies, b_t0, b_f0, tg_1, rf_1_0, rf_1_1, rf_1_2, rf_1_3, rf_1_4, rf_1_5, rf_1_6, tg_2, rf_2_0, rf_2_1, rf_2_2, rf_2_3, tg_3, ln_3, tg_4, ln_4, tg_5, rf_5_0, tg_6, ln_6, tg_7, rf_7_0, tg_8, ln_8, tg_123, rf_123_0, rf_123_1, rf_123_2, rf_123_3, rf_123_4, tg_124, ln_124, tg_125, rf_125_0, tg_126, ln_126, tg_127, rf_127_0, tg_128, ln_128, tg_129, ln_129, tg_322, rf_322_0, rf_322_1, rf_322_2, rf_322_3, tg_323, ln_323, tg_324, ln_324, tg_325, rf_325_0, rf_325_1, rf_325_2, tg_326, rf_326_0, tg_327, ln_327, tg_328, rf_328_0, tg_329, ln_329, tg_330, rf_330_0, rf_330_1, rf_330_2, tg_331, rf_331_0, tg_332, ln_332, tg_333, rf_333_0, tg_334, ln_334, tg_335, ln_335, tg_336, rf_336_0, tg_337, ln_337, tg_339, ln_339, tg_346, rf_346_1, rf_346_2, rf_346_4, rf_346_5, rf_346_6, rf_346_7, rf_346_8, rf_346_11, rf_346_13, rf_346_14, rf_346_15, rf_346_17, rf_346_18, rf_346_19, rf_346_20, rf_346_21, rf_346_22, rf_346_26, rf_346_28, rf_346_29, rf_346_32, rf_346_34, rf_346_35, rf_346_36, tg_347, ln_347, tg_348, ln_348, tg_349, ln_349, tg_350, ln_350, tg_351, ln_351, tg_352, ln_352, tg_353, ln_353, tg_354, ln_354, tg_355, ln_355, tg_356, ln_356, tg_357, ln_357, tg_358, ln_358, tg_359, ln_359, tg_360, ln_360, tg_361, ln_361, tg_362, ln_362, tg_363, ln_363, tg_364, ln_364, tg_365, ln_365, tg_366, ln_366, tg_367, ln_367, tg_368, ln_368, tg_369, ln_369, tg_370, ln_370, n_le (show 3 < 2147483648 by decide) s1, s2, sp_heapAt RJ hh, l2, l3, (bx_hp (show h < 64 by omega)).1, le, wl, ev, t.2.1, el, sp_tput i64 x3, f_up_ne n4, e2, E1]
theorem sp_trace {I : fI} {mc jc lim : Nat} {fj tj : Nat → Nat} (hM : MI I mc jc fj tj lim) (R : RX I s) (U : SU I s s.1) (V : INV mc jc fj tj (fun j f => rS3 I j (tj j) f) s) (hf : fi (pX I s) s.1 0 = some h) (C : CH s h len) (N : ∀ k, k < len → (s.2.1 (an s.2.1 h k)).2.2.2.2.2 = false) (hl : len ≤ 64) : ∃ J' : fI, TP I J' s h len ∧ (∀ y, y < 3 → ∀ u, u < len → J' 324 (3 * (len - 1 - u) + y) = val I s h y u) ∧ ∀ (d : Nat) (Q : Option Value × jW → Prop), Wp (d + 4) 69 0 [some (.ref 322), none, none, none, none] [] (f_W xs I L) Q = Q (some (.int (nI 1)), f_W xs J' L) := by
  have h64 : h < 64 := by have := (fi_lt hf).1; have := R.1; omega
  obtain ⟨J, j1, j2, j3, E1⟩ := sp_layPath (xs := xs) (L := L) R C hl
  obtain ⟨J', t, v, -, E2⟩ := x_tr1 (xs := xs) (L := L) hM R V C N hl 3 0 J none none (by omega) ⟨fun o h1 h2 _ => j1 o h1 h2, j2, j3⟩
  refine ⟨J', t, fun y hy u hu => v y (by omega) hy u hu, fun d Q => ?_⟩
  have pf := fun (d : Nat) (Q : Option Value × jW → Prop) => sp_proof (d := d) (Q := Q) (xs := xs) (L := L) R U
  rw [hf, oI_v] at pf
  simp only [w69_0, w69_1, w69_4, w69_7, w69_8, w69_9, w69_11, w69_16, w69_17, w69_18, w69_21, w69_22, eq_self, Nat.zero_le, n_lt, n_le, n_eq, n_neg, n_cl, n_mul, n_add, z_0, z_1, z_2, sc_0, sc_i, sc_r, sc_l, sc_n, jc_n, jc_i, jc_r, jc_l, Option.toList_some, Option.toList_none, List.cons_append, List.nil_append, Nat.reduceLT, Nat.reduceLeDiff, Nat.reduceMul, Nat.reduceAdd, Nat.reduceSub, Nat.reduceEqDiff, not_false_eq_true, not_true_eq_false, false_or, or_false, true_or, or_true, false_imp_iff, true_imp_iff, and_true, true_and, forall_const, false_implies, true_implies, b_t0, b_f0, tg_1, rf_1_0, rf_1_1, rf_1_2, rf_1_3, rf_1_4, rf_1_5, rf_1_6, tg_2, rf_2_0, rf_2_1, rf_2_2, rf_2_3, tg_3, ln_3, tg_4, ln_4, tg_5, rf_5_0, tg_6, ln_6, tg_7, rf_7_0, tg_8, ln_8, tg_123, rf_123_0, rf_123_1, rf_123_2, rf_123_3, rf_123_4, tg_124, ln_124, tg_125, rf_125_0, tg_126, ln_126, tg_127, rf_127_0, tg_128, ln_128, tg_129, ln_129, tg_322, rf_322_0, rf_322_1, rf_322_2, rf_322_3, tg_323, ln_323, tg_324, ln_324, tg_325, rf_325_0, rf_325_1, rf_325_2, tg_326, rf_326_0, tg_327, ln_327, tg_328, rf_328_0, tg_329, ln_329, tg_330, rf_330_0, rf_330_1, rf_330_2, tg_331, rf_331_0, tg_332, ln_332, tg_333, rf_333_0, tg_334, ln_334, tg_335, ln_335, tg_336, rf_336_0, tg_337, ln_337, tg_339, ln_339, tg_346, rf_346_1, rf_346_2, rf_346_4, rf_346_5, rf_346_6, rf_346_7, rf_346_8, rf_346_11, rf_346_13, rf_346_14, rf_346_15, rf_346_17, rf_346_18, rf_346_19, rf_346_20, rf_346_21, rf_346_22, rf_346_26, rf_346_28, rf_346_29, rf_346_32, rf_346_34, rf_346_35, rf_346_36, tg_347, ln_347, tg_348, ln_348, tg_349, ln_349, tg_350, ln_350, tg_351, ln_351, tg_352, ln_352, tg_353, ln_353, tg_354, ln_354, tg_355, ln_355, tg_356, ln_356, tg_357, ln_357, tg_358, ln_358, tg_359, ln_359, tg_360, ln_360, tg_361, ln_361, tg_362, ln_362, tg_363, ln_363, tg_364, ln_364, tg_365, ln_365, tg_366, ln_366, tg_367, ln_367, tg_368, ln_368, tg_369, ln_369, tg_370, ln_370, pf, nI_ne4 h64, E1, E2]
theorem sp_trace0 {I : fI} (R : RX I s) (U : SU I s s.1) (hf : fi (pX I s) s.1 0 = none) {d : Nat} {Q : Option Value × jW → Prop} : Wp (d + 4) 69 0 [some (.ref 322), none, none, none, none] [] (f_W xs I L) Q = Q (some (.int (nI 0)), f_W xs I L) := by
  have pf := fun (d : Nat) (Q : Option Value × jW → Prop) => sp_proof (d := d) (Q := Q) (xs := xs) (L := L) R U
  rw [hf, show oI none = -4 from rfl] at pf
  simp only [w69_0, w69_1, w69_4, w69_7, w69_8, w69_9, w69_11, w69_14, w69_15, eq_self, Nat.zero_le, n_lt, n_le, n_eq, n_neg, n_cl, n_mul, n_add, z_0, z_1, z_2, sc_0, sc_i, sc_r, sc_l, sc_n, jc_n, jc_i, jc_r, jc_l, Option.toList_some, Option.toList_none, List.cons_append, List.nil_append, Nat.reduceLT, Nat.reduceLeDiff, Nat.reduceMul, Nat.reduceAdd, Nat.reduceSub, Nat.reduceEqDiff, not_false_eq_true, not_true_eq_false, false_or, or_false, true_or, or_true, false_imp_iff, true_imp_iff, and_true, true_and, forall_const, false_implies, true_implies, b_t0, b_f0, tg_1, rf_1_0, rf_1_1, rf_1_2, rf_1_3, rf_1_4, rf_1_5, rf_1_6, tg_2, rf_2_0, rf_2_1, rf_2_2, rf_2_3, tg_3, ln_3, tg_4, ln_4, tg_5, rf_5_0, tg_6, ln_6, tg_7, rf_7_0, tg_8, ln_8, tg_123, rf_123_0, rf_123_1, rf_123_2, rf_123_3, rf_123_4, tg_124, ln_124, tg_125, rf_125_0, tg_126, ln_126, tg_127, rf_127_0, tg_128, ln_128, tg_129, ln_129, tg_322, rf_322_0, rf_322_1, rf_322_2, rf_322_3, tg_323, ln_323, tg_324, ln_324, tg_325, rf_325_0, rf_325_1, rf_325_2, tg_326, rf_326_0, tg_327, ln_327, tg_328, rf_328_0, tg_329, ln_329, tg_330, rf_330_0, rf_330_1, rf_330_2, tg_331, rf_331_0, tg_332, ln_332, tg_333, rf_333_0, tg_334, ln_334, tg_335, ln_335, tg_336, rf_336_0, tg_337, ln_337, tg_339, ln_339, tg_346, rf_346_1, rf_346_2, rf_346_4, rf_346_5, rf_346_6, rf_346_7, rf_346_8, rf_346_11, rf_346_13, rf_346_14, rf_346_15, rf_346_17, rf_346_18, rf_346_19, rf_346_20, rf_346_21, rf_346_22, rf_346_26, rf_346_28, rf_346_29, rf_346_32, rf_346_34, rf_346_35, rf_346_36, tg_347, ln_347, tg_348, ln_348, tg_349, ln_349, tg_350, ln_350, tg_351, ln_351, tg_352, ln_352, tg_353, ln_353, tg_354, ln_354, tg_355, ln_355, tg_356, ln_356, tg_357, ln_357, tg_358, ln_358, tg_359, ln_359, tg_360, ln_360, tg_361, ln_361, tg_362, ln_362, tg_363, ln_363, tg_364, ln_364, tg_365, ln_365, tg_366, ln_366, tg_367, ln_367, tg_368, ln_368, tg_369, ln_369, tg_370, ln_370, pf]
end TRACE
