/-! fence, open -/
section FENCE
variable {xs : List Value} {I : fI} {L : fL}
/-- the pale made anew -/
def fnX (I : fI) (m : Nat) (b : Bool) : fI := if b = true then I else f_up (f_wb I (14 + 7 * m) d20) (9 + 7 * m) 3 (nI 1)
def fnM (I : fI) (m : Nat) (b : Bool) : fI := if b = true then I else f_up (f_w6 I 356 (6 * m) d20) 355 m (nI 1)
def feX (I : fI) (m i : Nat) (b : Bool) (v w : Int32) : fI := f_up (f_up (fnX I m b) (15 + 7 * m) (2 * i) v) (15 + 7 * m) (2 * i + 1) w
def feI (I : fI) (m i : Nat) (b : Bool) (v w : Int32) : fI := f_up (f_up (fnM (feX I m i b v w) m b) 356 (6 * m + 2 * i) v) 356 (6 * m + 2 * i + 1) w
theorem d20_GB : GB d20 := by
  refine ⟨fun k hk => ?_, by decide⟩
  rcases k_six hk with rfl | rfl | rfl | rfl | rfl | rfl <;> decide
theorem feI_RD {mc jc lim sm m i : Nat} {fj tj : Nat → Nat} {v w : Int32} {b : Bool} (h : RD I mc jc lim sm fj tj) (hm : m < mc) (hi : i < 3) (hb : I (9 + 7 * m) 3 = b2 b) (v1 : -20 ≤ v.toInt) (v2 : v.toInt ≤ w.toInt) (v3 : w.toInt ≤ 20) : RD (feI I m i b v w) mc jc lim sm fj tj ∧ ∀ o, o ≠ 9 + 7 * m → o ≠ 15 + 7 * m → o ≠ 355 → o ≠ 356 → feI I m i b v w o = I o := by
  obtain ⟨h1, h2, h3, h4, h5, h6, h7, h8⟩ := h
  have mc6 := h1.2.1
  have jc12 := h1.2.2.2.1
  generalize hI : feI I m i b v w = I'
  have z1 : ¬ 9 + 7 * m = 15 + 7 * m := by omega
  have z2 : ¬ 9 + 7 * m = 14 + 7 * m + 1 := by omega
  have z3 : ¬ 9 + 7 * m = 355 := by omega
  have z4 : ¬ 9 + 7 * m = 356 := by omega
  have z5 : ¬ 355 = 15 + 7 * m := by omega
  have z6 : ¬ 355 = 14 + 7 * m + 1 := by omega
  have z7 : ¬ 355 = 9 + 7 * m := by omega
  have z8 : ¬ 356 = 15 + 7 * m := by omega
  have z9 : ¬ 356 = 14 + 7 * m + 1 := by omega
  have y1 : ¬ 356 = 9 + 7 * m := by omega
  have y2 : 14 + 7 * m + 1 = 15 + 7 * m := by omega
  have o : ∀ o, o ≠ 9 + 7 * m → o ≠ 15 + 7 * m → o ≠ 355 → o ≠ 356 → I' o = I o := by
    intro o a c d e
    rw [← hI]
    unfold feI feX fnM fnX
    cases b
    · rw [if_neg (by decide), if_neg (by decide), f_up_ne e, f_up_ne e, f_up_ne d, f_w6_ne e, f_up_ne c, f_up_ne c, f_up_ne a, f_wb_ne (by omega)]
    · rw [if_pos rfl, if_pos rfl, f_up_ne e, f_up_ne e, f_up_ne c, f_up_ne c]
  have oF : I' (9 + 7 * m) 3 = nI 1 := by
    rw [← hI]
    cases b
    · simp [feI, feX, fnM, fnX, f_up_at, f_w6_at, z1, z3, z4]
    · simp [feI, feX, fnM, fnX, f_up_at, z1, z4, hb, b2]
  have oM : ∀ m', I' 355 m' = if m' = m then nI 1 else I 355 m' := by
    intro m'
    rw [← hI]
    cases b
    · simp [feI, feX, fnM, fnX, f_up_at, f_w6_at, f_wb_at, z5, z6, z7]
    · by_cases q : m' = m
      · subst q
        have := (h5 m' (by omega)).2.2.1
        simp [feI, feX, fnM, fnX, f_up_at, z5, this, hb, b2]
      · simp [feI, feX, fnM, fnX, f_up_at, z5, q]
  have oP : GB (I' (15 + 7 * m)) ∧ E6 (sl I' 356 (6 * m)) (I' (15 + 7 * m)) := by
    rw [← hI]
    obtain ⟨a1, a2, a3, a4, a5, a6⟩ := h5 m (by omega)
    have base : GB (fnX I m b (15 + 7 * m)) ∧ E6 (sl (fnM (feX I m i b v w) m b) 356 (6 * m)) (fnX I m b (15 + 7 * m)) := by
      cases b
      · unfold fnX fnM
        rw [if_neg (by decide), if_neg (by decide), f_up_ne (by omega), ← y2, f_wb_eq]
        refine ⟨d20_GB, fun k hk => ?_⟩
        show f_up (f_w6 _ 356 (6 * m) d20) 355 m (nI 1) 356 (6 * m + k) = d20 k
        simp [f_up_at, f_w6_at, hk]
      · unfold fnX fnM feX
        rw [if_pos rfl, if_pos rfl]
        obtain ⟨b1, b2', b3⟩ := a4 (by rw [hb]; rfl)
        refine ⟨b2', ?_⟩
        rw [sl_up2 (by omega)]
        unfold fnX
        rw [if_pos rfl]
        exact b3
    have e1 : feI I m i b v w (15 + 7 * m) = gUp (fnX I m b (15 + 7 * m)) i v w := by
      unfold feI
      rw [f_up_ne (by omega), f_up_ne (by omega)]
      have : fnM (feX I m i b v w) m b (15 + 7 * m) = feX I m i b v w (15 + 7 * m) := by
        unfold fnM
        cases b
        · rw [if_neg (by decide), f_up_ne (by omega), f_w6_ne (by omega)]
        · rw [if_pos rfl]
      rw [this]
      unfold feX
      rw [up2_self]
    have e2 : sl (feI I m i b v w) 356 (6 * m) = gUp (sl (fnM (feX I m i b v w) m b) 356 (6 * m)) i v w := by
      unfold feI
      rw [up2_sl]
    rw [e1, e2]
    exact ⟨up_RG hi base.1 v1 v2 v3, E6_up base.2⟩
  have oQ : ∀ m', m' ≠ m → ∀ k, k < 6 → I' 356 (6 * m' + k) = I 356 (6 * m' + k) := by
    intro m' hm' k hk
    rw [← hI]
    unfold feI
    rw [up2_at (by omega) hi]
    have a1 : ¬ (6 * m ≤ 6 * m' + k ∧ 6 * m' + k < 6 * m + 6) := by omega
    cases b
    · simp [fnM, feX, fnX, f_up_at, f_w6_at, f_wb_at, a1, z8, z9, y1]
    · simp [fnM, feX, fnX, f_up_at, z8]
  refine ⟨⟨h1.of (fun k hk => by rw [o 2 (by omega) (by omega) (by omega) (by omega)]) (by rw [o 123 (by omega) (by omega) (by omega) (by omega)]) (fun j hj => ⟨o _ (by omega) (by omega) (by omega) (by omega), o _ (by omega) (by omega) (by omega) (by omega)⟩), h2.of (fun k hk => by rw [o 346 (by omega) (by omega) (by omega) (by omega)]) (o _ (by omega) (by omega) (by omega) (by omega)) (o _ (by omega) (by omega) (by omega) (by omega)), h3.of (fun k hk => by rw [o 2 (by omega) (by omega) (by omega) (by omega)]) (fun k hk => by rw [o 346 (by omega) (by omega) (by omega) (by omega)]) (o _ (by omega) (by omega) (by omega) (by omega)) (o _ (by omega) (by omega) (by omega) (by omega)) (o _ (by omega) (by omega) (by omega) (by omega)), h4, fun m' hm' => ?_, fun j hj => (h6 j hj).of (fun c hc => o _ (by omega) (by omega) (by omega) (by omega)) (fun a ha k hk => by rw [o a (by omega) (by omega) (by omega) (by omega)]) (fun k hk => by rw [o 353 (by omega) (by omega) (by omega) (by omega)]), h7.of (o _ (by omega) (by omega) (by omega) (by omega)) (o _ (by omega) (by omega) (by omega) (by omega)) (o _ (by omega) (by omega) (by omega) (by omega)) (fun k hk => by rw [o 346 (by omega) (by omega) (by omega) (by omega)]), fun k hk => (h8 k hk).of (o _ (by omega) (by omega) (by omega) (by omega)) (o _ (by omega) (by omega) (by omega) (by omega)) (fun a ha => by rw [o a (by omega) (by omega) (by omega) (by omega)]) (fun i hi => by rw [o 370 (by omega) (by omega) (by omega) (by omega)])⟩, o⟩
  by_cases q : m' = m
  · subst q
    obtain ⟨a1, a2, a3, a4, a5, a6⟩ := h5 m' hm'
    unfold DM
    rw [oF, oM, if_pos rfl, o (11 + 7 * m') (by omega) (by omega) (by omega) (by omega), o (13 + 7 * m') (by omega) (by omega) (by omega) (by omega), sl_fr (o 347 (by omega) (by omega) (by omega) (by omega)), sl_fr (o 348 (by omega) (by omega) (by omega) (by omega))]
    exact ⟨a1, Or.inr rfl, rfl, fun _ => ⟨hm, oP⟩, a5, a6⟩
  · refine (h5 m' hm').of (fun c hc => o _ (by omega) (by omega) (by omega) (by omega)) (fun a ha k hk => ?_) (by rw [oM, if_neg q])
    rcases ha with rfl | rfl | rfl
    · rw [o 347 (by omega) (by omega) (by omega) (by omega)]
    · rw [o 348 (by omega) (by omega) (by omega) (by omega)]
    · exact oQ m' q k hk
theorem isB_ex {x : Int32} (h : isB x) : ∃ b, x = b2 b := by
  rcases h with h | h
  · exact ⟨false, h⟩
  · exact ⟨true, h⟩
theorem same_fence (hR : Rel I) {m x a b : Int32} : Same xs I L 76 [some (.ref 1), some (.int m), some (.int x), some (.int a), some (.int b)] 155 [some (.ref 346), some (.int m), some (.int x), some (.int a), some (.int b)] := by
  obtain ⟨mc, jc, lim, sm, fj, tj, hh, f⟩ := id hR
  have mc6 := hh.1.2.1
  have em := hasM_in (x := m) hh.1.1 mc6
  have e20 : (20 : Nat) ≤ 20 := Nat.le_refl _
  cases hq : inI 0 m.toInt ((mc : Int) - 1) with
  | false =>
    rw [hq] at em
    refine ⟨-1, I, I, L, fun d Q => ?_, fun d Q => ?_, hR⟩
    · simp only [w76_0, w76_1, w76_4, w76_5, w76_8, w76_11, w76_12, w76_13, w76_15, w76_17, w76_20, w76_23, w76_24, w76_25, w76_26, w76_29, w76_30, w76_33, w76_36, w76_37, w76_38, w76_39, w76_40, w76_42, w76_45, w76_46, eq_self, Nat.zero_le, n_lt, n_le, n_eq, n_neg, n_cl, n_mul, n_add, z_0, z_1, z_2, sc_0, sc_i, sc_r, sc_l, sc_n, jc_n, jc_i, jc_r, jc_l, Option.toList_some, Option.toList_none, List.cons_append, List.nil_append, Nat.reduceLT, Nat.reduceLeDiff, Nat.reduceMul, Nat.reduceAdd, Nat.reduceSub, Nat.reduceEqDiff, not_false_eq_true, not_true_eq_false, false_or, or_false, true_or, or_true, false_imp_iff, true_imp_iff, and_true, true_and, forall_const, false_implies, true_implies, b_t0, b_f0, tg_1, rf_1_0, rf_1_1, rf_1_2, rf_1_3, rf_1_4, rf_1_5, rf_1_6, tg_2, rf_2_0, rf_2_1, rf_2_2, rf_2_3, tg_3, ln_3, tg_4, ln_4, tg_5, rf_5_0, tg_6, ln_6, tg_7, rf_7_0, tg_8, ln_8, tg_123, rf_123_0, rf_123_1, rf_123_2, rf_123_3, rf_123_4, tg_124, ln_124, tg_125, rf_125_0, tg_126, ln_126, tg_127, rf_127_0, tg_128, ln_128, tg_129, ln_129, tg_322, rf_322_0, rf_322_1, rf_322_2, rf_322_3, tg_323, ln_323, tg_324, ln_324, tg_325, rf_325_0, rf_325_1, rf_325_2, tg_326, rf_326_0, tg_327, ln_327, tg_328, rf_328_0, tg_329, ln_329, tg_330, rf_330_0, rf_330_1, rf_330_2, tg_331, rf_331_0, tg_332, ln_332, tg_333, rf_333_0, tg_334, ln_334, tg_335, ln_335, tg_336, rf_336_0, tg_337, ln_337, tg_339, ln_339, tg_346, rf_346_1, rf_346_2, rf_346_4, rf_346_5, rf_346_6, rf_346_7, rf_346_8, rf_346_11, rf_346_13, rf_346_14, rf_346_15, rf_346_17, rf_346_18, rf_346_19, rf_346_20, rf_346_21, rf_346_22, rf_346_26, rf_346_28, rf_346_29, rf_346_32, rf_346_34, rf_346_35, rf_346_36, tg_347, ln_347, tg_348, ln_348, tg_349, ln_349, tg_350, ln_350, tg_351, ln_351, tg_352, ln_352, tg_353, ln_353, tg_354, ln_354, tg_355, ln_355, tg_356, ln_356, tg_357, ln_357, tg_358, ln_358, tg_359, ln_359, tg_360, ln_360, tg_361, ln_361, tg_362, ln_362, tg_363, ln_363, tg_364, ln_364, tg_365, ln_365, tg_366, ln_366, tg_367, ln_367, tg_368, ln_368, tg_369, ln_369, tg_370, ln_370, sp_hasMode, em, b2_f]
    · simp only [w155_0, w155_1, w155_2, w155_5, w155_8, w155_9, w155_10, w155_12, w155_14, w155_17, w155_20, w155_21, w155_22, w155_23, w155_26, w155_27, w155_28, w155_31, w155_32, w155_35, w155_37, w155_38, w155_39, w155_42, w155_43, w155_46, w155_47, w155_48, w155_49, w155_50, w155_53, w155_55, w155_56, w155_57, w155_58, w155_59, w155_61, w155_64, eq_self, Nat.zero_le, n_lt, n_le, n_eq, n_neg, n_cl, n_mul, n_add, z_0, z_1, z_2, sc_0, sc_i, sc_r, sc_l, sc_n, jc_n, jc_i, jc_r, jc_l, Option.toList_some, Option.toList_none, List.cons_append, List.nil_append, Nat.reduceLT, Nat.reduceLeDiff, Nat.reduceMul, Nat.reduceAdd, Nat.reduceSub, Nat.reduceEqDiff, not_false_eq_true, not_true_eq_false, false_or, or_false, true_or, or_true, false_imp_iff, true_imp_iff, and_true, true_and, forall_const, false_implies, true_implies, b_t0, b_f0, tg_1, rf_1_0, rf_1_1, rf_1_2, rf_1_3, rf_1_4, rf_1_5, rf_1_6, tg_2, rf_2_0, rf_2_1, rf_2_2, rf_2_3, tg_3, ln_3, tg_4, ln_4, tg_5, rf_5_0, tg_6, ln_6, tg_7, rf_7_0, tg_8, ln_8, tg_123, rf_123_0, rf_123_1, rf_123_2, rf_123_3, rf_123_4, tg_124, ln_124, tg_125, rf_125_0, tg_126, ln_126, tg_127, rf_127_0, tg_128, ln_128, tg_129, ln_129, tg_322, rf_322_0, rf_322_1, rf_322_2, rf_322_3, tg_323, ln_323, tg_324, ln_324, tg_325, rf_325_0, rf_325_1, rf_325_2, tg_326, rf_326_0, tg_327, ln_327, tg_328, rf_328_0, tg_329, ln_329, tg_330, rf_330_0, rf_330_1, rf_330_2, tg_331, rf_331_0, tg_332, ln_332, tg_333, rf_333_0, tg_334, ln_334, tg_335, ln_335, tg_336, rf_336_0, tg_337, ln_337, tg_339, ln_339, tg_346, rf_346_1, rf_346_2, rf_346_4, rf_346_5, rf_346_6, rf_346_7, rf_346_8, rf_346_11, rf_346_13, rf_346_14, rf_346_15, rf_346_17, rf_346_18, rf_346_19, rf_346_20, rf_346_21, rf_346_22, rf_346_26, rf_346_28, rf_346_29, rf_346_32, rf_346_34, rf_346_35, rf_346_36, tg_347, ln_347, tg_348, ln_348, tg_349, ln_349, tg_350, ln_350, tg_351, ln_351, tg_352, ln_352, tg_353, ln_353, tg_354, ln_354, tg_355, ln_355, tg_356, ln_356, tg_357, ln_357, tg_358, ln_358, tg_359, ln_359, tg_360, ln_360, tg_361, ln_361, tg_362, ln_362, tg_363, ln_363, tg_364, ln_364, tg_365, ln_365, tg_366, ln_366, tg_367, ln_367, tg_368, ln_368, tg_369, ln_369, tg_370, ln_370, sp_isMode hh.2.1.1 mc6, hq, b2_f]
  | true =>
    rw [hq] at em
    have ea := fun (d : Nat) (Q : Option Value × jW → Prop) (w : jW) => sp_areSides (d := d) (Q := Q) (x := x) (a := a) (b := b) e20 (w := w)
    have eb := fun (d : Nat) (Q : Option Value × jW → Prop) (I : fI) => sp_isSpan (d := d) (Q := Q) (x := x) (a := a) (b := b) (xs := xs) (I := I) (L := L) e20
    rw [show (inI 0 x.toInt 2 && (inI (-((20 : Nat) : Int)) a.toInt b.toInt && inI a.toInt b.toInt (20 : Nat))) = sides x a b 20 from rfl] at eb
    cases hw : sides x a b 20 with
    | false =>
      rw [hw] at ea eb
      refine ⟨-1, I, I, L, fun d Q => ?_, fun d Q => ?_, hR⟩
      · simp only [w76_0, w76_1, w76_4, w76_5, w76_8, w76_11, w76_12, w76_13, w76_15, w76_17, w76_20, w76_23, w76_24, w76_25, w76_26, w76_29, w76_30, w76_33, w76_36, w76_37, w76_38, w76_39, w76_40, w76_42, w76_45, w76_46, eq_self, Nat.zero_le, n_lt, n_le, n_eq, n_neg, n_cl, n_mul, n_add, z_0, z_1, z_2, sc_0, sc_i, sc_r, sc_l, sc_n, jc_n, jc_i, jc_r, jc_l, Option.toList_some, Option.toList_none, List.cons_append, List.nil_append, Nat.reduceLT, Nat.reduceLeDiff, Nat.reduceMul, Nat.reduceAdd, Nat.reduceSub, Nat.reduceEqDiff, not_false_eq_true, not_true_eq_false, false_or, or_false, true_or, or_true, false_imp_iff, true_imp_iff, and_true, true_and, forall_const, false_implies, true_implies, b_t0, b_f0, tg_1, rf_1_0, rf_1_1, rf_1_2, rf_1_3, rf_1_4, rf_1_5, rf_1_6, tg_2, rf_2_0, rf_2_1, rf_2_2, rf_2_3, tg_3, ln_3, tg_4, ln_4, tg_5, rf_5_0, tg_6, ln_6, tg_7, rf_7_0, tg_8, ln_8, tg_123, rf_123_0, rf_123_1, rf_123_2, rf_123_3, rf_123_4, tg_124, ln_124, tg_125, rf_125_0, tg_126, ln_126, tg_127, rf_127_0, tg_128, ln_128, tg_129, ln_129, tg_322, rf_322_0, rf_322_1, rf_322_2, rf_322_3, tg_323, ln_323, tg_324, ln_324, tg_325, rf_325_0, rf_325_1, rf_325_2, tg_326, rf_326_0, tg_327, ln_327, tg_328, rf_328_0, tg_329, ln_329, tg_330, rf_330_0, rf_330_1, rf_330_2, tg_331, rf_331_0, tg_332, ln_332, tg_333, rf_333_0, tg_334, ln_334, tg_335, ln_335, tg_336, rf_336_0, tg_337, ln_337, tg_339, ln_339, tg_346, rf_346_1, rf_346_2, rf_346_4, rf_346_5, rf_346_6, rf_346_7, rf_346_8, rf_346_11, rf_346_13, rf_346_14, rf_346_15, rf_346_17, rf_346_18, rf_346_19, rf_346_20, rf_346_21, rf_346_22, rf_346_26, rf_346_28, rf_346_29, rf_346_32, rf_346_34, rf_346_35, rf_346_36, tg_347, ln_347, tg_348, ln_348, tg_349, ln_349, tg_350, ln_350, tg_351, ln_351, tg_352, ln_352, tg_353, ln_353, tg_354, ln_354, tg_355, ln_355, tg_356, ln_356, tg_357, ln_357, tg_358, ln_358, tg_359, ln_359, tg_360, ln_360, tg_361, ln_361, tg_362, ln_362, tg_363, ln_363, tg_364, ln_364, tg_365, ln_365, tg_366, ln_366, tg_367, ln_367, tg_368, ln_368, tg_369, ln_369, tg_370, ln_370, sp_hasMode, em, b2_t, b2_f, ea]
      · simp only [w155_0, w155_1, w155_2, w155_5, w155_8, w155_9, w155_10, w155_12, w155_14, w155_17, w155_20, w155_21, w155_22, w155_23, w155_26, w155_27, w155_28, w155_31, w155_32, w155_35, w155_37, w155_38, w155_39, w155_42, w155_43, w155_46, w155_47, w155_48, w155_49, w155_50, w155_53, w155_55, w155_56, w155_57, w155_58, w155_59, w155_61, w155_64, eq_self, Nat.zero_le, n_lt, n_le, n_eq, n_neg, n_cl, n_mul, n_add, z_0, z_1, z_2, sc_0, sc_i, sc_r, sc_l, sc_n, jc_n, jc_i, jc_r, jc_l, Option.toList_some, Option.toList_none, List.cons_append, List.nil_append, Nat.reduceLT, Nat.reduceLeDiff, Nat.reduceMul, Nat.reduceAdd, Nat.reduceSub, Nat.reduceEqDiff, not_false_eq_true, not_true_eq_false, false_or, or_false, true_or, or_true, false_imp_iff, true_imp_iff, and_true, true_and, forall_const, false_implies, true_implies, b_t0, b_f0, tg_1, rf_1_0, rf_1_1, rf_1_2, rf_1_3, rf_1_4, rf_1_5, rf_1_6, tg_2, rf_2_0, rf_2_1, rf_2_2, rf_2_3, tg_3, ln_3, tg_4, ln_4, tg_5, rf_5_0, tg_6, ln_6, tg_7, rf_7_0, tg_8, ln_8, tg_123, rf_123_0, rf_123_1, rf_123_2, rf_123_3, rf_123_4, tg_124, ln_124, tg_125, rf_125_0, tg_126, ln_126, tg_127, rf_127_0, tg_128, ln_128, tg_129, ln_129, tg_322, rf_322_0, rf_322_1, rf_322_2, rf_322_3, tg_323, ln_323, tg_324, ln_324, tg_325, rf_325_0, rf_325_1, rf_325_2, tg_326, rf_326_0, tg_327, ln_327, tg_328, rf_328_0, tg_329, ln_329, tg_330, rf_330_0, rf_330_1, rf_330_2, tg_331, rf_331_0, tg_332, ln_332, tg_333, rf_333_0, tg_334, ln_334, tg_335, ln_335, tg_336, rf_336_0, tg_337, ln_337, tg_339, ln_339, tg_346, rf_346_1, rf_346_2, rf_346_4, rf_346_5, rf_346_6, rf_346_7, rf_346_8, rf_346_11, rf_346_13, rf_346_14, rf_346_15, rf_346_17, rf_346_18, rf_346_19, rf_346_20, rf_346_21, rf_346_22, rf_346_26, rf_346_28, rf_346_29, rf_346_32, rf_346_34, rf_346_35, rf_346_36, tg_347, ln_347, tg_348, ln_348, tg_349, ln_349, tg_350, ln_350, tg_351, ln_351, tg_352, ln_352, tg_353, ln_353, tg_354, ln_354, tg_355, ln_355, tg_356, ln_356, tg_357, ln_357, tg_358, ln_358, tg_359, ln_359, tg_360, ln_360, tg_361, ln_361, tg_362, ln_362, tg_363, ln_363, tg_364, ln_364, tg_365, ln_365, tg_366, ln_366, tg_367, ln_367, tg_368, ln_368, tg_369, ln_369, tg_370, ln_370, sp_isMode hh.2.1.1 mc6, hq, b2_t, eb, b2_f]
    | true =>
      rw [hw] at ea eb
      obtain ⟨k, hk, rfl⟩ := inI_ex hq (by omega)
      obtain ⟨i, hi, rfl, v1, v2, v3⟩ := sides_ok hw
      have k6 : k < 6 := by omega
      obtain ⟨m1, m2, m3, m4, m5⟩ := lay_M k k6
      have s1 : k < 2147483648 := by omega
      have s2 : ¬ 6 ≤ k := by omega
      obtain ⟨a1, a2, a3, a4, a5, a6⟩ := hh.2.2.2.2.1 k k6
      obtain ⟨bb, hbb⟩ := isB_ex a2
      obtain ⟨rd, lo⟩ := feI_RD (v := a) (w := b) hh hk hi hbb v1 v2 v3
      have l355 : f_ln 355 = 6 := by decide +kernel
      have fin : Rel (feI I k i bb a b) := ⟨mc, jc, lim, sm, fj, tj, rd, RF_of hh f (lo _ (by omega) (by omega) (by omega) (by omega)) (fun m hm => ⟨lo _ (by omega) (by omega) (by omega) (by omega), lo _ (by omega) (by omega) (by omega) (by omega)⟩) (fun j hj => ⟨lo _ (by omega) (by omega) (by omega) (by omega), lo _ (by omega) (by omega) (by omega) (by omega), lo _ (by omega) (by omega) (by omega) (by omega)⟩) (lo _ (by omega) (by omega) (by omega) (by omega)) (fun q a b => lo _ (by omega) (by omega) (by omega) (by omega))⟩
      have y2 : 14 + 7 * k + 1 = 15 + 7 * k := by omega
      have n1 : (346 : Nat) ≠ 15 + 7 * k := by omega
      have n2 : (346 : Nat) ≠ 9 + 7 * k := by omega
      have n3 : (346 : Nat) ≠ 14 + 7 * k + 1 := by omega
      have n4 : (355 : Nat) ≠ 15 + 7 * k := by omega
      have n5 : (355 : Nat) ≠ 9 + 7 * k := by omega
      have n6 : (355 : Nat) ≠ 14 + 7 * k + 1 := by omega
      have n7 : (355 : Nat) ≠ 356 := by omega
      have hmc : feX I k i bb a b 346 0 = nI mc := by
        unfold feX fnX
        rw [f_up_ne n1, f_up_ne n1]
        cases bb
        · rw [if_neg (by decide), f_up_ne n2, f_wb_ne n3]; exact hh.2.1.1
        · rw [if_pos rfl]; exact hh.2.1.1
      have h355 : feX I k i bb a b 355 k = b2 bb := by
        unfold feX fnX
        rw [f_up_ne n4, f_up_ne n4]
        cases bb
        · rw [if_neg (by decide), f_up_ne n5, f_wb_ne n6, a3, hbb]
        · rw [if_pos rfl, a3, hbb]
      have ed : (fun k => if k % 2 = 0 then -20 else nI 20) = d20 := rfl
      have ed2 : (fun k => if k % 2 = 0 then -20 else 20) = d20 := rfl
      cases bb with
      | true =>
        refine ⟨nI 1, feX I k i true a b, feI I k i true a b, L, fun d Q => ?_, fun d Q => ?_, fin⟩
        · simp only [w76_0, w76_1, w76_4, w76_5, w76_8, w76_11, w76_12, w76_13, w76_15, w76_17, w76_20, w76_23, w76_24, w76_25, w76_26, w76_29, w76_30, w76_33, w76_36, w76_37, w76_38, w76_39, w76_40, w76_42, w76_45, w76_46, w77_0, w77_1, w77_4, w77_7, w77_8, w77_11, w77_13, w77_15, w77_18, w77_19, w77_20, w77_23, w77_24, w77_27, w77_28, w77_29, w77_31, w77_34, eq_self, Nat.zero_le, n_lt, n_le, n_eq, n_neg, n_cl, n_mul, n_add, z_0, z_1, z_2, sc_0, sc_i, sc_r, sc_l, sc_n, jc_n, jc_i, jc_r, jc_l, Option.toList_some, Option.toList_none, List.cons_append, List.nil_append, Nat.reduceLT, Nat.reduceLeDiff, Nat.reduceMul, Nat.reduceAdd, Nat.reduceSub, Nat.reduceEqDiff, not_false_eq_true, not_true_eq_false, false_or, or_false, true_or, or_true, false_imp_iff, true_imp_iff, and_true, true_and, forall_const, false_implies, true_implies, b_t0, b_f0, tg_1, rf_1_0, rf_1_1, rf_1_2, rf_1_3, rf_1_4, rf_1_5, rf_1_6, tg_2, rf_2_0, rf_2_1, rf_2_2, rf_2_3, tg_3, ln_3, tg_4, ln_4, tg_5, rf_5_0, tg_6, ln_6, tg_7, rf_7_0, tg_8, ln_8, tg_123, rf_123_0, rf_123_1, rf_123_2, rf_123_3, rf_123_4, tg_124, ln_124, tg_125, rf_125_0, tg_126, ln_126, tg_127, rf_127_0, tg_128, ln_128, tg_129, ln_129, tg_322, rf_322_0, rf_322_1, rf_322_2, rf_322_3, tg_323, ln_323, tg_324, ln_324, tg_325, rf_325_0, rf_325_1, rf_325_2, tg_326, rf_326_0, tg_327, ln_327, tg_328, rf_328_0, tg_329, ln_329, tg_330, rf_330_0, rf_330_1, rf_330_2, tg_331, rf_331_0, tg_332, ln_332, tg_333, rf_333_0, tg_334, ln_334, tg_335, ln_335, tg_336, rf_336_0, tg_337, ln_337, tg_339, ln_339, tg_346, rf_346_1, rf_346_2, rf_346_4, rf_346_5, rf_346_6, rf_346_7, rf_346_8, rf_346_11, rf_346_13, rf_346_14, rf_346_15, rf_346_17, rf_346_18, rf_346_19, rf_346_20, rf_346_21, rf_346_22, rf_346_26, rf_346_28, rf_346_29, rf_346_32, rf_346_34, rf_346_35, rf_346_36, tg_347, ln_347, tg_348, ln_348, tg_349, ln_349, tg_350, ln_350, tg_351, ln_351, tg_352, ln_352, tg_353, ln_353, tg_354, ln_354, tg_355, ln_355, tg_356, ln_356, tg_357, ln_357, tg_358, ln_358, tg_359, ln_359, tg_360, ln_360, tg_361, ln_361, tg_362, ln_362, tg_363, ln_363, tg_364, ln_364, tg_365, ln_365, tg_366, ln_366, tg_367, ln_367, tg_368, ln_368, tg_369, ln_369, tg_370, ln_370, sp_hasMode, em, b2_t, ea, n_cl s1, n_neg s1, s2, m1, m2, m5, hbb, (bx_pa k6).1, sp_put (bx_pa k6) hi, y2]
          rfl
        · simp only [w155_0, w155_1, w155_2, w155_5, w155_8, w155_9, w155_10, w155_12, w155_14, w155_17, w155_20, w155_21, w155_22, w155_23, w155_26, w155_27, w155_28, w155_31, w155_32, w155_35, w155_37, w155_38, w155_39, w155_42, w155_43, w155_46, w155_47, w155_48, w155_49, w155_50, w155_53, w155_55, w155_56, w155_57, w155_58, w155_59, w155_61, w155_64, eq_self, Nat.zero_le, n_lt, n_le, n_eq, n_neg, n_cl, n_mul, n_add, z_0, z_1, z_2, sc_0, sc_i, sc_r, sc_l, sc_n, jc_n, jc_i, jc_r, jc_l, Option.toList_some, Option.toList_none, List.cons_append, List.nil_append, Nat.reduceLT, Nat.reduceLeDiff, Nat.reduceMul, Nat.reduceAdd, Nat.reduceSub, Nat.reduceEqDiff, not_false_eq_true, not_true_eq_false, false_or, or_false, true_or, or_true, false_imp_iff, true_imp_iff, and_true, true_and, forall_const, false_implies, true_implies, b_t0, b_f0, tg_1, rf_1_0, rf_1_1, rf_1_2, rf_1_3, rf_1_4, rf_1_5, rf_1_6, tg_2, rf_2_0, rf_2_1, rf_2_2, rf_2_3, tg_3, ln_3, tg_4, ln_4, tg_5, rf_5_0, tg_6, ln_6, tg_7, rf_7_0, tg_8, ln_8, tg_123, rf_123_0, rf_123_1, rf_123_2, rf_123_3, rf_123_4, tg_124, ln_124, tg_125, rf_125_0, tg_126, ln_126, tg_127, rf_127_0, tg_128, ln_128, tg_129, ln_129, tg_322, rf_322_0, rf_322_1, rf_322_2, rf_322_3, tg_323, ln_323, tg_324, ln_324, tg_325, rf_325_0, rf_325_1, rf_325_2, tg_326, rf_326_0, tg_327, ln_327, tg_328, rf_328_0, tg_329, ln_329, tg_330, rf_330_0, rf_330_1, rf_330_2, tg_331, rf_331_0, tg_332, ln_332, tg_333, rf_333_0, tg_334, ln_334, tg_335, ln_335, tg_336, rf_336_0, tg_337, ln_337, tg_339, ln_339, tg_346, rf_346_1, rf_346_2, rf_346_4, rf_346_5, rf_346_6, rf_346_7, rf_346_8, rf_346_11, rf_346_13, rf_346_14, rf_346_15, rf_346_17, rf_346_18, rf_346_19, rf_346_20, rf_346_21, rf_346_22, rf_346_26, rf_346_28, rf_346_29, rf_346_32, rf_346_34, rf_346_35, rf_346_36, tg_347, ln_347, tg_348, ln_348, tg_349, ln_349, tg_350, ln_350, tg_351, ln_351, tg_352, ln_352, tg_353, ln_353, tg_354, ln_354, tg_355, ln_355, tg_356, ln_356, tg_357, ln_357, tg_358, ln_358, tg_359, ln_359, tg_360, ln_360, tg_361, ln_361, tg_362, ln_362, tg_363, ln_363, tg_364, ln_364, tg_365, ln_365, tg_366, ln_366, tg_367, ln_367, tg_368, ln_368, tg_369, ln_369, tg_370, ln_370, sp_isMode hmc mc6, hq, b2_t, eb, n_cl s1, n_neg s1, s2, l355, h355, sp_tell (rw6_356 k6) hi]
          rfl
      | false =>
        refine ⟨nI 1, feX I k i false a b, feI I k i false a b, L, fun d Q => ?_, fun d Q => ?_, fin⟩
        · simp only [w76_0, w76_1, w76_4, w76_5, w76_8, w76_11, w76_12, w76_13, w76_15, w76_17, w76_20, w76_23, w76_24, w76_25, w76_26, w76_29, w76_30, w76_33, w76_36, w76_37, w76_38, w76_39, w76_40, w76_42, w76_45, w76_46, w77_0, w77_1, w77_4, w77_7, w77_8, w77_11, w77_13, w77_15, w77_18, w77_19, w77_20, w77_23, w77_24, w77_27, w77_28, w77_29, w77_31, w77_34, eq_self, Nat.zero_le, n_lt, n_le, n_eq, n_neg, n_cl, n_mul, n_add, z_0, z_1, z_2, sc_0, sc_i, sc_r, sc_l, sc_n, jc_n, jc_i, jc_r, jc_l, Option.toList_some, Option.toList_none, List.cons_append, List.nil_append, Nat.reduceLT, Nat.reduceLeDiff, Nat.reduceMul, Nat.reduceAdd, Nat.reduceSub, Nat.reduceEqDiff, not_false_eq_true, not_true_eq_false, false_or, or_false, true_or, or_true, false_imp_iff, true_imp_iff, and_true, true_and, forall_const, false_implies, true_implies, b_t0, b_f0, tg_1, rf_1_0, rf_1_1, rf_1_2, rf_1_3, rf_1_4, rf_1_5, rf_1_6, tg_2, rf_2_0, rf_2_1, rf_2_2, rf_2_3, tg_3, ln_3, tg_4, ln_4, tg_5, rf_5_0, tg_6, ln_6, tg_7, rf_7_0, tg_8, ln_8, tg_123, rf_123_0, rf_123_1, rf_123_2, rf_123_3, rf_123_4, tg_124, ln_124, tg_125, rf_125_0, tg_126, ln_126, tg_127, rf_127_0, tg_128, ln_128, tg_129, ln_129, tg_322, rf_322_0, rf_322_1, rf_322_2, rf_322_3, tg_323, ln_323, tg_324, ln_324, tg_325, rf_325_0, rf_325_1, rf_325_2, tg_326, rf_326_0, tg_327, ln_327, tg_328, rf_328_0, tg_329, ln_329, tg_330, rf_330_0, rf_330_1, rf_330_2, tg_331, rf_331_0, tg_332, ln_332, tg_333, rf_333_0, tg_334, ln_334, tg_335, ln_335, tg_336, rf_336_0, tg_337, ln_337, tg_339, ln_339, tg_346, rf_346_1, rf_346_2, rf_346_4, rf_346_5, rf_346_6, rf_346_7, rf_346_8, rf_346_11, rf_346_13, rf_346_14, rf_346_15, rf_346_17, rf_346_18, rf_346_19, rf_346_20, rf_346_21, rf_346_22, rf_346_26, rf_346_28, rf_346_29, rf_346_32, rf_346_34, rf_346_35, rf_346_36, tg_347, ln_347, tg_348, ln_348, tg_349, ln_349, tg_350, ln_350, tg_351, ln_351, tg_352, ln_352, tg_353, ln_353, tg_354, ln_354, tg_355, ln_355, tg_356, ln_356, tg_357, ln_357, tg_358, ln_358, tg_359, ln_359, tg_360, ln_360, tg_361, ln_361, tg_362, ln_362, tg_363, ln_363, tg_364, ln_364, tg_365, ln_365, tg_366, ln_366, tg_367, ln_367, tg_368, ln_368, tg_369, ln_369, tg_370, ln_370, sp_hasMode, em, b2_t, b2_f, ea, n_cl s1, n_neg s1, s2, m1, m2, m5, hbb, (bx_pa k6).1, sp_putAll (bx_pa k6), sp_put (bx_pa k6) hi, y2, ed]
          rfl
        · simp only [w155_0, w155_1, w155_2, w155_5, w155_8, w155_9, w155_10, w155_12, w155_14, w155_17, w155_20, w155_21, w155_22, w155_23, w155_26, w155_27, w155_28, w155_31, w155_32, w155_35, w155_37, w155_38, w155_39, w155_42, w155_43, w155_46, w155_47, w155_48, w155_49, w155_50, w155_53, w155_55, w155_56, w155_57, w155_58, w155_59, w155_61, w155_64, eq_self, Nat.zero_le, n_lt, n_le, n_eq, n_neg, n_cl, n_mul, n_add, z_0, z_1, z_2, sc_0, sc_i, sc_r, sc_l, sc_n, jc_n, jc_i, jc_r, jc_l, Option.toList_some, Option.toList_none, List.cons_append, List.nil_append, Nat.reduceLT, Nat.reduceLeDiff, Nat.reduceMul, Nat.reduceAdd, Nat.reduceSub, Nat.reduceEqDiff, not_false_eq_true, not_true_eq_false, false_or, or_false, true_or, or_true, false_imp_iff, true_imp_iff, and_true, true_and, forall_const, false_implies, true_implies, b_t0, b_f0, tg_1, rf_1_0, rf_1_1, rf_1_2, rf_1_3, rf_1_4, rf_1_5, rf_1_6, tg_2, rf_2_0, rf_2_1, rf_2_2, rf_2_3, tg_3, ln_3, tg_4, ln_4, tg_5, rf_5_0, tg_6, ln_6, tg_7, rf_7_0, tg_8, ln_8, tg_123, rf_123_0, rf_123_1, rf_123_2, rf_123_3, rf_123_4, tg_124, ln_124, tg_125, rf_125_0, tg_126, ln_126, tg_127, rf_127_0, tg_128, ln_128, tg_129, ln_129, tg_322, rf_322_0, rf_322_1, rf_322_2, rf_322_3, tg_323, ln_323, tg_324, ln_324, tg_325, rf_325_0, rf_325_1, rf_325_2, tg_326, rf_326_0, tg_327, ln_327, tg_328, rf_328_0, tg_329, ln_329, tg_330, rf_330_0, rf_330_1, rf_330_2, tg_331, rf_331_0, tg_332, ln_332, tg_333, rf_333_0, tg_334, ln_334, tg_335, ln_335, tg_336, rf_336_0, tg_337, ln_337, tg_339, ln_339, tg_346, rf_346_1, rf_346_2, rf_346_4, rf_346_5, rf_346_6, rf_346_7, rf_346_8, rf_346_11, rf_346_13, rf_346_14, rf_346_15, rf_346_17, rf_346_18, rf_346_19, rf_346_20, rf_346_21, rf_346_22, rf_346_26, rf_346_28, rf_346_29, rf_346_32, rf_346_34, rf_346_35, rf_346_36, tg_347, ln_347, tg_348, ln_348, tg_349, ln_349, tg_350, ln_350, tg_351, ln_351, tg_352, ln_352, tg_353, ln_353, tg_354, ln_354, tg_355, ln_355, tg_356, ln_356, tg_357, ln_357, tg_358, ln_358, tg_359, ln_359, tg_360, ln_360, tg_361, ln_361, tg_362, ln_362, tg_363, ln_363, tg_364, ln_364, tg_365, ln_365, tg_366, ln_366, tg_367, ln_367, tg_368, ln_368, tg_369, ln_369, tg_370, ln_370, sp_isMode hmc mc6, hq, b2_t, b2_f, eb, n_cl s1, n_neg s1, s2, l355, h355, sp_fill (rw6_356 k6), f_w6_ne n7, sp_tell (rw6_356 k6) hi, ed2]
          rfl
/-! open -/
def cntF (g : Nat → Int32) : Nat → Nat → Nat
  | 0, _ => 0
  | k + 1, i => (if g i = nI 0 then 0 else 1) + cntF g k (i + 1)
theorem cntF_congr {g g' : Nat → Int32} : ∀ k i, (∀ m, i ≤ m → m < i + k → g m = g' m) → cntF g k i = cntF g' k i := by
  intro k
  induction k with
  | zero => intro i _; rfl
  | succ k ih =>
    intro i h
    unfold cntF
    rw [h i (by omega) (by omega), ih (i + 1) (fun m h1 h2 => h m (by omega) (by omega))]
theorem cntF_0 {g : Nat → Int32} : ∀ k i, (∀ m, i ≤ m → m < i + k → g m = nI 0) → cntF g k i = 0 := by
  intro k
  induction k with
  | zero => intro i _; rfl
  | succ k ih =>
    intro i h
    unfold cntF
    rw [h i (by omega) (by omega), ih (i + 1) (fun m h1 h2 => h m (by omega) (by omega)), if_pos rfl]
theorem cntF_add {g : Nat → Int32} : ∀ k l i, cntF g (k + l) i = cntF g k i + cntF g l (i + k) := by
  intro k
  induction k with
  | zero => intro l i; simp [cntF]
  | succ k ih =>
    intro l i
    have e : ∀ k, cntF g (k + 1) i = (if g i = nI 0 then 0 else 1) + cntF g k (i + 1) := fun _ => rfl
    rw [show k + 1 + l = (k + l) + 1 by omega, e, e, ih l (i + 1), show i + 1 + k = i + (k + 1) by omega]
    omega
theorem x_clear {mc : Nat} (mc6 : mc ≤ 6) : ∀ (k i n : Nat) (I : fI), i + k = mc → I 2 4 = nI mc → (∀ m, m < mc → isB (I (9 + 7 * m) 3)) → ∃ I' : fI, (∀ o, (∀ m, m < mc → o ≠ 9 + 7 * m) → I' o = I o) ∧ (∀ m, i ≤ m → m < mc → I' (9 + 7 * m) 3 = nI 0) ∧ (∀ m, m < i → I' (9 + 7 * m) = I (9 + 7 * m)) ∧ ∀ (d : Nat) (Q : Option Value × jW → Prop), Wp d 79 4 [some (.ref 325), some (.int (nI n)), some (.int (nI i))] [] (f_W xs I L) Q = Q (some (.int (nI (n + cntF (fun m => I (9 + 7 * m) 3) k i))), f_W xs I' L) := by
  intro k
  induction k with
  | zero =>
    intro i n I hk h1 hB
    have hk : i = mc := by omega
    subst hk
    have s1 : i < 2147483648 := by omega
    refine ⟨I, fun _ _ => rfl, fun m a b => by omega, fun _ _ => rfl, fun d Q => ?_⟩
    rw [w79_4]
    simp only [w79_0, w79_1, w79_2, w79_3, w79_5, w79_6, w79_9, w79_12, w79_15, w79_16, w79_19, w79_22, w79_23, w79_24, w79_27, w79_30, w79_31, w79_34, w79_37, w79_38, w79_39, w79_40, w79_43, w79_46, w79_49, w79_52, w79_53, eq_self, Nat.zero_le, n_lt, n_le, n_eq, n_neg, n_cl, n_mul, n_add, z_0, z_1, z_2, sc_0, sc_i, sc_r, sc_l, sc_n, jc_n, jc_i, jc_r, jc_l, Option.toList_some, Option.toList_none, List.cons_append, List.nil_append, Nat.reduceLT, Nat.reduceLeDiff, Nat.reduceMul, Nat.reduceAdd, Nat.reduceSub, Nat.reduceEqDiff, not_false_eq_true, not_true_eq_false, false_or, or_false, true_or, or_true, false_imp_iff, true_imp_iff, and_true, true_and, forall_const, false_implies, true_implies, b_t0, b_f0, tg_1, rf_1_0, rf_1_1, rf_1_2, rf_1_3, rf_1_4, rf_1_5, rf_1_6, tg_2, rf_2_0, rf_2_1, rf_2_2, rf_2_3, tg_3, ln_3, tg_4, ln_4, tg_5, rf_5_0, tg_6, ln_6, tg_7, rf_7_0, tg_8, ln_8, tg_123, rf_123_0, rf_123_1, rf_123_2, rf_123_3, rf_123_4, tg_124, ln_124, tg_125, rf_125_0, tg_126, ln_126, tg_127, rf_127_0, tg_128, ln_128, tg_129, ln_129, tg_322, rf_322_0, rf_322_1, rf_322_2, rf_322_3, tg_323, ln_323, tg_324, ln_324, tg_325, rf_325_0, rf_325_1, rf_325_2, tg_326, rf_326_0, tg_327, ln_327, tg_328, rf_328_0, tg_329, ln_329, tg_330, rf_330_0, rf_330_1, rf_330_2, tg_331, rf_331_0, tg_332, ln_332, tg_333, rf_333_0, tg_334, ln_334, tg_335, ln_335, tg_336, rf_336_0, tg_337, ln_337, tg_339, ln_339, tg_346, rf_346_1, rf_346_2, rf_346_4, rf_346_5, rf_346_6, rf_346_7, rf_346_8, rf_346_11, rf_346_13, rf_346_14, rf_346_15, rf_346_17, rf_346_18, rf_346_19, rf_346_20, rf_346_21, rf_346_22, rf_346_26, rf_346_28, rf_346_29, rf_346_32, rf_346_34, rf_346_35, rf_346_36, tg_347, ln_347, tg_348, ln_348, tg_349, ln_349, tg_350, ln_350, tg_351, ln_351, tg_352, ln_352, tg_353, ln_353, tg_354, ln_354, tg_355, ln_355, tg_356, ln_356, tg_357, ln_357, tg_358, ln_358, tg_359, ln_359, tg_360, ln_360, tg_361, ln_361, tg_362, ln_362, tg_363, ln_363, tg_364, ln_364, tg_365, ln_365, tg_366, ln_366, tg_367, ln_367, tg_368, ln_368, tg_369, ln_369, tg_370, ln_370, h1, n_le s1 s1, Nat.le_refl, cntF, Nat.add_zero]
  | succ k ih =>
    intro i n I hk h1 hB
    have i6 : i < 6 := by omega
    obtain ⟨m1, m2, m3, m4, m5⟩ := lay_M i i6
    have s1 : i < 2147483648 := by omega
    have s2 : ¬ 6 ≤ i := by omega
    have s3 : mc < 2147483648 := by omega
    have s4 : ¬ mc ≤ i := by omega
    obtain ⟨b, hb⟩ := isB_ex (hB i (by omega))
    have ec : cntF (fun m => I (9 + 7 * m) 3) (k + 1) i = (if I (9 + 7 * i) 3 = nI 0 then 0 else 1) + cntF (fun m => I (9 + 7 * m) 3) k (i + 1) := rfl
    cases b with
    | false =>
      obtain ⟨I', f1, f2, f3, E⟩ := ih (i + 1) n I (by omega) h1 hB
      refine ⟨I', f1, fun m a b => ?_, fun m a => f3 m (by omega), fun d Q => ?_⟩
      · by_cases q : m = i
        · subst q
          rw [f3 m (by omega), hb]
          rfl
        · exact f2 m (by omega) b
      · rw [ec, hb, if_pos b2_f, Nat.zero_add, ← E d Q, w79_4]
        simp only [w79_0, w79_1, w79_2, w79_3, w79_5, w79_6, w79_9, w79_12, w79_15, w79_16, w79_19, w79_22, w79_23, w79_24, w79_27, w79_30, w79_31, w79_34, w79_37, w79_38, w79_39, w79_40, w79_43, w79_46, w79_49, w79_52, w79_53, eq_self, Nat.zero_le, n_lt, n_le, n_eq, n_neg, n_cl, n_mul, n_add, z_0, z_1, z_2, sc_0, sc_i, sc_r, sc_l, sc_n, jc_n, jc_i, jc_r, jc_l, Option.toList_some, Option.toList_none, List.cons_append, List.nil_append, Nat.reduceLT, Nat.reduceLeDiff, Nat.reduceMul, Nat.reduceAdd, Nat.reduceSub, Nat.reduceEqDiff, not_false_eq_true, not_true_eq_false, false_or, or_false, true_or, or_true, false_imp_iff, true_imp_iff, and_true, true_and, forall_const, false_implies, true_implies, b_t0, b_f0, tg_1, rf_1_0, rf_1_1, rf_1_2, rf_1_3, rf_1_4, rf_1_5, rf_1_6, tg_2, rf_2_0, rf_2_1, rf_2_2, rf_2_3, tg_3, ln_3, tg_4, ln_4, tg_5, rf_5_0, tg_6, ln_6, tg_7, rf_7_0, tg_8, ln_8, tg_123, rf_123_0, rf_123_1, rf_123_2, rf_123_3, rf_123_4, tg_124, ln_124, tg_125, rf_125_0, tg_126, ln_126, tg_127, rf_127_0, tg_128, ln_128, tg_129, ln_129, tg_322, rf_322_0, rf_322_1, rf_322_2, rf_322_3, tg_323, ln_323, tg_324, ln_324, tg_325, rf_325_0, rf_325_1, rf_325_2, tg_326, rf_326_0, tg_327, ln_327, tg_328, rf_328_0, tg_329, ln_329, tg_330, rf_330_0, rf_330_1, rf_330_2, tg_331, rf_331_0, tg_332, ln_332, tg_333, rf_333_0, tg_334, ln_334, tg_335, ln_335, tg_336, rf_336_0, tg_337, ln_337, tg_339, ln_339, tg_346, rf_346_1, rf_346_2, rf_346_4, rf_346_5, rf_346_6, rf_346_7, rf_346_8, rf_346_11, rf_346_13, rf_346_14, rf_346_15, rf_346_17, rf_346_18, rf_346_19, rf_346_20, rf_346_21, rf_346_22, rf_346_26, rf_346_28, rf_346_29, rf_346_32, rf_346_34, rf_346_35, rf_346_36, tg_347, ln_347, tg_348, ln_348, tg_349, ln_349, tg_350, ln_350, tg_351, ln_351, tg_352, ln_352, tg_353, ln_353, tg_354, ln_354, tg_355, ln_355, tg_356, ln_356, tg_357, ln_357, tg_358, ln_358, tg_359, ln_359, tg_360, ln_360, tg_361, ln_361, tg_362, ln_362, tg_363, ln_363, tg_364, ln_364, tg_365, ln_365, tg_366, ln_366, tg_367, ln_367, tg_368, ln_368, tg_369, ln_369, tg_370, ln_370, h1, n_le s3 s1, s4, n_cl s1, n_neg s1, s2, m1, m2, hb, b2_f]
    | true =>
      have g2 : f_up I (9 + 7 * i) 3 (nI 0) 2 4 = nI mc := by rw [f_up_ne (by omega)]; exact h1
      obtain ⟨I', f1, f2, f3, E⟩ := ih (i + 1) (n + 1) (f_up I (9 + 7 * i) 3 (nI 0)) (by omega) g2 (fun m hm => by
        by_cases q : m = i
        · subst q; left; simp [f_up_at, nI]
        · rw [f_up_ne (by omega)]; exact hB m hm)
      refine ⟨I', fun o ho => ?_, fun m a b => ?_, fun m a => ?_, fun d Q => ?_⟩
      · rw [f1 o ho, f_up_ne (ho i (by omega))]
      · by_cases q : m = i
        · subst q
          rw [f3 m (by omega)]
          simp [f_up_at]
        · exact f2 m (by omega) b
      · rw [f3 m (by omega), f_up_ne (by omega)]
      · have e2 : cntF (fun m => f_up I (9 + 7 * i) 3 (nI 0) (9 + 7 * m) 3) k (i + 1) = cntF (fun m => I (9 + 7 * m) 3) k (i + 1) := cntF_congr _ _ (fun m h1 h2 => by rw [f_up_ne (by omega)])
        have E := E d Q
        rw [e2] at E
        rw [ec, hb, b2_t, if_neg (by decide), show n + (1 + cntF (fun m => I (9 + 7 * m) 3) k (i + 1)) = n + 1 + cntF (fun m => I (9 + 7 * m) 3) k (i + 1) by omega, ← E, w79_4]
        simp only [w79_0, w79_1, w79_2, w79_3, w79_5, w79_6, w79_9, w79_12, w79_15, w79_16, w79_19, w79_22, w79_23, w79_24, w79_27, w79_30, w79_31, w79_34, w79_37, w79_38, w79_39, w79_40, w79_43, w79_46, w79_49, w79_52, w79_53, eq_self, Nat.zero_le, n_lt, n_le, n_eq, n_neg, n_cl, n_mul, n_add, z_0, z_1, z_2, sc_0, sc_i, sc_r, sc_l, sc_n, jc_n, jc_i, jc_r, jc_l, Option.toList_some, Option.toList_none, List.cons_append, List.nil_append, Nat.reduceLT, Nat.reduceLeDiff, Nat.reduceMul, Nat.reduceAdd, Nat.reduceSub, Nat.reduceEqDiff, not_false_eq_true, not_true_eq_false, false_or, or_false, true_or, or_true, false_imp_iff, true_imp_iff, and_true, true_and, forall_const, false_implies, true_implies, b_t0, b_f0, tg_1, rf_1_0, rf_1_1, rf_1_2, rf_1_3, rf_1_4, rf_1_5, rf_1_6, tg_2, rf_2_0, rf_2_1, rf_2_2, rf_2_3, tg_3, ln_3, tg_4, ln_4, tg_5, rf_5_0, tg_6, ln_6, tg_7, rf_7_0, tg_8, ln_8, tg_123, rf_123_0, rf_123_1, rf_123_2, rf_123_3, rf_123_4, tg_124, ln_124, tg_125, rf_125_0, tg_126, ln_126, tg_127, rf_127_0, tg_128, ln_128, tg_129, ln_129, tg_322, rf_322_0, rf_322_1, rf_322_2, rf_322_3, tg_323, ln_323, tg_324, ln_324, tg_325, rf_325_0, rf_325_1, rf_325_2, tg_326, rf_326_0, tg_327, ln_327, tg_328, rf_328_0, tg_329, ln_329, tg_330, rf_330_0, rf_330_1, rf_330_2, tg_331, rf_331_0, tg_332, ln_332, tg_333, rf_333_0, tg_334, ln_334, tg_335, ln_335, tg_336, rf_336_0, tg_337, ln_337, tg_339, ln_339, tg_346, rf_346_1, rf_346_2, rf_346_4, rf_346_5, rf_346_6, rf_346_7, rf_346_8, rf_346_11, rf_346_13, rf_346_14, rf_346_15, rf_346_17, rf_346_18, rf_346_19, rf_346_20, rf_346_21, rf_346_22, rf_346_26, rf_346_28, rf_346_29, rf_346_32, rf_346_34, rf_346_35, rf_346_36, tg_347, ln_347, tg_348, ln_348, tg_349, ln_349, tg_350, ln_350, tg_351, ln_351, tg_352, ln_352, tg_353, ln_353, tg_354, ln_354, tg_355, ln_355, tg_356, ln_356, tg_357, ln_357, tg_358, ln_358, tg_359, ln_359, tg_360, ln_360, tg_361, ln_361, tg_362, ln_362, tg_363, ln_363, tg_364, ln_364, tg_365, ln_365, tg_366, ln_366, tg_367, ln_367, tg_368, ln_368, tg_369, ln_369, tg_370, ln_370, h1, n_le s3 s1, s4, n_cl s1, n_neg s1, s2, m1, m2, hb, b2_t]
theorem x_mopen : ∀ (k i n : Nat) (I : fI), i + k = 6 → (∀ m, m < 6 → isB (I 355 m)) → ∃ I' : fI, (∀ o, o ≠ 355 → I' o = I o) ∧ (∀ m, i ≤ m → m < 6 → I' 355 m = nI 0) ∧ (∀ m, m < i → I' 355 m = I 355 m) ∧ ∀ (d : Nat) (Q : Option Value × jW → Prop), Wp d 156 4 [some (.ref 346), some (.int (nI n)), some (.int (nI i))] [] (f_W xs I L) Q = Q (some (.int (nI (n + cntF (fun m => I 355 m) k i))), f_W xs I' L) := by
  have l355 : f_ln 355 = 6 := by decide +kernel
  intro k
  induction k with
  | zero =>
    intro i n I hk hB
    have hk : i = 6 := by omega
    subst hk
    refine ⟨I, fun _ _ => rfl, fun m a b => by omega, fun _ _ => rfl, fun d Q => ?_⟩
    rw [w156_4]
    simp only [w156_0, w156_1, w156_2, w156_3, w156_5, w156_7, w156_10, w156_11, w156_12, w156_15, w156_16, w156_17, w156_20, w156_21, w156_24, w156_25, w156_26, w156_27, w156_28, w156_31, w156_32, w156_33, w156_34, w156_37, w156_40, w156_41, eq_self, Nat.zero_le, n_lt, n_le, n_eq, n_neg, n_cl, n_mul, n_add, z_0, z_1, z_2, sc_0, sc_i, sc_r, sc_l, sc_n, jc_n, jc_i, jc_r, jc_l, Option.toList_some, Option.toList_none, List.cons_append, List.nil_append, Nat.reduceLT, Nat.reduceLeDiff, Nat.reduceMul, Nat.reduceAdd, Nat.reduceSub, Nat.reduceEqDiff, not_false_eq_true, not_true_eq_false, false_or, or_false, true_or, or_true, false_imp_iff, true_imp_iff, and_true, true_and, forall_const, false_implies, true_implies, b_t0, b_f0, tg_1, rf_1_0, rf_1_1, rf_1_2, rf_1_3, rf_1_4, rf_1_5, rf_1_6, tg_2, rf_2_0, rf_2_1, rf_2_2, rf_2_3, tg_3, ln_3, tg_4, ln_4, tg_5, rf_5_0, tg_6, ln_6, tg_7, rf_7_0, tg_8, ln_8, tg_123, rf_123_0, rf_123_1, rf_123_2, rf_123_3, rf_123_4, tg_124, ln_124, tg_125, rf_125_0, tg_126, ln_126, tg_127, rf_127_0, tg_128, ln_128, tg_129, ln_129, tg_322, rf_322_0, rf_322_1, rf_322_2, rf_322_3, tg_323, ln_323, tg_324, ln_324, tg_325, rf_325_0, rf_325_1, rf_325_2, tg_326, rf_326_0, tg_327, ln_327, tg_328, rf_328_0, tg_329, ln_329, tg_330, rf_330_0, rf_330_1, rf_330_2, tg_331, rf_331_0, tg_332, ln_332, tg_333, rf_333_0, tg_334, ln_334, tg_335, ln_335, tg_336, rf_336_0, tg_337, ln_337, tg_339, ln_339, tg_346, rf_346_1, rf_346_2, rf_346_4, rf_346_5, rf_346_6, rf_346_7, rf_346_8, rf_346_11, rf_346_13, rf_346_14, rf_346_15, rf_346_17, rf_346_18, rf_346_19, rf_346_20, rf_346_21, rf_346_22, rf_346_26, rf_346_28, rf_346_29, rf_346_32, rf_346_34, rf_346_35, rf_346_36, tg_347, ln_347, tg_348, ln_348, tg_349, ln_349, tg_350, ln_350, tg_351, ln_351, tg_352, ln_352, tg_353, ln_353, tg_354, ln_354, tg_355, ln_355, tg_356, ln_356, tg_357, ln_357, tg_358, ln_358, tg_359, ln_359, tg_360, ln_360, tg_361, ln_361, tg_362, ln_362, tg_363, ln_363, tg_364, ln_364, tg_365, ln_365, tg_366, ln_366, tg_367, ln_367, tg_368, ln_368, tg_369, ln_369, tg_370, ln_370, Nat.le_refl, cntF, Nat.add_zero]
  | succ k ih =>
    intro i n I hk hB
    have i6 : i < 6 := by omega
    have s1 : i < 2147483648 := by omega
    have s2 : ¬ 6 ≤ i := by omega
    obtain ⟨b, hb⟩ := isB_ex (hB i (by omega))
    have ec : cntF (fun m => I 355 m) (k + 1) i = (if I 355 i = nI 0 then 0 else 1) + cntF (fun m => I 355 m) k (i + 1) := rfl
    have e2 : cntF (fun m => f_up I 355 i (nI 0) 355 m) k (i + 1) = cntF (fun m => I 355 m) k (i + 1) := cntF_congr _ _ (fun m h1 h2 => by
      have : ¬ m = i := by omega
      simp [f_up_at, this])
    obtain ⟨I', f1, f2, f3, E⟩ := ih (i + 1) (n + (if I 355 i = nI 0 then 0 else 1)) (f_up I 355 i (nI 0)) (by omega) (fun m hm => by
      by_cases q : m = i
      · subst q; left; simp [f_up_at, nI]
      · have : f_up I 355 i (nI 0) 355 m = I 355 m := by simp [f_up_at, q]
        rw [this]; exact hB m hm)
    refine ⟨I', fun o ho => ?_, fun m a b => ?_, fun m a => ?_, fun d Q => ?_⟩
    · rw [f1 o ho, f_up_ne ho]
    · by_cases q : m = i
      · subst q
        rw [f3 m (by omega)]
        simp [f_up_at]
      · exact f2 m (by omega) b
    · rw [f3 m (by omega)]
      have : ¬ m = i := by omega
      simp [f_up_at, this]
    · have E := E d Q
      rw [e2] at E
      rw [ec, ← Nat.add_assoc, ← E, w156_4]
      cases b with
      | false => simp only [w156_0, w156_1, w156_2, w156_3, w156_5, w156_7, w156_10, w156_11, w156_12, w156_15, w156_16, w156_17, w156_20, w156_21, w156_24, w156_25, w156_26, w156_27, w156_28, w156_31, w156_32, w156_33, w156_34, w156_37, w156_40, w156_41, eq_self, Nat.zero_le, n_lt, n_le, n_eq, n_neg, n_cl, n_mul, n_add, z_0, z_1, z_2, sc_0, sc_i, sc_r, sc_l, sc_n, jc_n, jc_i, jc_r, jc_l, Option.toList_some, Option.toList_none, List.cons_append, List.nil_append, Nat.reduceLT, Nat.reduceLeDiff, Nat.reduceMul, Nat.reduceAdd, Nat.reduceSub, Nat.reduceEqDiff, not_false_eq_true, not_true_eq_false, false_or, or_false, true_or, or_true, false_imp_iff, true_imp_iff, and_true, true_and, forall_const, false_implies, true_implies, b_t0, b_f0, tg_1, rf_1_0, rf_1_1, rf_1_2, rf_1_3, rf_1_4, rf_1_5, rf_1_6, tg_2, rf_2_0, rf_2_1, rf_2_2, rf_2_3, tg_3, ln_3, tg_4, ln_4, tg_5, rf_5_0, tg_6, ln_6, tg_7, rf_7_0, tg_8, ln_8, tg_123, rf_123_0, rf_123_1, rf_123_2, rf_123_3, rf_123_4, tg_124, ln_124, tg_125, rf_125_0, tg_126, ln_126, tg_127, rf_127_0, tg_128, ln_128, tg_129, ln_129, tg_322, rf_322_0, rf_322_1, rf_322_2, rf_322_3, tg_323, ln_323, tg_324, ln_324, tg_325, rf_325_0, rf_325_1, rf_325_2, tg_326, rf_326_0, tg_327, ln_327, tg_328, rf_328_0, tg_329, ln_329, tg_330, rf_330_0, rf_330_1, rf_330_2, tg_331, rf_331_0, tg_332, ln_332, tg_333, rf_333_0, tg_334, ln_334, tg_335, ln_335, tg_336, rf_336_0, tg_337, ln_337, tg_339, ln_339, tg_346, rf_346_1, rf_346_2, rf_346_4, rf_346_5, rf_346_6, rf_346_7, rf_346_8, rf_346_11, rf_346_13, rf_346_14, rf_346_15, rf_346_17, rf_346_18, rf_346_19, rf_346_20, rf_346_21, rf_346_22, rf_346_26, rf_346_28, rf_346_29, rf_346_32, rf_346_34, rf_346_35, rf_346_36, tg_347, ln_347, tg_348, ln_348, tg_349, ln_349, tg_350, ln_350, tg_351, ln_351, tg_352, ln_352, tg_353, ln_353, tg_354, ln_354, tg_355, ln_355, tg_356, ln_356, tg_357, ln_357, tg_358, ln_358, tg_359, ln_359, tg_360, ln_360, tg_361, ln_361, tg_362, ln_362, tg_363, ln_363, tg_364, ln_364, tg_365, ln_365, tg_366, ln_366, tg_367, ln_367, tg_368, ln_368, tg_369, ln_369, tg_370, ln_370, s2, n_le (show 6 < 2147483648 by decide) s1, n_cl s1, n_neg s1, hb, b2_f, if_true, l355]
      | true => simp only [w156_0, w156_1, w156_2, w156_3, w156_5, w156_7, w156_10, w156_11, w156_12, w156_15, w156_16, w156_17, w156_20, w156_21, w156_24, w156_25, w156_26, w156_27, w156_28, w156_31, w156_32, w156_33, w156_34, w156_37, w156_40, w156_41, eq_self, Nat.zero_le, n_lt, n_le, n_eq, n_neg, n_cl, n_mul, n_add, z_0, z_1, z_2, sc_0, sc_i, sc_r, sc_l, sc_n, jc_n, jc_i, jc_r, jc_l, Option.toList_some, Option.toList_none, List.cons_append, List.nil_append, Nat.reduceLT, Nat.reduceLeDiff, Nat.reduceMul, Nat.reduceAdd, Nat.reduceSub, Nat.reduceEqDiff, not_false_eq_true, not_true_eq_false, false_or, or_false, true_or, or_true, false_imp_iff, true_imp_iff, and_true, true_and, forall_const, false_implies, true_implies, b_t0, b_f0, tg_1, rf_1_0, rf_1_1, rf_1_2, rf_1_3, rf_1_4, rf_1_5, rf_1_6, tg_2, rf_2_0, rf_2_1, rf_2_2, rf_2_3, tg_3, ln_3, tg_4, ln_4, tg_5, rf_5_0, tg_6, ln_6, tg_7, rf_7_0, tg_8, ln_8, tg_123, rf_123_0, rf_123_1, rf_123_2, rf_123_3, rf_123_4, tg_124, ln_124, tg_125, rf_125_0, tg_126, ln_126, tg_127, rf_127_0, tg_128, ln_128, tg_129, ln_129, tg_322, rf_322_0, rf_322_1, rf_322_2, rf_322_3, tg_323, ln_323, tg_324, ln_324, tg_325, rf_325_0, rf_325_1, rf_325_2, tg_326, rf_326_0, tg_327, ln_327, tg_328, rf_328_0, tg_329, ln_329, tg_330, rf_330_0, rf_330_1, rf_330_2, tg_331, rf_331_0, tg_332, ln_332, tg_333, rf_333_0, tg_334, ln_334, tg_335, ln_335, tg_336, rf_336_0, tg_337, ln_337, tg_339, ln_339, tg_346, rf_346_1, rf_346_2, rf_346_4, rf_346_5, rf_346_6, rf_346_7, rf_346_8, rf_346_11, rf_346_13, rf_346_14, rf_346_15, rf_346_17, rf_346_18, rf_346_19, rf_346_20, rf_346_21, rf_346_22, rf_346_26, rf_346_28, rf_346_29, rf_346_32, rf_346_34, rf_346_35, rf_346_36, tg_347, ln_347, tg_348, ln_348, tg_349, ln_349, tg_350, ln_350, tg_351, ln_351, tg_352, ln_352, tg_353, ln_353, tg_354, ln_354, tg_355, ln_355, tg_356, ln_356, tg_357, ln_357, tg_358, ln_358, tg_359, ln_359, tg_360, ln_360, tg_361, ln_361, tg_362, ln_362, tg_363, ln_363, tg_364, ln_364, tg_365, ln_365, tg_366, ln_366, tg_367, ln_367, tg_368, ln_368, tg_369, ln_369, tg_370, ln_370, s2, n_le (show 6 < 2147483648 by decide) s1, n_cl s1, n_neg s1, hb, b2_t, if_false, l355, n_eq (show 1 < 2147483648 by decide) (show 0 < 2147483648 by decide)]
theorem same_open (hR : Rel I) : Same xs I L 78 [some (.ref 1)] 156 [some (.ref 346), none, none] := by
  obtain ⟨mc, jc, lim, sm, fj, tj, hh, f⟩ := id hR
  have mc6 := hh.1.2.1
  have jc12 := hh.1.2.2.2.1
  obtain ⟨I1, p1, p2, p3, E1⟩ := x_clear (xs := xs) (L := L) mc6 mc 0 0 I (by omega) hh.1.1 (fun m hm => (hh.2.2.2.2.1 m (by omega)).2.1)
  have e355 : I1 355 = I 355 := p1 355 (by omega)
  obtain ⟨I2, r1, r2, r3, E2⟩ := x_mopen (xs := xs) (L := L) 6 0 0 I1 (by omega) (fun m hm => by rw [e355, (hh.2.2.2.2.1 m hm).2.2.1]; exact (hh.2.2.2.2.1 m hm).2.1)
  have ec : cntF (fun m => I1 355 m) 6 0 = cntF (fun m => I (9 + 7 * m) 3) mc 0 := by
    have : cntF (fun m => I1 355 m) 6 0 = cntF (fun m => I (9 + 7 * m) 3) 6 0 := cntF_congr _ _ (fun m _ hm => by
      show I1 355 m = I (9 + 7 * m) 3
      rw [e355]
      exact (hh.2.2.2.2.1 m (by omega)).2.2.1)
    rw [this, show 6 = mc + (6 - mc) by omega, cntF_add, Nat.zero_add, cntF_0 (6 - mc) mc, Nat.add_zero]
    intro m h1 h2
    obtain ⟨a1, a2, a3, a4, -⟩ := hh.2.2.2.2.1 m (by omega)
    show I (9 + 7 * m) 3 = nI 0
    rcases a2 with q | q
    · exact q
    · have := (a4 q).1
      omega
  have o : ∀ o, (∀ m, m < 6 → o ≠ 9 + 7 * m) → o ≠ 355 → I2 o = I o := fun o a b => by rw [r1 o b, p1 o (fun m hm => a m (by omega))]
  have oN : ∀ m, m < 6 → I2 (9 + 7 * m) 3 = nI 0 := by
    intro m hm
    rw [r1 _ (by omega)]
    by_cases q : m < mc
    · exact p2 m (by omega) q
    · rw [p1 _ (fun m' h' => by omega)]
      obtain ⟨a1, a2, a3, a4, -⟩ := hh.2.2.2.2.1 m hm
      rcases a2 with q | q
      · exact q
      · have := (a4 q).1
        omega
  refine ⟨nI (0 + cntF (fun m => I (9 + 7 * m) 3) mc 0), I1, I2, L, fun d Q => ?_, fun d Q => ?_, ?_⟩
  · simp only [w78_0, w78_1, w78_4, w78_7, w79_0, w79_1, w79_2, w79_3, eq_self, Nat.zero_le, n_lt, n_le, n_eq, n_neg, n_cl, n_mul, n_add, z_0, z_1, z_2, sc_0, sc_i, sc_r, sc_l, sc_n, jc_n, jc_i, jc_r, jc_l, Option.toList_some, Option.toList_none, List.cons_append, List.nil_append, Nat.reduceLT, Nat.reduceLeDiff, Nat.reduceMul, Nat.reduceAdd, Nat.reduceSub, Nat.reduceEqDiff, not_false_eq_true, not_true_eq_false, false_or, or_false, true_or, or_true, false_imp_iff, true_imp_iff, and_true, true_and, forall_const, false_implies, true_implies, b_t0, b_f0, tg_1, rf_1_0, rf_1_1, rf_1_2, rf_1_3, rf_1_4, rf_1_5, rf_1_6, tg_2, rf_2_0, rf_2_1, rf_2_2, rf_2_3, tg_3, ln_3, tg_4, ln_4, tg_5, rf_5_0, tg_6, ln_6, tg_7, rf_7_0, tg_8, ln_8, tg_123, rf_123_0, rf_123_1, rf_123_2, rf_123_3, rf_123_4, tg_124, ln_124, tg_125, rf_125_0, tg_126, ln_126, tg_127, rf_127_0, tg_128, ln_128, tg_129, ln_129, tg_322, rf_322_0, rf_322_1, rf_322_2, rf_322_3, tg_323, ln_323, tg_324, ln_324, tg_325, rf_325_0, rf_325_1, rf_325_2, tg_326, rf_326_0, tg_327, ln_327, tg_328, rf_328_0, tg_329, ln_329, tg_330, rf_330_0, rf_330_1, rf_330_2, tg_331, rf_331_0, tg_332, ln_332, tg_333, rf_333_0, tg_334, ln_334, tg_335, ln_335, tg_336, rf_336_0, tg_337, ln_337, tg_339, ln_339, tg_346, rf_346_1, rf_346_2, rf_346_4, rf_346_5, rf_346_6, rf_346_7, rf_346_8, rf_346_11, rf_346_13, rf_346_14, rf_346_15, rf_346_17, rf_346_18, rf_346_19, rf_346_20, rf_346_21, rf_346_22, rf_346_26, rf_346_28, rf_346_29, rf_346_32, rf_346_34, rf_346_35, rf_346_36, tg_347, ln_347, tg_348, ln_348, tg_349, ln_349, tg_350, ln_350, tg_351, ln_351, tg_352, ln_352, tg_353, ln_353, tg_354, ln_354, tg_355, ln_355, tg_356, ln_356, tg_357, ln_357, tg_358, ln_358, tg_359, ln_359, tg_360, ln_360, tg_361, ln_361, tg_362, ln_362, tg_363, ln_363, tg_364, ln_364, tg_365, ln_365, tg_366, ln_366, tg_367, ln_367, tg_368, ln_368, tg_369, ln_369, tg_370, ln_370, E1]
  · rw [← ec, ← E2 (d + 8) Q]
    simp only [w156_0, w156_1, w156_2, w156_3, eq_self, Nat.zero_le, n_lt, n_le, n_eq, n_neg, n_cl, n_mul, n_add, z_0, z_1, z_2, sc_0, sc_i, sc_r, sc_l, sc_n, jc_n, jc_i, jc_r, jc_l, Option.toList_some, Option.toList_none, List.cons_append, List.nil_append, Nat.reduceLT, Nat.reduceLeDiff, Nat.reduceMul, Nat.reduceAdd, Nat.reduceSub, Nat.reduceEqDiff, not_false_eq_true, not_true_eq_false, false_or, or_false, true_or, or_true, false_imp_iff, true_imp_iff, and_true, true_and, forall_const, false_implies, true_implies, b_t0, b_f0]
  · refine ⟨mc, jc, lim, sm, fj, tj, ?_, RF_of hh f (o _ (by omega) (by omega)) (fun m hm => ⟨o _ (by omega) (by omega), o _ (by omega) (by omega)⟩) (fun j hj => ⟨o _ (by omega) (by omega), o _ (by omega) (by omega), o _ (by omega) (by omega)⟩) (o _ (by omega) (by omega)) (fun q a b => o _ (by omega) (by omega))⟩
    obtain ⟨h1, h2, h3, h4, h5, h6, h7, h8⟩ := hh
    refine ⟨h1.of (fun k hk => by rw [o 2 (by omega) (by omega)]) (by rw [o 123 (by omega) (by omega)]) (fun j hj => ⟨o _ (by omega) (by omega), o _ (by omega) (by omega)⟩), h2.of (fun k hk => by rw [o 346 (by omega) (by omega)]) (o _ (by omega) (by omega)) (o _ (by omega) (by omega)), h3.of (fun k hk => by rw [o 2 (by omega) (by omega)]) (fun k hk => by rw [o 346 (by omega) (by omega)]) (o _ (by omega) (by omega)) (o _ (by omega) (by omega)) (o _ (by omega) (by omega)), h4, fun m hm => ?_, fun j hj => (h6 j hj).of (fun c hc => o _ (by omega) (by omega)) (fun a ha k hk => by rw [o a (by omega) (by omega)]) (fun k hk => by rw [o 353 (by omega) (by omega)]), h7.of (o _ (by omega) (by omega)) (o _ (by omega) (by omega)) (o _ (by omega) (by omega)) (fun k hk => by rw [o 346 (by omega) (by omega)]), fun k hk => (h8 k hk).of (o _ (by omega) (by omega)) (o _ (by omega) (by omega)) (fun a ha => by rw [o a (by omega) (by omega)]) (fun i hi => by rw [o 370 (by omega) (by omega)])⟩
    obtain ⟨a1, a2, a3, a4, a5, a6⟩ := h5 m hm
    unfold DM
    rw [oN m hm, r2 m (by omega) hm, o (11 + 7 * m) (by omega) (by omega), o (13 + 7 * m) (by omega) (by omega), sl_fr (o 347 (by omega) (by omega)), sl_fr (o 348 (by omega) (by omega))]
    exact ⟨a1, Or.inl rfl, rfl, fun q => absurd q (by decide), a5, a6⟩
end FENCE
