/-! room, slope: one mode's numbers -/
/-- nothing told but of mode m0 -/
def FM (I I' : fI) (m0 : Nat) : Prop := (∀ o, (o < 123 ∨ (330 ≤ o ∧ o < 346 ∧ o ≠ 334 ∧ o ≠ 337) ∨ (346 < o ∧ o < 357) ∨ 366 < o) → o ≠ 9 + 7 * m0 → o ≠ 11 + 7 * m0 → o ≠ 13 + 7 * m0 → o ≠ 15 + 7 * m0 → o ≠ 347 → o ≠ 348 → o ≠ 355 → o ≠ 356 → I' o = I o) ∧ I' 123 5 = I 123 5 ∧ (∀ k, k ≠ 16 → k ≠ 23 → k ≠ 24 → k ≠ 25 → k ≠ 27 → I' 346 k = I 346 k) ∧ (∀ a, (a = 347 ∨ a = 348 ∨ a = 356) → ∀ k, (k < 6 * m0 ∨ 6 * m0 + 6 ≤ k) → I' a k = I a k) ∧ ∀ m, m ≠ m0 → I' 355 m = I 355 m
section ROOM
variable {xs : List Value} {I : fI} {L : fL} {mc jc lim sm : Nat} {fj tj : Nat → Nat}
theorem RD_mode {I' : fI} {m0 : Nat} (h : RD I mc jc lim sm fj tj) (h0 : m0 < 6) (w : FM I I' m0) (hd : DM I' mc m0) : RD I' mc jc lim sm fj tj := by
  obtain ⟨h1, h2, h3, h4, h5, h6, h7, h8⟩ := h
  obtain ⟨w1, w2, w4, w5, w6⟩ := w
  have mc6 := h1.2.1
  have jc12 := h1.2.2.2.1
  have o : ∀ o, (o < 9 ∨ (51 ≤ o ∧ o < 123) ∨ o = 330 ∨ o = 332 ∨ (338 ≤ o ∧ o < 346) ∨ (349 ≤ o ∧ o < 355) ∨ 366 < o) → I' o = I o := fun o ho => w1 o (by omega) (by omega) (by omega) (by omega) (by omega) (by omega) (by omega) (by omega) (by omega)
  have o4 : ∀ k, k ≠ 16 → k ≠ 23 → k ≠ 24 → k ≠ 25 → k ≠ 27 → I' 346 k = I 346 k := w4
  refine ⟨⟨by rw [o 2 (by omega)]; exact h1.1, mc6, by rw [o 2 (by omega)]; exact h1.2.2.1, jc12, fun j hj => ?_, by rw [w2]; exact h1.2.2.2.2.2.1, h1.2.2.2.2.2.2⟩, ⟨by rw [o4 0 (by omega) (by omega) (by omega) (by omega) (by omega)]; exact h2.1, mc6, by rw [o4 3 (by omega) (by omega) (by omega) (by omega) (by omega)]; exact h2.2.2.1, jc12, fun j hj => ?_, by rw [o4 12 (by omega) (by omega) (by omega) (by omega) (by omega)]; exact h2.2.2.2.2.2.1, h2.2.2.2.2.2.2⟩, ?_, h4, fun m hm => ?_, fun j hj => ?_, ?_, fun k hk => ?_⟩
  · rw [o (51 + 6 * j) (by omega), o (56 + 6 * j) (by omega)]
    exact h1.2.2.2.2.1 j hj
  · rw [o 349 (by omega), o 350 (by omega)]
    exact h2.2.2.2.2.1 j hj
  · have h := h3
    unfold DS at h ⊢
    rw [o 2 (by omega), o 6 (by omega), o 8 (by omega), o 354 (by omega), sl_fr (o 354 (by omega)), o4 9 (by omega) (by omega) (by omega) (by omega) (by omega), o4 10 (by omega) (by omega) (by omega) (by omega) (by omega)]
    exact h
  · by_cases q : m = m0
    · rw [q]; exact hd
    · have z : ∀ c, (c = 9 ∨ c = 11 ∨ c = 13 ∨ c = 15) → I' (c + 7 * m) = I (c + 7 * m) := fun c hc => w1 _ (by omega) (by omega) (by omega) (by omega) (by omega) (by omega) (by omega) (by omega) (by omega)
      have y : ∀ a, (a = 347 ∨ a = 348 ∨ a = 356) → E6 (sl I' a (6 * m)) (sl I a (6 * m)) := fun a ha k hk => w5 a ha _ (by omega)
      obtain ⟨a1, a2, a3, a4, a5, a6⟩ := h5 m hm
      unfold DM
      rw [z 9 (by omega), z 11 (by omega), z 13 (by omega), z 15 (by omega), w6 m q]
      exact ⟨a1, a2, a3, fun r => ⟨(a4 r).1, (a4 r).2.1, (y 356 (by omega)).tr (a4 r).2.2⟩, fun r => ⟨(y 347 (by omega)).tr (a5 r).1, (y 348 (by omega)).tr (a5 r).2⟩, a6⟩
  · have h := h6 j hj
    unfold DJ at h ⊢
    rw [o (56 + 6 * j) (by omega), o (55 + 6 * j) (by omega), o (53 + 6 * j) (by omega), o 353 (by omega), sl_fr (o 352 (by omega)), sl_fr (o 351 (by omega))]
    exact h
  · have h := h7
    unfold DH at h ⊢
    rw [o 330 (by omega), o 332 (by omega), o 367 (by omega), o4 30 (by omega) (by omega) (by omega) (by omega) (by omega), o4 31 (by omega) (by omega) (by omega) (by omega) (by omega), o4 33 (by omega) (by omega) (by omega) (by omega) (by omega)]
    exact h
  · have h := h8 k hk
    unfold DT at h ⊢
    rw [o (338 + 2 * k) (by omega), o (339 + 2 * k) (by omega), o 368 (by omega), o 369 (by omega), o 370 (by omega)]
    exact h
/-- one side told in a row of six -/
theorem up_RG {f : Nat → Int32} {i : Nat} {a b : Int32} (hi : i < 3) (hf : GB f) (h1 : -20 ≤ a.toInt) (h2 : a.toInt ≤ b.toInt) (h3 : b.toInt ≤ 20) : GB (gUp f i a b) := by
  have hi' : i = 0 ∨ i = 1 ∨ i = 2 := by omega
  obtain ⟨g1, g2⟩ := hf
  refine ⟨fun k hk => ?_, ?_⟩
  · unfold gUp
    split
    · omega
    · split
      · omega
      · exact g1 k hk
  · unfold bEmp at g2 ⊢
    have hab : ¬ b < a := by rw [i_lt]; omega
    simp only [Bool.or_eq_false_iff, decide_eq_false_iff_not] at g2 ⊢
    rcases hi' with rfl | rfl | rfl <;> simp [gUp, hab, g2]
theorem E6_up {f g : Nat → Int32} {i : Nat} {a b : Int32} (h : E6 f g) : E6 (gUp f i a b) (gUp g i a b) := by
  intro k hk
  unfold gUp
  split
  · rfl
  · split
    · rfl
    · exact h k hk
/-- the memory behind room (c = 11, a = 347) and slope (c = 13, a = 348) -/
def rmI (I : fI) (c a m i : Nat) (v w : Int32) : fI := f_up (f_up (f_up (f_up (f_up I 123 9 (nI 0)) (c + 7 * m) (2 * i) v) (c + 7 * m) (2 * i + 1) w) a (6 * m + 2 * i) v) a (6 * m + 2 * i + 1) w
theorem rm_X {c a m i : Nat} {v w : Int32} (hi : i < 3) (hm : m < 6) (hc : c = 11 ∨ c = 13) (ha : a = 347 ∨ a = 348) : rmI I c a m i v w (c + 7 * m) = gUp (I (c + 7 * m)) i v w ∧ E6 (sl (rmI I c a m i v w) a (6 * m)) (gUp (sl I a (6 * m)) i v w) ∧ ∀ o, o ≠ 123 → o ≠ c + 7 * m → o ≠ a → rmI I c a m i v w o = I o := by
  have n1 : ¬ c + 7 * m = a := by omega
  have n2 : ¬ c + 7 * m = 123 := by omega
  have n3 : ¬ a = c + 7 * m := by omega
  have n4 : ¬ a = 123 := by omega
  refine ⟨?_, ?_, ?_⟩
  · funext k
    by_cases q0 : k = 2 * i + 1
    · subst q0; simp [rmI, f_up_at, gUp, n1]
    · by_cases q1 : k = 2 * i
      · subst q1; simp [rmI, f_up_at, gUp, n1]
      · simp [rmI, f_up_at, gUp, n1, n2, q0, q1]
  · intro k hk
    by_cases q0 : k = 2 * i + 1
    · subst q0; simp [rmI, f_up_at, gUp, sl, Nat.add_assoc]
    · by_cases q1 : k = 2 * i
      · subst q1; simp [rmI, f_up_at, gUp, sl, Nat.add_assoc]
      · have q2 : ¬ 6 * m + k = 6 * m + 2 * i := by omega
        have q3 : ¬ 6 * m + k = 6 * m + 2 * i + 1 := by omega
        simp [rmI, f_up_at, gUp, sl, q0, q1, q2, q3, n3, n4]
  · intro o h1 h2 h3
    unfold rmI
    rw [f_up_ne h3, f_up_ne h3, f_up_ne h2, f_up_ne h2, f_up_ne h1]
theorem rm_FM {c a m i : Nat} {v w : Int32} (hi : i < 3) (hm : m < 6) (hc : c = 11 ∨ c = 13) (ha : a = 347 ∨ a = 348) : FM I (rmI I c a m i v w) m := by
  obtain ⟨-, -, e⟩ := rm_X (I := I) (v := v) (w := w) hi hm hc ha
  refine ⟨fun o ho a1 a2 a3 a4 a5 a6 a7 a8 => e o (by omega) (by omega) (by omega), ?_, fun k _ _ _ _ _ => by rw [e 346 (by omega) (by omega) (by omega)], fun b hb k hk => ?_, fun m' _ => by rw [e 355 (by omega) (by omega) (by omega)]⟩
  · have n1 : ¬ 123 = c + 7 * m := by omega
    have n2 : ¬ 123 = a := by omega
    simp [rmI, f_up_at, n1, n2]
  · by_cases q : b = a
    · subst q
      have n3 : ¬ b = c + 7 * m := by omega
      have n4 : ¬ b = 123 := by omega
      have q2 : ¬ k = 6 * m + 2 * i := by omega
      have q3 : ¬ k = 6 * m + 2 * i + 1 := by omega
      simp [rmI, f_up_at, n3, n4, q2, q3]
    · rw [e b (by omega) (by omega) q]
theorem same_room (hR : Rel I) {m x a b : Int32} : Same xs I L 15 [some (.ref 1), some (.int m), some (.int x), some (.int a), some (.int b)] 113 [some (.ref 346), some (.int m), some (.int x), some (.int a), some (.int b)] := by
  obtain ⟨mc, jc, lim, sm, fj, tj, hh, f⟩ := id hR
  have mc6 := hh.1.2.1
  have em := hasM_in (x := m) hh.1.1 mc6
  have e20 : (20 : Nat) ≤ 20 := Nat.le_refl _
  cases hq : inI 0 m.toInt ((mc : Int) - 1) with
  | false =>
    rw [hq] at em
    refine ⟨-1, I, I, L, fun d Q => ?_, fun d Q => ?_, hR⟩
    · simp only [w15_0, w15_1, w15_4, w15_5, w15_8, w15_11, w15_12, w15_13, w15_15, w15_17, w15_20, w15_23, w15_24, w15_25, w15_26, w15_29, w15_32, w15_33, w15_36, w15_39, w15_40, w15_41, w15_44, w15_45, w15_46, w15_48, w15_51, w15_52, eq_self, Nat.zero_le, n_lt, n_le, n_eq, n_neg, n_cl, n_mul, n_add, z_0, z_1, z_2, sc_0, sc_i, sc_r, sc_l, sc_n, jc_n, jc_i, jc_r, jc_l, Option.toList_some, Option.toList_none, List.cons_append, List.nil_append, Nat.reduceLT, Nat.reduceLeDiff, Nat.reduceMul, Nat.reduceAdd, Nat.reduceSub, Nat.reduceEqDiff, not_false_eq_true, not_true_eq_false, false_or, or_false, true_or, or_true, false_imp_iff, true_imp_iff, and_true, true_and, forall_const, false_implies, true_implies, b_t0, b_f0, tg_1, rf_1_0, rf_1_1, rf_1_2, rf_1_3, rf_1_4, rf_1_5, rf_1_6, tg_2, rf_2_0, rf_2_1, rf_2_2, rf_2_3, tg_3, ln_3, tg_4, ln_4, tg_5, rf_5_0, tg_6, ln_6, tg_7, rf_7_0, tg_8, ln_8, tg_123, rf_123_0, rf_123_1, rf_123_2, rf_123_3, rf_123_4, tg_124, ln_124, tg_125, rf_125_0, tg_126, ln_126, tg_127, rf_127_0, tg_128, ln_128, tg_129, ln_129, tg_322, rf_322_0, rf_322_1, rf_322_2, rf_322_3, tg_323, ln_323, tg_324, ln_324, tg_325, rf_325_0, rf_325_1, rf_325_2, tg_326, rf_326_0, tg_327, ln_327, tg_328, rf_328_0, tg_329, ln_329, tg_330, rf_330_0, rf_330_1, rf_330_2, tg_331, rf_331_0, tg_332, ln_332, tg_333, rf_333_0, tg_334, ln_334, tg_335, ln_335, tg_336, rf_336_0, tg_337, ln_337, tg_339, ln_339, tg_346, rf_346_1, rf_346_2, rf_346_4, rf_346_5, rf_346_6, rf_346_7, rf_346_8, rf_346_11, rf_346_13, rf_346_14, rf_346_15, rf_346_17, rf_346_18, rf_346_19, rf_346_20, rf_346_21, rf_346_22, rf_346_26, rf_346_28, rf_346_29, rf_346_32, rf_346_34, rf_346_35, rf_346_36, tg_347, ln_347, tg_348, ln_348, tg_349, ln_349, tg_350, ln_350, tg_351, ln_351, tg_352, ln_352, tg_353, ln_353, tg_354, ln_354, tg_355, ln_355, tg_356, ln_356, tg_357, ln_357, tg_358, ln_358, tg_359, ln_359, tg_360, ln_360, tg_361, ln_361, tg_362, ln_362, tg_363, ln_363, tg_364, ln_364, tg_365, ln_365, tg_366, ln_366, tg_367, ln_367, tg_368, ln_368, tg_369, ln_369, tg_370, ln_370, sp_hasMode, em, b2_f]
    · simp only [w113_0, w113_1, w113_2, w113_5, w113_8, w113_9, w113_10, w113_12, w113_14, w113_17, w113_20, w113_21, w113_24, w113_26, w113_27, w113_28, w113_29, w113_30, w113_32, w113_35, w113_38, w113_39, eq_self, Nat.zero_le, n_lt, n_le, n_eq, n_neg, n_cl, n_mul, n_add, z_0, z_1, z_2, sc_0, sc_i, sc_r, sc_l, sc_n, jc_n, jc_i, jc_r, jc_l, Option.toList_some, Option.toList_none, List.cons_append, List.nil_append, Nat.reduceLT, Nat.reduceLeDiff, Nat.reduceMul, Nat.reduceAdd, Nat.reduceSub, Nat.reduceEqDiff, not_false_eq_true, not_true_eq_false, false_or, or_false, true_or, or_true, false_imp_iff, true_imp_iff, and_true, true_and, forall_const, false_implies, true_implies, b_t0, b_f0, tg_1, rf_1_0, rf_1_1, rf_1_2, rf_1_3, rf_1_4, rf_1_5, rf_1_6, tg_2, rf_2_0, rf_2_1, rf_2_2, rf_2_3, tg_3, ln_3, tg_4, ln_4, tg_5, rf_5_0, tg_6, ln_6, tg_7, rf_7_0, tg_8, ln_8, tg_123, rf_123_0, rf_123_1, rf_123_2, rf_123_3, rf_123_4, tg_124, ln_124, tg_125, rf_125_0, tg_126, ln_126, tg_127, rf_127_0, tg_128, ln_128, tg_129, ln_129, tg_322, rf_322_0, rf_322_1, rf_322_2, rf_322_3, tg_323, ln_323, tg_324, ln_324, tg_325, rf_325_0, rf_325_1, rf_325_2, tg_326, rf_326_0, tg_327, ln_327, tg_328, rf_328_0, tg_329, ln_329, tg_330, rf_330_0, rf_330_1, rf_330_2, tg_331, rf_331_0, tg_332, ln_332, tg_333, rf_333_0, tg_334, ln_334, tg_335, ln_335, tg_336, rf_336_0, tg_337, ln_337, tg_339, ln_339, tg_346, rf_346_1, rf_346_2, rf_346_4, rf_346_5, rf_346_6, rf_346_7, rf_346_8, rf_346_11, rf_346_13, rf_346_14, rf_346_15, rf_346_17, rf_346_18, rf_346_19, rf_346_20, rf_346_21, rf_346_22, rf_346_26, rf_346_28, rf_346_29, rf_346_32, rf_346_34, rf_346_35, rf_346_36, tg_347, ln_347, tg_348, ln_348, tg_349, ln_349, tg_350, ln_350, tg_351, ln_351, tg_352, ln_352, tg_353, ln_353, tg_354, ln_354, tg_355, ln_355, tg_356, ln_356, tg_357, ln_357, tg_358, ln_358, tg_359, ln_359, tg_360, ln_360, tg_361, ln_361, tg_362, ln_362, tg_363, ln_363, tg_364, ln_364, tg_365, ln_365, tg_366, ln_366, tg_367, ln_367, tg_368, ln_368, tg_369, ln_369, tg_370, ln_370, sp_isMode hh.2.1.1 mc6, hq, b2_f]
  | true =>
    rw [hq] at em
    have ea := fun (d : Nat) (Q : Option Value × jW → Prop) (w : jW) => sp_areSides (d := d) (Q := Q) (x := x) (a := a) (b := b) e20 (w := w)
    have eb := fun (d : Nat) (Q : Option Value × jW → Prop) (I : fI) => sp_isSpan (d := d) (Q := Q) (x := x) (a := a) (b := b) (xs := xs) (I := I) (L := L) e20
    rw [show (inI 0 x.toInt 2 && (inI (-((20 : Nat) : Int)) a.toInt b.toInt && inI a.toInt b.toInt (20 : Nat))) = sides x a b 20 from rfl] at eb
    cases hw : sides x a b 20 with
    | false =>
      rw [hw] at ea eb
      refine ⟨-1, I, I, L, fun d Q => ?_, fun d Q => ?_, hR⟩
      · simp only [w15_0, w15_1, w15_4, w15_5, w15_8, w15_11, w15_12, w15_13, w15_15, w15_17, w15_20, w15_23, w15_24, w15_25, w15_26, w15_29, w15_32, w15_33, w15_36, w15_39, w15_40, w15_41, w15_44, w15_45, w15_46, w15_48, w15_51, w15_52, eq_self, Nat.zero_le, n_lt, n_le, n_eq, n_neg, n_cl, n_mul, n_add, z_0, z_1, z_2, sc_0, sc_i, sc_r, sc_l, sc_n, jc_n, jc_i, jc_r, jc_l, Option.toList_some, Option.toList_none, List.cons_append, List.nil_append, Nat.reduceLT, Nat.reduceLeDiff, Nat.reduceMul, Nat.reduceAdd, Nat.reduceSub, Nat.reduceEqDiff, not_false_eq_true, not_true_eq_false, false_or, or_false, true_or, or_true, false_imp_iff, true_imp_iff, and_true, true_and, forall_const, false_implies, true_implies, b_t0, b_f0, tg_1, rf_1_0, rf_1_1, rf_1_2, rf_1_3, rf_1_4, rf_1_5, rf_1_6, tg_2, rf_2_0, rf_2_1, rf_2_2, rf_2_3, tg_3, ln_3, tg_4, ln_4, tg_5, rf_5_0, tg_6, ln_6, tg_7, rf_7_0, tg_8, ln_8, tg_123, rf_123_0, rf_123_1, rf_123_2, rf_123_3, rf_123_4, tg_124, ln_124, tg_125, rf_125_0, tg_126, ln_126, tg_127, rf_127_0, tg_128, ln_128, tg_129, ln_129, tg_322, rf_322_0, rf_322_1, rf_322_2, rf_322_3, tg_323, ln_323, tg_324, ln_324, tg_325, rf_325_0, rf_325_1, rf_325_2, tg_326, rf_326_0, tg_327, ln_327, tg_328, rf_328_0, tg_329, ln_329, tg_330, rf_330_0, rf_330_1, rf_330_2, tg_331, rf_331_0, tg_332, ln_332, tg_333, rf_333_0, tg_334, ln_334, tg_335, ln_335, tg_336, rf_336_0, tg_337, ln_337, tg_339, ln_339, tg_346, rf_346_1, rf_346_2, rf_346_4, rf_346_5, rf_346_6, rf_346_7, rf_346_8, rf_346_11, rf_346_13, rf_346_14, rf_346_15, rf_346_17, rf_346_18, rf_346_19, rf_346_20, rf_346_21, rf_346_22, rf_346_26, rf_346_28, rf_346_29, rf_346_32, rf_346_34, rf_346_35, rf_346_36, tg_347, ln_347, tg_348, ln_348, tg_349, ln_349, tg_350, ln_350, tg_351, ln_351, tg_352, ln_352, tg_353, ln_353, tg_354, ln_354, tg_355, ln_355, tg_356, ln_356, tg_357, ln_357, tg_358, ln_358, tg_359, ln_359, tg_360, ln_360, tg_361, ln_361, tg_362, ln_362, tg_363, ln_363, tg_364, ln_364, tg_365, ln_365, tg_366, ln_366, tg_367, ln_367, tg_368, ln_368, tg_369, ln_369, tg_370, ln_370, sp_hasMode, em, b2_t, b2_f, ea]
      · simp only [w113_0, w113_1, w113_2, w113_5, w113_8, w113_9, w113_10, w113_12, w113_14, w113_17, w113_20, w113_21, w113_24, w113_26, w113_27, w113_28, w113_29, w113_30, w113_32, w113_35, w113_38, w113_39, eq_self, Nat.zero_le, n_lt, n_le, n_eq, n_neg, n_cl, n_mul, n_add, z_0, z_1, z_2, sc_0, sc_i, sc_r, sc_l, sc_n, jc_n, jc_i, jc_r, jc_l, Option.toList_some, Option.toList_none, List.cons_append, List.nil_append, Nat.reduceLT, Nat.reduceLeDiff, Nat.reduceMul, Nat.reduceAdd, Nat.reduceSub, Nat.reduceEqDiff, not_false_eq_true, not_true_eq_false, false_or, or_false, true_or, or_true, false_imp_iff, true_imp_iff, and_true, true_and, forall_const, false_implies, true_implies, b_t0, b_f0, tg_1, rf_1_0, rf_1_1, rf_1_2, rf_1_3, rf_1_4, rf_1_5, rf_1_6, tg_2, rf_2_0, rf_2_1, rf_2_2, rf_2_3, tg_3, ln_3, tg_4, ln_4, tg_5, rf_5_0, tg_6, ln_6, tg_7, rf_7_0, tg_8, ln_8, tg_123, rf_123_0, rf_123_1, rf_123_2, rf_123_3, rf_123_4, tg_124, ln_124, tg_125, rf_125_0, tg_126, ln_126, tg_127, rf_127_0, tg_128, ln_128, tg_129, ln_129, tg_322, rf_322_0, rf_322_1, rf_322_2, rf_322_3, tg_323, ln_323, tg_324, ln_324, tg_325, rf_325_0, rf_325_1, rf_325_2, tg_326, rf_326_0, tg_327, ln_327, tg_328, rf_328_0, tg_329, ln_329, tg_330, rf_330_0, rf_330_1, rf_330_2, tg_331, rf_331_0, tg_332, ln_332, tg_333, rf_333_0, tg_334, ln_334, tg_335, ln_335, tg_336, rf_336_0, tg_337, ln_337, tg_339, ln_339, tg_346, rf_346_1, rf_346_2, rf_346_4, rf_346_5, rf_346_6, rf_346_7, rf_346_8, rf_346_11, rf_346_13, rf_346_14, rf_346_15, rf_346_17, rf_346_18, rf_346_19, rf_346_20, rf_346_21, rf_346_22, rf_346_26, rf_346_28, rf_346_29, rf_346_32, rf_346_34, rf_346_35, rf_346_36, tg_347, ln_347, tg_348, ln_348, tg_349, ln_349, tg_350, ln_350, tg_351, ln_351, tg_352, ln_352, tg_353, ln_353, tg_354, ln_354, tg_355, ln_355, tg_356, ln_356, tg_357, ln_357, tg_358, ln_358, tg_359, ln_359, tg_360, ln_360, tg_361, ln_361, tg_362, ln_362, tg_363, ln_363, tg_364, ln_364, tg_365, ln_365, tg_366, ln_366, tg_367, ln_367, tg_368, ln_368, tg_369, ln_369, tg_370, ln_370, sp_isMode hh.2.1.1 mc6, hq, b2_t, eb, b2_f]
    | true =>
      rw [hw] at ea eb
      obtain ⟨k, hk, rfl⟩ := inI_ex hq (by omega)
      obtain ⟨i, hi, rfl, v1, v2, v3⟩ := sides_ok hw
      have k6 : k < 6 := by omega
      obtain ⟨m1, m2, m3, m4, m5⟩ := lay_M k k6
      have s1 : k < 2147483648 := by omega
      have s2 : ¬ 6 ≤ k := by omega
      obtain ⟨g1, g2, g3⟩ := rm_X (I := I) (c := 11) (a := 347) (v := a) (w := b) hi k6 (by omega) (by omega)
      have rd : RD (rmI I 11 347 k i a b) mc jc lim sm fj tj := by
        refine RD_mode hh k6 (rm_FM hi k6 (by omega) (by omega)) ?_
        obtain ⟨a1, a2, a3, a4, a5, a6⟩ := hh.2.2.2.2.1 k k6
        unfold DM
        rw [g1, g3 (9 + 7 * k) (by omega) (by omega) (by omega), g3 355 (by omega) (by omega) (by omega), g3 (15 + 7 * k) (by omega) (by omega) (by omega), g3 (13 + 7 * k) (by omega) (by omega) (by omega), sl_fr (g3 356 (by omega) (by omega) (by omega)), sl_fr (g3 348 (by omega) (by omega) (by omega))]
        exact ⟨up_RG hi a1 v1 v2 v3, a2, a3, a4, fun q => ⟨g2.tr (E6_up (a5 q).1), (a5 q).2⟩, fun q => by omega⟩
      refine ⟨nI 1, f_up (f_up (f_up I 123 9 (nI 0)) (11 + 7 * k) (2 * i) a) (11 + 7 * k) (2 * i + 1) b, rmI I 11 347 k i a b, L, fun d Q => ?_, fun d Q => ?_, mc, jc, lim, sm, fj, tj, rd, Or.inl ?_⟩
      · simp only [w15_0, w15_1, w15_4, w15_5, w15_8, w15_11, w15_12, w15_13, w15_15, w15_17, w15_20, w15_23, w15_24, w15_25, w15_26, w15_29, w15_32, w15_33, w15_36, w15_39, w15_40, w15_41, w15_44, w15_45, w15_46, w15_48, w15_51, w15_52, eq_self, Nat.zero_le, n_lt, n_le, n_eq, n_neg, n_cl, n_mul, n_add, z_0, z_1, z_2, sc_0, sc_i, sc_r, sc_l, sc_n, jc_n, jc_i, jc_r, jc_l, Option.toList_some, Option.toList_none, List.cons_append, List.nil_append, Nat.reduceLT, Nat.reduceLeDiff, Nat.reduceMul, Nat.reduceAdd, Nat.reduceSub, Nat.reduceEqDiff, not_false_eq_true, not_true_eq_false, false_or, or_false, true_or, or_true, false_imp_iff, true_imp_iff, and_true, true_and, forall_const, false_implies, true_implies, b_t0, b_f0, tg_1, rf_1_0, rf_1_1, rf_1_2, rf_1_3, rf_1_4, rf_1_5, rf_1_6, tg_2, rf_2_0, rf_2_1, rf_2_2, rf_2_3, tg_3, ln_3, tg_4, ln_4, tg_5, rf_5_0, tg_6, ln_6, tg_7, rf_7_0, tg_8, ln_8, tg_123, rf_123_0, rf_123_1, rf_123_2, rf_123_3, rf_123_4, tg_124, ln_124, tg_125, rf_125_0, tg_126, ln_126, tg_127, rf_127_0, tg_128, ln_128, tg_129, ln_129, tg_322, rf_322_0, rf_322_1, rf_322_2, rf_322_3, tg_323, ln_323, tg_324, ln_324, tg_325, rf_325_0, rf_325_1, rf_325_2, tg_326, rf_326_0, tg_327, ln_327, tg_328, rf_328_0, tg_329, ln_329, tg_330, rf_330_0, rf_330_1, rf_330_2, tg_331, rf_331_0, tg_332, ln_332, tg_333, rf_333_0, tg_334, ln_334, tg_335, ln_335, tg_336, rf_336_0, tg_337, ln_337, tg_339, ln_339, tg_346, rf_346_1, rf_346_2, rf_346_4, rf_346_5, rf_346_6, rf_346_7, rf_346_8, rf_346_11, rf_346_13, rf_346_14, rf_346_15, rf_346_17, rf_346_18, rf_346_19, rf_346_20, rf_346_21, rf_346_22, rf_346_26, rf_346_28, rf_346_29, rf_346_32, rf_346_34, rf_346_35, rf_346_36, tg_347, ln_347, tg_348, ln_348, tg_349, ln_349, tg_350, ln_350, tg_351, ln_351, tg_352, ln_352, tg_353, ln_353, tg_354, ln_354, tg_355, ln_355, tg_356, ln_356, tg_357, ln_357, tg_358, ln_358, tg_359, ln_359, tg_360, ln_360, tg_361, ln_361, tg_362, ln_362, tg_363, ln_363, tg_364, ln_364, tg_365, ln_365, tg_366, ln_366, tg_367, ln_367, tg_368, ln_368, tg_369, ln_369, tg_370, ln_370, sp_hasMode, em, b2_t, ea, sp_forget, n_cl s1, n_neg s1, s2, m1, m2, m3, (bx_sp k6).1, sp_put (bx_sp k6) hi, show 10 + 7 * k + 1 = 11 + 7 * k by omega]
      · have n1 : (346 : Nat) ≠ 11 + 7 * k := by omega
        have n2 : (346 : Nat) ≠ 123 := by omega
        have hmc : f_up (f_up (f_up I 123 9 (nI 0)) (11 + 7 * k) (2 * i) a) (11 + 7 * k) (2 * i + 1) b 346 0 = nI mc := by rw [f_up_ne n1, f_up_ne n1, f_up_ne n2]; exact hh.2.1.1
        simp only [w113_0, w113_1, w113_2, w113_5, w113_8, w113_9, w113_10, w113_12, w113_14, w113_17, w113_20, w113_21, w113_24, w113_26, w113_27, w113_28, w113_29, w113_30, w113_32, w113_35, w113_38, w113_39, eq_self, Nat.zero_le, n_lt, n_le, n_eq, n_neg, n_cl, n_mul, n_add, z_0, z_1, z_2, sc_0, sc_i, sc_r, sc_l, sc_n, jc_n, jc_i, jc_r, jc_l, Option.toList_some, Option.toList_none, List.cons_append, List.nil_append, Nat.reduceLT, Nat.reduceLeDiff, Nat.reduceMul, Nat.reduceAdd, Nat.reduceSub, Nat.reduceEqDiff, not_false_eq_true, not_true_eq_false, false_or, or_false, true_or, or_true, false_imp_iff, true_imp_iff, and_true, true_and, forall_const, false_implies, true_implies, b_t0, b_f0, tg_1, rf_1_0, rf_1_1, rf_1_2, rf_1_3, rf_1_4, rf_1_5, rf_1_6, tg_2, rf_2_0, rf_2_1, rf_2_2, rf_2_3, tg_3, ln_3, tg_4, ln_4, tg_5, rf_5_0, tg_6, ln_6, tg_7, rf_7_0, tg_8, ln_8, tg_123, rf_123_0, rf_123_1, rf_123_2, rf_123_3, rf_123_4, tg_124, ln_124, tg_125, rf_125_0, tg_126, ln_126, tg_127, rf_127_0, tg_128, ln_128, tg_129, ln_129, tg_322, rf_322_0, rf_322_1, rf_322_2, rf_322_3, tg_323, ln_323, tg_324, ln_324, tg_325, rf_325_0, rf_325_1, rf_325_2, tg_326, rf_326_0, tg_327, ln_327, tg_328, rf_328_0, tg_329, ln_329, tg_330, rf_330_0, rf_330_1, rf_330_2, tg_331, rf_331_0, tg_332, ln_332, tg_333, rf_333_0, tg_334, ln_334, tg_335, ln_335, tg_336, rf_336_0, tg_337, ln_337, tg_339, ln_339, tg_346, rf_346_1, rf_346_2, rf_346_4, rf_346_5, rf_346_6, rf_346_7, rf_346_8, rf_346_11, rf_346_13, rf_346_14, rf_346_15, rf_346_17, rf_346_18, rf_346_19, rf_346_20, rf_346_21, rf_346_22, rf_346_26, rf_346_28, rf_346_29, rf_346_32, rf_346_34, rf_346_35, rf_346_36, tg_347, ln_347, tg_348, ln_348, tg_349, ln_349, tg_350, ln_350, tg_351, ln_351, tg_352, ln_352, tg_353, ln_353, tg_354, ln_354, tg_355, ln_355, tg_356, ln_356, tg_357, ln_357, tg_358, ln_358, tg_359, ln_359, tg_360, ln_360, tg_361, ln_361, tg_362, ln_362, tg_363, ln_363, tg_364, ln_364, tg_365, ln_365, tg_366, ln_366, tg_367, ln_367, tg_368, ln_368, tg_369, ln_369, tg_370, ln_370, sp_isMode hmc mc6, hq, b2_t, eb, sp_tell (rw6_347 k6) hi]
        rfl
      · have n1 : ¬ 123 = 11 + 7 * k := by omega
        simp [rmI, f_up_at, n1]
theorem same_slope (hR : Rel I) {m x a b : Int32} : Same xs I L 19 [some (.ref 1), some (.int m), some (.int x), some (.int a), some (.int b)] 118 [some (.ref 346), some (.int m), some (.int x), some (.int a), some (.int b)] := by
  obtain ⟨mc, jc, lim, sm, fj, tj, hh, f⟩ := id hR
  have mc6 := hh.1.2.1
  have em := hasM_in (x := m) hh.1.1 mc6
  have e20 : (5 : Nat) ≤ 20 := by omega
  cases hq : inI 0 m.toInt ((mc : Int) - 1) with
  | false =>
    rw [hq] at em
    refine ⟨-1, I, I, L, fun d Q => ?_, fun d Q => ?_, hR⟩
    · simp only [w19_0, w19_1, w19_4, w19_5, w19_8, w19_11, w19_12, w19_13, w19_15, w19_16, w19_19, w19_22, w19_23, w19_24, w19_25, w19_28, w19_31, w19_32, w19_35, w19_38, w19_39, w19_40, w19_43, w19_44, w19_45, w19_47, w19_50, w19_51, eq_self, Nat.zero_le, n_lt, n_le, n_eq, n_neg, n_cl, n_mul, n_add, z_0, z_1, z_2, sc_0, sc_i, sc_r, sc_l, sc_n, jc_n, jc_i, jc_r, jc_l, Option.toList_some, Option.toList_none, List.cons_append, List.nil_append, Nat.reduceLT, Nat.reduceLeDiff, Nat.reduceMul, Nat.reduceAdd, Nat.reduceSub, Nat.reduceEqDiff, not_false_eq_true, not_true_eq_false, false_or, or_false, true_or, or_true, false_imp_iff, true_imp_iff, and_true, true_and, forall_const, false_implies, true_implies, b_t0, b_f0, tg_1, rf_1_0, rf_1_1, rf_1_2, rf_1_3, rf_1_4, rf_1_5, rf_1_6, tg_2, rf_2_0, rf_2_1, rf_2_2, rf_2_3, tg_3, ln_3, tg_4, ln_4, tg_5, rf_5_0, tg_6, ln_6, tg_7, rf_7_0, tg_8, ln_8, tg_123, rf_123_0, rf_123_1, rf_123_2, rf_123_3, rf_123_4, tg_124, ln_124, tg_125, rf_125_0, tg_126, ln_126, tg_127, rf_127_0, tg_128, ln_128, tg_129, ln_129, tg_322, rf_322_0, rf_322_1, rf_322_2, rf_322_3, tg_323, ln_323, tg_324, ln_324, tg_325, rf_325_0, rf_325_1, rf_325_2, tg_326, rf_326_0, tg_327, ln_327, tg_328, rf_328_0, tg_329, ln_329, tg_330, rf_330_0, rf_330_1, rf_330_2, tg_331, rf_331_0, tg_332, ln_332, tg_333, rf_333_0, tg_334, ln_334, tg_335, ln_335, tg_336, rf_336_0, tg_337, ln_337, tg_339, ln_339, tg_346, rf_346_1, rf_346_2, rf_346_4, rf_346_5, rf_346_6, rf_346_7, rf_346_8, rf_346_11, rf_346_13, rf_346_14, rf_346_15, rf_346_17, rf_346_18, rf_346_19, rf_346_20, rf_346_21, rf_346_22, rf_346_26, rf_346_28, rf_346_29, rf_346_32, rf_346_34, rf_346_35, rf_346_36, tg_347, ln_347, tg_348, ln_348, tg_349, ln_349, tg_350, ln_350, tg_351, ln_351, tg_352, ln_352, tg_353, ln_353, tg_354, ln_354, tg_355, ln_355, tg_356, ln_356, tg_357, ln_357, tg_358, ln_358, tg_359, ln_359, tg_360, ln_360, tg_361, ln_361, tg_362, ln_362, tg_363, ln_363, tg_364, ln_364, tg_365, ln_365, tg_366, ln_366, tg_367, ln_367, tg_368, ln_368, tg_369, ln_369, tg_370, ln_370, sp_hasMode, em, b2_f]
    · simp only [w118_0, w118_1, w118_2, w118_5, w118_8, w118_9, w118_10, w118_12, w118_13, w118_16, w118_19, w118_20, w118_23, w118_25, w118_26, w118_27, w118_28, w118_29, w118_31, w118_34, w118_37, w118_38, eq_self, Nat.zero_le, n_lt, n_le, n_eq, n_neg, n_cl, n_mul, n_add, z_0, z_1, z_2, sc_0, sc_i, sc_r, sc_l, sc_n, jc_n, jc_i, jc_r, jc_l, Option.toList_some, Option.toList_none, List.cons_append, List.nil_append, Nat.reduceLT, Nat.reduceLeDiff, Nat.reduceMul, Nat.reduceAdd, Nat.reduceSub, Nat.reduceEqDiff, not_false_eq_true, not_true_eq_false, false_or, or_false, true_or, or_true, false_imp_iff, true_imp_iff, and_true, true_and, forall_const, false_implies, true_implies, b_t0, b_f0, tg_1, rf_1_0, rf_1_1, rf_1_2, rf_1_3, rf_1_4, rf_1_5, rf_1_6, tg_2, rf_2_0, rf_2_1, rf_2_2, rf_2_3, tg_3, ln_3, tg_4, ln_4, tg_5, rf_5_0, tg_6, ln_6, tg_7, rf_7_0, tg_8, ln_8, tg_123, rf_123_0, rf_123_1, rf_123_2, rf_123_3, rf_123_4, tg_124, ln_124, tg_125, rf_125_0, tg_126, ln_126, tg_127, rf_127_0, tg_128, ln_128, tg_129, ln_129, tg_322, rf_322_0, rf_322_1, rf_322_2, rf_322_3, tg_323, ln_323, tg_324, ln_324, tg_325, rf_325_0, rf_325_1, rf_325_2, tg_326, rf_326_0, tg_327, ln_327, tg_328, rf_328_0, tg_329, ln_329, tg_330, rf_330_0, rf_330_1, rf_330_2, tg_331, rf_331_0, tg_332, ln_332, tg_333, rf_333_0, tg_334, ln_334, tg_335, ln_335, tg_336, rf_336_0, tg_337, ln_337, tg_339, ln_339, tg_346, rf_346_1, rf_346_2, rf_346_4, rf_346_5, rf_346_6, rf_346_7, rf_346_8, rf_346_11, rf_346_13, rf_346_14, rf_346_15, rf_346_17, rf_346_18, rf_346_19, rf_346_20, rf_346_21, rf_346_22, rf_346_26, rf_346_28, rf_346_29, rf_346_32, rf_346_34, rf_346_35, rf_346_36, tg_347, ln_347, tg_348, ln_348, tg_349, ln_349, tg_350, ln_350, tg_351, ln_351, tg_352, ln_352, tg_353, ln_353, tg_354, ln_354, tg_355, ln_355, tg_356, ln_356, tg_357, ln_357, tg_358, ln_358, tg_359, ln_359, tg_360, ln_360, tg_361, ln_361, tg_362, ln_362, tg_363, ln_363, tg_364, ln_364, tg_365, ln_365, tg_366, ln_366, tg_367, ln_367, tg_368, ln_368, tg_369, ln_369, tg_370, ln_370, sp_isMode hh.2.1.1 mc6, hq, b2_f]
  | true =>
    rw [hq] at em
    have ea := fun (d : Nat) (Q : Option Value × jW → Prop) (w : jW) => sp_areSides (d := d) (Q := Q) (x := x) (a := a) (b := b) e20 (w := w)
    have eb := fun (d : Nat) (Q : Option Value × jW → Prop) (I : fI) => sp_isSpan (d := d) (Q := Q) (x := x) (a := a) (b := b) (xs := xs) (I := I) (L := L) e20
    rw [show (inI 0 x.toInt 2 && (inI (-((5 : Nat) : Int)) a.toInt b.toInt && inI a.toInt b.toInt (5 : Nat))) = sides x a b 5 from rfl] at eb
    cases hw : sides x a b 5 with
    | false =>
      rw [hw] at ea eb
      refine ⟨-1, I, I, L, fun d Q => ?_, fun d Q => ?_, hR⟩
      · simp only [w19_0, w19_1, w19_4, w19_5, w19_8, w19_11, w19_12, w19_13, w19_15, w19_16, w19_19, w19_22, w19_23, w19_24, w19_25, w19_28, w19_31, w19_32, w19_35, w19_38, w19_39, w19_40, w19_43, w19_44, w19_45, w19_47, w19_50, w19_51, eq_self, Nat.zero_le, n_lt, n_le, n_eq, n_neg, n_cl, n_mul, n_add, z_0, z_1, z_2, sc_0, sc_i, sc_r, sc_l, sc_n, jc_n, jc_i, jc_r, jc_l, Option.toList_some, Option.toList_none, List.cons_append, List.nil_append, Nat.reduceLT, Nat.reduceLeDiff, Nat.reduceMul, Nat.reduceAdd, Nat.reduceSub, Nat.reduceEqDiff, not_false_eq_true, not_true_eq_false, false_or, or_false, true_or, or_true, false_imp_iff, true_imp_iff, and_true, true_and, forall_const, false_implies, true_implies, b_t0, b_f0, tg_1, rf_1_0, rf_1_1, rf_1_2, rf_1_3, rf_1_4, rf_1_5, rf_1_6, tg_2, rf_2_0, rf_2_1, rf_2_2, rf_2_3, tg_3, ln_3, tg_4, ln_4, tg_5, rf_5_0, tg_6, ln_6, tg_7, rf_7_0, tg_8, ln_8, tg_123, rf_123_0, rf_123_1, rf_123_2, rf_123_3, rf_123_4, tg_124, ln_124, tg_125, rf_125_0, tg_126, ln_126, tg_127, rf_127_0, tg_128, ln_128, tg_129, ln_129, tg_322, rf_322_0, rf_322_1, rf_322_2, rf_322_3, tg_323, ln_323, tg_324, ln_324, tg_325, rf_325_0, rf_325_1, rf_325_2, tg_326, rf_326_0, tg_327, ln_327, tg_328, rf_328_0, tg_329, ln_329, tg_330, rf_330_0, rf_330_1, rf_330_2, tg_331, rf_331_0, tg_332, ln_332, tg_333, rf_333_0, tg_334, ln_334, tg_335, ln_335, tg_336, rf_336_0, tg_337, ln_337, tg_339, ln_339, tg_346, rf_346_1, rf_346_2, rf_346_4, rf_346_5, rf_346_6, rf_346_7, rf_346_8, rf_346_11, rf_346_13, rf_346_14, rf_346_15, rf_346_17, rf_346_18, rf_346_19, rf_346_20, rf_346_21, rf_346_22, rf_346_26, rf_346_28, rf_346_29, rf_346_32, rf_346_34, rf_346_35, rf_346_36, tg_347, ln_347, tg_348, ln_348, tg_349, ln_349, tg_350, ln_350, tg_351, ln_351, tg_352, ln_352, tg_353, ln_353, tg_354, ln_354, tg_355, ln_355, tg_356, ln_356, tg_357, ln_357, tg_358, ln_358, tg_359, ln_359, tg_360, ln_360, tg_361, ln_361, tg_362, ln_362, tg_363, ln_363, tg_364, ln_364, tg_365, ln_365, tg_366, ln_366, tg_367, ln_367, tg_368, ln_368, tg_369, ln_369, tg_370, ln_370, sp_hasMode, em, b2_t, b2_f, ea]
      · simp only [w118_0, w118_1, w118_2, w118_5, w118_8, w118_9, w118_10, w118_12, w118_13, w118_16, w118_19, w118_20, w118_23, w118_25, w118_26, w118_27, w118_28, w118_29, w118_31, w118_34, w118_37, w118_38, eq_self, Nat.zero_le, n_lt, n_le, n_eq, n_neg, n_cl, n_mul, n_add, z_0, z_1, z_2, sc_0, sc_i, sc_r, sc_l, sc_n, jc_n, jc_i, jc_r, jc_l, Option.toList_some, Option.toList_none, List.cons_append, List.nil_append, Nat.reduceLT, Nat.reduceLeDiff, Nat.reduceMul, Nat.reduceAdd, Nat.reduceSub, Nat.reduceEqDiff, not_false_eq_true, not_true_eq_false, false_or, or_false, true_or, or_true, false_imp_iff, true_imp_iff, and_true, true_and, forall_const, false_implies, true_implies, b_t0, b_f0, tg_1, rf_1_0, rf_1_1, rf_1_2, rf_1_3, rf_1_4, rf_1_5, rf_1_6, tg_2, rf_2_0, rf_2_1, rf_2_2, rf_2_3, tg_3, ln_3, tg_4, ln_4, tg_5, rf_5_0, tg_6, ln_6, tg_7, rf_7_0, tg_8, ln_8, tg_123, rf_123_0, rf_123_1, rf_123_2, rf_123_3, rf_123_4, tg_124, ln_124, tg_125, rf_125_0, tg_126, ln_126, tg_127, rf_127_0, tg_128, ln_128, tg_129, ln_129, tg_322, rf_322_0, rf_322_1, rf_322_2, rf_322_3, tg_323, ln_323, tg_324, ln_324, tg_325, rf_325_0, rf_325_1, rf_325_2, tg_326, rf_326_0, tg_327, ln_327, tg_328, rf_328_0, tg_329, ln_329, tg_330, rf_330_0, rf_330_1, rf_330_2, tg_331, rf_331_0, tg_332, ln_332, tg_333, rf_333_0, tg_334, ln_334, tg_335, ln_335, tg_336, rf_336_0, tg_337, ln_337, tg_339, ln_339, tg_346, rf_346_1, rf_346_2, rf_346_4, rf_346_5, rf_346_6, rf_346_7, rf_346_8, rf_346_11, rf_346_13, rf_346_14, rf_346_15, rf_346_17, rf_346_18, rf_346_19, rf_346_20, rf_346_21, rf_346_22, rf_346_26, rf_346_28, rf_346_29, rf_346_32, rf_346_34, rf_346_35, rf_346_36, tg_347, ln_347, tg_348, ln_348, tg_349, ln_349, tg_350, ln_350, tg_351, ln_351, tg_352, ln_352, tg_353, ln_353, tg_354, ln_354, tg_355, ln_355, tg_356, ln_356, tg_357, ln_357, tg_358, ln_358, tg_359, ln_359, tg_360, ln_360, tg_361, ln_361, tg_362, ln_362, tg_363, ln_363, tg_364, ln_364, tg_365, ln_365, tg_366, ln_366, tg_367, ln_367, tg_368, ln_368, tg_369, ln_369, tg_370, ln_370, sp_isMode hh.2.1.1 mc6, hq, b2_t, eb, b2_f]
    | true =>
      rw [hw] at ea eb
      obtain ⟨k, hk, rfl⟩ := inI_ex hq (by omega)
      obtain ⟨i, hi, rfl, v1, v2, v3⟩ := sides_ok hw
      have k6 : k < 6 := by omega
      obtain ⟨m1, m2, m4, m4, m5⟩ := lay_M k k6
      have s1 : k < 2147483648 := by omega
      have s2 : ¬ 6 ≤ k := by omega
      obtain ⟨g1, g2, g3⟩ := rm_X (I := I) (c := 13) (a := 348) (v := a) (w := b) hi k6 (by omega) (by omega)
      have rd : RD (rmI I 13 348 k i a b) mc jc lim sm fj tj := by
        refine RD_mode hh k6 (rm_FM hi k6 (by omega) (by omega)) ?_
        obtain ⟨a1, a2, a3, a4, a5, a6⟩ := hh.2.2.2.2.1 k k6
        unfold DM
        rw [g1, g3 (9 + 7 * k) (by omega) (by omega) (by omega), g3 355 (by omega) (by omega) (by omega), g3 (15 + 7 * k) (by omega) (by omega) (by omega), g3 (11 + 7 * k) (by omega) (by omega) (by omega), sl_fr (g3 356 (by omega) (by omega) (by omega)), sl_fr (g3 347 (by omega) (by omega) (by omega))]
        exact ⟨a1, a2, a3, a4, fun q => ⟨(a5 q).1, g2.tr (E6_up (a5 q).2)⟩, fun q => by omega⟩
      refine ⟨nI 1, f_up (f_up (f_up I 123 9 (nI 0)) (13 + 7 * k) (2 * i) a) (13 + 7 * k) (2 * i + 1) b, rmI I 13 348 k i a b, L, fun d Q => ?_, fun d Q => ?_, mc, jc, lim, sm, fj, tj, rd, Or.inl ?_⟩
      · simp only [w19_0, w19_1, w19_4, w19_5, w19_8, w19_11, w19_12, w19_13, w19_15, w19_16, w19_19, w19_22, w19_23, w19_24, w19_25, w19_28, w19_31, w19_32, w19_35, w19_38, w19_39, w19_40, w19_43, w19_44, w19_45, w19_47, w19_50, w19_51, eq_self, Nat.zero_le, n_lt, n_le, n_eq, n_neg, n_cl, n_mul, n_add, z_0, z_1, z_2, sc_0, sc_i, sc_r, sc_l, sc_n, jc_n, jc_i, jc_r, jc_l, Option.toList_some, Option.toList_none, List.cons_append, List.nil_append, Nat.reduceLT, Nat.reduceLeDiff, Nat.reduceMul, Nat.reduceAdd, Nat.reduceSub, Nat.reduceEqDiff, not_false_eq_true, not_true_eq_false, false_or, or_false, true_or, or_true, false_imp_iff, true_imp_iff, and_true, true_and, forall_const, false_implies, true_implies, b_t0, b_f0, tg_1, rf_1_0, rf_1_1, rf_1_2, rf_1_3, rf_1_4, rf_1_5, rf_1_6, tg_2, rf_2_0, rf_2_1, rf_2_2, rf_2_3, tg_3, ln_3, tg_4, ln_4, tg_5, rf_5_0, tg_6, ln_6, tg_7, rf_7_0, tg_8, ln_8, tg_123, rf_123_0, rf_123_1, rf_123_2, rf_123_3, rf_123_4, tg_124, ln_124, tg_125, rf_125_0, tg_126, ln_126, tg_127, rf_127_0, tg_128, ln_128, tg_129, ln_129, tg_322, rf_322_0, rf_322_1, rf_322_2, rf_322_3, tg_323, ln_323, tg_324, ln_324, tg_325, rf_325_0, rf_325_1, rf_325_2, tg_326, rf_326_0, tg_327, ln_327, tg_328, rf_328_0, tg_329, ln_329, tg_330, rf_330_0, rf_330_1, rf_330_2, tg_331, rf_331_0, tg_332, ln_332, tg_333, rf_333_0, tg_334, ln_334, tg_335, ln_335, tg_336, rf_336_0, tg_337, ln_337, tg_339, ln_339, tg_346, rf_346_1, rf_346_2, rf_346_4, rf_346_5, rf_346_6, rf_346_7, rf_346_8, rf_346_11, rf_346_13, rf_346_14, rf_346_15, rf_346_17, rf_346_18, rf_346_19, rf_346_20, rf_346_21, rf_346_22, rf_346_26, rf_346_28, rf_346_29, rf_346_32, rf_346_34, rf_346_35, rf_346_36, tg_347, ln_347, tg_348, ln_348, tg_349, ln_349, tg_350, ln_350, tg_351, ln_351, tg_352, ln_352, tg_353, ln_353, tg_354, ln_354, tg_355, ln_355, tg_356, ln_356, tg_357, ln_357, tg_358, ln_358, tg_359, ln_359, tg_360, ln_360, tg_361, ln_361, tg_362, ln_362, tg_363, ln_363, tg_364, ln_364, tg_365, ln_365, tg_366, ln_366, tg_367, ln_367, tg_368, ln_368, tg_369, ln_369, tg_370, ln_370, sp_hasMode, em, b2_t, ea, sp_forget, n_cl s1, n_neg s1, s2, m1, m2, m4, (bx_sl k6).1, sp_put (bx_sl k6) hi, show 12 + 7 * k + 1 = 13 + 7 * k by omega]
      · have n1 : (346 : Nat) ≠ 13 + 7 * k := by omega
        have n2 : (346 : Nat) ≠ 123 := by omega
        have hmc : f_up (f_up (f_up I 123 9 (nI 0)) (13 + 7 * k) (2 * i) a) (13 + 7 * k) (2 * i + 1) b 346 0 = nI mc := by rw [f_up_ne n1, f_up_ne n1, f_up_ne n2]; exact hh.2.1.1
        simp only [w118_0, w118_1, w118_2, w118_5, w118_8, w118_9, w118_10, w118_12, w118_13, w118_16, w118_19, w118_20, w118_23, w118_25, w118_26, w118_27, w118_28, w118_29, w118_31, w118_34, w118_37, w118_38, eq_self, Nat.zero_le, n_lt, n_le, n_eq, n_neg, n_cl, n_mul, n_add, z_0, z_1, z_2, sc_0, sc_i, sc_r, sc_l, sc_n, jc_n, jc_i, jc_r, jc_l, Option.toList_some, Option.toList_none, List.cons_append, List.nil_append, Nat.reduceLT, Nat.reduceLeDiff, Nat.reduceMul, Nat.reduceAdd, Nat.reduceSub, Nat.reduceEqDiff, not_false_eq_true, not_true_eq_false, false_or, or_false, true_or, or_true, false_imp_iff, true_imp_iff, and_true, true_and, forall_const, false_implies, true_implies, b_t0, b_f0, tg_1, rf_1_0, rf_1_1, rf_1_2, rf_1_3, rf_1_4, rf_1_5, rf_1_6, tg_2, rf_2_0, rf_2_1, rf_2_2, rf_2_3, tg_3, ln_3, tg_4, ln_4, tg_5, rf_5_0, tg_6, ln_6, tg_7, rf_7_0, tg_8, ln_8, tg_123, rf_123_0, rf_123_1, rf_123_2, rf_123_3, rf_123_4, tg_124, ln_124, tg_125, rf_125_0, tg_126, ln_126, tg_127, rf_127_0, tg_128, ln_128, tg_129, ln_129, tg_322, rf_322_0, rf_322_1, rf_322_2, rf_322_3, tg_323, ln_323, tg_324, ln_324, tg_325, rf_325_0, rf_325_1, rf_325_2, tg_326, rf_326_0, tg_327, ln_327, tg_328, rf_328_0, tg_329, ln_329, tg_330, rf_330_0, rf_330_1, rf_330_2, tg_331, rf_331_0, tg_332, ln_332, tg_333, rf_333_0, tg_334, ln_334, tg_335, ln_335, tg_336, rf_336_0, tg_337, ln_337, tg_339, ln_339, tg_346, rf_346_1, rf_346_2, rf_346_4, rf_346_5, rf_346_6, rf_346_7, rf_346_8, rf_346_11, rf_346_13, rf_346_14, rf_346_15, rf_346_17, rf_346_18, rf_346_19, rf_346_20, rf_346_21, rf_346_22, rf_346_26, rf_346_28, rf_346_29, rf_346_32, rf_346_34, rf_346_35, rf_346_36, tg_347, ln_347, tg_348, ln_348, tg_349, ln_349, tg_350, ln_350, tg_351, ln_351, tg_352, ln_352, tg_353, ln_353, tg_354, ln_354, tg_355, ln_355, tg_356, ln_356, tg_357, ln_357, tg_358, ln_358, tg_359, ln_359, tg_360, ln_360, tg_361, ln_361, tg_362, ln_362, tg_363, ln_363, tg_364, ln_364, tg_365, ln_365, tg_366, ln_366, tg_367, ln_367, tg_368, ln_368, tg_369, ln_369, tg_370, ln_370, sp_isMode hmc mc6, hq, b2_t, eb, sp_tell (rw6_348 k6) hi]
        rfl
      · have n1 : ¬ 123 = 13 + 7 * k := by omega
        simp [rmI, f_up_at, n1]
end ROOM
