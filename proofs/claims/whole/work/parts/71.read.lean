/-! draw: six cells read -/
theorem l_add (a b : Int32) : (a.toInt64 + b.toInt64).toInt = a.toInt + b.toInt := by
  rw [Int64.toInt_add, Int32.toInt_toInt64, Int32.toInt_toInt64]
  have h1 := Int32.le_toInt a
  have h2 := Int32.toInt_lt a
  have h3 := Int32.le_toInt b
  have h4 := Int32.toInt_lt b
  exact Int.bmod_eq_of_le (by omega) (by omega)
theorem n_mod2 {i : Nat} (h : i < 6) : nI i - nI i / nI 2 * nI 2 = nI (i % 2) := by
  have : ∀ i, i < 6 → nI i - nI i / nI 2 * nI 2 = nI (i % 2) := by decide +kernel
  exact this i h
theorem n_2z : (nI 2 = 0) = False := by simp [nI]
/-- a row's first cells written -/
def f_cp (I : fI) (o c : Nat) (g : Nat → Int32) : fI := fun a k => if a = o ∧ k < c then g k else I a k
theorem f_cp_0 {I : fI} {o : Nat} {g : Nat → Int32} : f_cp I o 0 g = I := by
  funext a k
  unfold f_cp
  rw [if_neg (by omega)]
theorem f_cp_s {I : fI} {o c : Nat} {g : Nat → Int32} : f_up (f_cp I o c g) o c (g c) = f_cp I o (c + 1) g := by
  funext a k
  show (if a = o ∧ k = c then g c else if a = o ∧ k < c then g k else I a k) = (if a = o ∧ k < c + 1 then g k else I a k)
  by_cases h1 : a = o
  · by_cases h2 : k = c
    · subst h2
      rw [if_pos ⟨h1, rfl⟩, if_pos ⟨h1, by omega⟩]
    · rw [if_neg (fun q => h2 q.2)]
      by_cases h3 : k < c
      · rw [if_pos ⟨h1, h3⟩, if_pos ⟨h1, by omega⟩]
      · rw [if_neg (fun q => h3 q.2), if_neg (fun q => by omega)]
  · rw [if_neg (fun q => h1 q.1), if_neg (fun q => h1 q.1), if_neg (fun q => h1 q.1)]
theorem f_cp_ne {I : fI} {o c a : Nat} {g : Nat → Int32} (h : a ≠ o) : f_cp I o c g a = I a := by
  funext k
  unfold f_cp
  rw [if_neg (fun q => h q.1)]
theorem f_cp_in {I : fI} {o c k : Nat} {g : Nat → Int32} (h : k < c) : f_cp I o c g o k = g k := by
  unfold f_cp
  rw [if_pos ⟨rfl, h⟩]
/-- the answer (none: all six are good), and how many were read -/
def rdV (g : Nat → Int32) (z p e : Nat) : Nat → Nat → Option Int32 × Nat
  | 0, i => (none, i)
  | k + 1, i => if z ≤ p + i then (some (-12), i) else if inI (-(e : Int)) (g i).toInt e = false ∨ (i % 2 = 1 ∧ g i < g (i - 1)) then (some (-20 - nI i), i) else rdV g z p e k (i + 1)
theorem rdV_ok {g : Nat → Int32} {z p e : Nat} : ∀ k i, i + k = 6 → (rdV g z p e k i).1 = none → (rdV g z p e k i).2 = 6 ∧ ∀ j, i ≤ j → j < 6 → inI (-(e : Int)) (g j).toInt e = true ∧ ¬ (j % 2 = 1 ∧ g j < g (j - 1)) := by
  intro k
  induction k with
  | zero => intro i hi _; exact ⟨by show i = 6; omega, fun j h1 h2 => by omega⟩
  | succ k ih =>
    intro i hi h
    unfold rdV at h ⊢
    by_cases q1 : z ≤ p + i
    · rw [if_pos q1] at h; cases h
    · rw [if_neg q1] at h ⊢
      by_cases q2 : inI (-(e : Int)) (g i).toInt e = false ∨ (i % 2 = 1 ∧ g i < g (i - 1))
      · rw [if_pos q2] at h; cases h
      · rw [if_neg q2] at h ⊢
        obtain ⟨a1, a2⟩ := ih (i + 1) (by omega) h
        refine ⟨a1, fun j h1 h2 => ?_⟩
        by_cases q : j = i
        · subst q
          refine ⟨?_, fun r => q2 (Or.inr r)⟩
          cases hh : inI (-(e : Int)) (g j).toInt e with
          | true => rfl
          | false => exact absurd (Or.inl hh) q2
        · exact a2 j (by omega) h2
/-- the number ahead -/
def bf (g : Nat → Int32) (i : Nat) : Int32 := if i = 0 then nI 0 else g (i - 1)
def b8 (g : Nat → Int32) (i : Nat) : Option Value := if i = 0 then none else some (.int (g (i - 1)))
theorem inI_nn {m c : Nat} (h : m < 2147483648) : inI 0 (nI m).toInt ((c : Int) - 1) = decide (m < c) := by
  rw [t_n h, inI_n]
section READ
variable {xs : List Value} {I : fI} {L : fL}
theorem x_rd {K z p e : Nat} {l : Int32} {g : Nat → Int32} (hK : K < 4) (hz : I (338 + 2 * K) 2 = nI z) (h60 : z ≤ 60) (hp : p < 60) (he : e ≤ 20) (hg : ∀ i, I (339 + 2 * K) (p + i) = g i) : ∀ (k i : Nat) (a7 a8 : Option Value), i + k = 6 → ∀ (d : Nat) (Q : Option Value × jW → Prop), Wp (d + 2) 107 29 [some (.ref (338 + 2 * K)), some (.int l), some (.int (nI p)), some (.int (nI e)), some (.ref 336), some (.int (bf g i)), some (.int (nI i)), a7, a8] [] (f_W xs (f_cp I 337 i g) L) Q = Q (some (.int ((rdV g z p e k i).1.getD (nI 1))), f_W xs (f_cp I 337 (rdV g z p e k i).2 g) L) := by
  obtain ⟨l1, l2, l3, l4, l5⟩ := lay_S K hK
  intro k
  induction k with
  | zero =>
    intro i a7 a8 hi d Q
    have hi : i = 6 := by omega
    subst hi
    rw [w107_29]
    simp only [w107_31, w107_33, w107_122, w107_123, eq_self, Nat.zero_le, n_lt, n_le, n_eq, n_neg, n_cl, n_mul, n_add, z_0, z_1, z_2, sc_0, sc_i, sc_r, sc_l, sc_n, jc_n, jc_i, jc_r, jc_l, Option.toList_some, Option.toList_none, List.cons_append, List.nil_append, Nat.reduceLT, Nat.reduceLeDiff, Nat.reduceMul, Nat.reduceAdd, Nat.reduceSub, Nat.reduceEqDiff, not_false_eq_true, not_true_eq_false, false_or, or_false, true_or, or_true, false_imp_iff, true_imp_iff, and_true, true_and, forall_const, false_implies, true_implies, b_t0, b_f0, Nat.le_refl, rdV, Option.getD_none]
  | succ k ih =>
    intro i a7 a8 hi d Q
    have i6 : i < 6 := by omega
    have s1 : i < 2147483648 := by omega
    have s2 : ¬ 6 ≤ i := by omega
    have p1 : p + i < 2147483648 := by omega
    have n1 : 338 + 2 * K ≠ 337 := by omega
    have n2 : 339 + 2 * K ≠ 337 := by omega
    have hc := fun (d : Nat) (Q : Option Value × jW → Prop) => sp_hasCell (d := d) (Q := Q) (xs := xs) (I := f_cp I 337 i g) (L := L) (i := nI (p + i)) hK (by rw [f_cp_ne n1]; exact hz) h60
    rw [inI_nn p1] at hc
    rw [w107_29]
    unfold rdV
    by_cases q1 : z ≤ p + i
    · have q1' : ¬ p + i < z := by omega
      rw [if_pos q1]
      simp only [q1', decide_false] at hc
      simp only [w107_0, w107_1, w107_4, w107_6, w107_9, w107_11, w107_12, w107_13, w107_16, w107_17, w107_20, w107_22, w107_23, w107_24, w107_26, w107_27, w107_31, w107_33, w107_36, w107_37, w107_38, w107_40, w107_41, w107_44, w107_47, w107_49, w107_50, w107_51, w107_54, w107_55, w107_57, w107_58, w107_59, w107_61, w107_63, w107_64, w107_65, w107_66, w107_69, w107_70, w107_73, w107_74, w107_76, w107_78, w107_79, w107_82, w107_85, w107_87, w107_90, w107_92, w107_94, w107_97, w107_99, w107_101, w107_102, w107_103, w107_105, w107_107, w107_109, w107_112, w107_114, w107_116, w107_119, w107_122, w107_123, eq_self, Nat.zero_le, n_lt, n_le, n_eq, n_neg, n_cl, n_mul, n_add, z_0, z_1, z_2, sc_0, sc_i, sc_r, sc_l, sc_n, jc_n, jc_i, jc_r, jc_l, Option.toList_some, Option.toList_none, List.cons_append, List.nil_append, Nat.reduceLT, Nat.reduceLeDiff, Nat.reduceMul, Nat.reduceAdd, Nat.reduceSub, Nat.reduceEqDiff, not_false_eq_true, not_true_eq_false, false_or, or_false, true_or, or_true, false_imp_iff, true_imp_iff, and_true, true_and, forall_const, false_implies, true_implies, b_t0, b_f0, tg_1, rf_1_0, rf_1_1, rf_1_2, rf_1_3, rf_1_4, rf_1_5, rf_1_6, tg_2, rf_2_0, rf_2_1, rf_2_2, rf_2_3, tg_3, ln_3, tg_4, ln_4, tg_5, rf_5_0, tg_6, ln_6, tg_7, rf_7_0, tg_8, ln_8, tg_123, rf_123_0, rf_123_1, rf_123_2, rf_123_3, rf_123_4, tg_124, ln_124, tg_125, rf_125_0, tg_126, ln_126, tg_127, rf_127_0, tg_128, ln_128, tg_129, ln_129, tg_322, rf_322_0, rf_322_1, rf_322_2, rf_322_3, tg_323, ln_323, tg_324, ln_324, tg_325, rf_325_0, rf_325_1, rf_325_2, tg_326, rf_326_0, tg_327, ln_327, tg_328, rf_328_0, tg_329, ln_329, tg_330, rf_330_0, rf_330_1, rf_330_2, tg_331, rf_331_0, tg_332, ln_332, tg_333, rf_333_0, tg_334, ln_334, tg_335, ln_335, tg_336, rf_336_0, tg_337, ln_337, tg_339, ln_339, tg_346, rf_346_1, rf_346_2, rf_346_4, rf_346_5, rf_346_6, rf_346_7, rf_346_8, rf_346_11, rf_346_13, rf_346_14, rf_346_15, rf_346_17, rf_346_18, rf_346_19, rf_346_20, rf_346_21, rf_346_22, rf_346_26, rf_346_28, rf_346_29, rf_346_32, rf_346_34, rf_346_35, rf_346_36, tg_347, ln_347, tg_348, ln_348, tg_349, ln_349, tg_350, ln_350, tg_351, ln_351, tg_352, ln_352, tg_353, ln_353, tg_354, ln_354, tg_355, ln_355, tg_356, ln_356, tg_357, ln_357, tg_358, ln_358, tg_359, ln_359, tg_360, ln_360, tg_361, ln_361, tg_362, ln_362, tg_363, ln_363, tg_364, ln_364, tg_365, ln_365, tg_366, ln_366, tg_367, ln_367, tg_368, ln_368, tg_369, ln_369, tg_370, ln_370, n_le (show 6 < 2147483648 by decide) s1, s2, l2, hc, b2_f]
      rfl
    · have q1' : p + i < z := by omega
      have p2 : ¬ 60 ≤ p + i := by omega
      rw [if_neg q1]
      simp only [q1', decide_true] at hc
      have wi := fun (d : Nat) (Q : Option Value × jW → Prop) (w : jW) => sp_isWithin (d := d) (Q := Q) (x := g i) he (w := w)
      cases hw : inI (-(e : Int)) (g i).toInt e with
      | false =>
        simp only [hw] at wi
        rw [if_pos (Or.inl rfl)]
        have hpar : i % 2 = 0 ∨ i % 2 = 1 := by omega
        rcases hpar with hp2 | hp2 <;> simp only [w107_0, w107_1, w107_4, w107_6, w107_9, w107_11, w107_12, w107_13, w107_16, w107_17, w107_20, w107_22, w107_23, w107_24, w107_26, w107_27, w107_31, w107_33, w107_36, w107_37, w107_38, w107_40, w107_41, w107_44, w107_47, w107_49, w107_50, w107_51, w107_54, w107_55, w107_57, w107_58, w107_59, w107_61, w107_63, w107_64, w107_65, w107_66, w107_69, w107_70, w107_73, w107_74, w107_76, w107_78, w107_79, w107_82, w107_85, w107_87, w107_90, w107_92, w107_94, w107_97, w107_99, w107_101, w107_102, w107_103, w107_105, w107_107, w107_109, w107_112, w107_114, w107_116, w107_119, w107_122, w107_123, eq_self, Nat.zero_le, n_lt, n_le, n_eq, n_neg, n_cl, n_mul, n_add, z_0, z_1, z_2, sc_0, sc_i, sc_r, sc_l, sc_n, jc_n, jc_i, jc_r, jc_l, Option.toList_some, Option.toList_none, List.cons_append, List.nil_append, Nat.reduceLT, Nat.reduceLeDiff, Nat.reduceMul, Nat.reduceAdd, Nat.reduceSub, Nat.reduceEqDiff, not_false_eq_true, not_true_eq_false, false_or, or_false, true_or, or_true, false_imp_iff, true_imp_iff, and_true, true_and, forall_const, false_implies, true_implies, b_t0, b_f0, tg_1, rf_1_0, rf_1_1, rf_1_2, rf_1_3, rf_1_4, rf_1_5, rf_1_6, tg_2, rf_2_0, rf_2_1, rf_2_2, rf_2_3, tg_3, ln_3, tg_4, ln_4, tg_5, rf_5_0, tg_6, ln_6, tg_7, rf_7_0, tg_8, ln_8, tg_123, rf_123_0, rf_123_1, rf_123_2, rf_123_3, rf_123_4, tg_124, ln_124, tg_125, rf_125_0, tg_126, ln_126, tg_127, rf_127_0, tg_128, ln_128, tg_129, ln_129, tg_322, rf_322_0, rf_322_1, rf_322_2, rf_322_3, tg_323, ln_323, tg_324, ln_324, tg_325, rf_325_0, rf_325_1, rf_325_2, tg_326, rf_326_0, tg_327, ln_327, tg_328, rf_328_0, tg_329, ln_329, tg_330, rf_330_0, rf_330_1, rf_330_2, tg_331, rf_331_0, tg_332, ln_332, tg_333, rf_333_0, tg_334, ln_334, tg_335, ln_335, tg_336, rf_336_0, tg_337, ln_337, tg_339, ln_339, tg_346, rf_346_1, rf_346_2, rf_346_4, rf_346_5, rf_346_6, rf_346_7, rf_346_8, rf_346_11, rf_346_13, rf_346_14, rf_346_15, rf_346_17, rf_346_18, rf_346_19, rf_346_20, rf_346_21, rf_346_22, rf_346_26, rf_346_28, rf_346_29, rf_346_32, rf_346_34, rf_346_35, rf_346_36, tg_347, ln_347, tg_348, ln_348, tg_349, ln_349, tg_350, ln_350, tg_351, ln_351, tg_352, ln_352, tg_353, ln_353, tg_354, ln_354, tg_355, ln_355, tg_356, ln_356, tg_357, ln_357, tg_358, ln_358, tg_359, ln_359, tg_360, ln_360, tg_361, ln_361, tg_362, ln_362, tg_363, ln_363, tg_364, ln_364, tg_365, ln_365, tg_366, ln_366, tg_367, ln_367, tg_368, ln_368, tg_369, ln_369, tg_370, ln_370, n_le (show 6 < 2147483648 by decide) s1, s2, hc, b2_t, b2_f, l2, l3, l4, l5, f_cp_ne n2, hg, n_cl p1, n_neg p1, p2, n_mod2 i6, n_2z, hp2, n_eq (show 0 < 2147483648 by decide) (show 1 < 2147483648 by decide), wi]
        all_goals rfl
      | true =>
        simp only [hw] at wi
        have hpar : i % 2 = 0 ∨ i % 2 = 1 := by omega
        rcases hpar with hp2 | hp2
        · have q2 : ¬ (true = false ∨ (i % 2 = 1 ∧ g i < g (i - 1))) := by
            intro r
            rcases r with r | r
            · exact absurd r (by decide)
            · omega
          have ih' := ih (i + 1) (some (.int (g i))) (some (.int (nI 0))) (by omega) d Q
          rw [show bf g (i + 1) = g i by unfold bf; rw [if_neg (by omega)]; rfl] at ih'
          rw [if_neg q2, ← ih']
          simp only [w107_0, w107_1, w107_4, w107_6, w107_9, w107_11, w107_12, w107_13, w107_16, w107_17, w107_20, w107_22, w107_23, w107_24, w107_26, w107_27, w107_31, w107_33, w107_36, w107_37, w107_38, w107_40, w107_41, w107_44, w107_47, w107_49, w107_50, w107_51, w107_54, w107_55, w107_57, w107_58, w107_59, w107_61, w107_63, w107_64, w107_65, w107_66, w107_69, w107_70, w107_73, w107_74, w107_76, w107_78, w107_79, w107_82, w107_85, w107_87, w107_90, w107_92, w107_94, w107_97, w107_99, w107_101, w107_102, w107_103, w107_105, w107_107, w107_109, w107_112, w107_114, w107_116, w107_119, w107_122, w107_123, eq_self, Nat.zero_le, n_lt, n_le, n_eq, n_neg, n_cl, n_mul, n_add, z_0, z_1, z_2, sc_0, sc_i, sc_r, sc_l, sc_n, jc_n, jc_i, jc_r, jc_l, Option.toList_some, Option.toList_none, List.cons_append, List.nil_append, Nat.reduceLT, Nat.reduceLeDiff, Nat.reduceMul, Nat.reduceAdd, Nat.reduceSub, Nat.reduceEqDiff, not_false_eq_true, not_true_eq_false, false_or, or_false, true_or, or_true, false_imp_iff, true_imp_iff, and_true, true_and, forall_const, false_implies, true_implies, b_t0, b_f0, tg_1, rf_1_0, rf_1_1, rf_1_2, rf_1_3, rf_1_4, rf_1_5, rf_1_6, tg_2, rf_2_0, rf_2_1, rf_2_2, rf_2_3, tg_3, ln_3, tg_4, ln_4, tg_5, rf_5_0, tg_6, ln_6, tg_7, rf_7_0, tg_8, ln_8, tg_123, rf_123_0, rf_123_1, rf_123_2, rf_123_3, rf_123_4, tg_124, ln_124, tg_125, rf_125_0, tg_126, ln_126, tg_127, rf_127_0, tg_128, ln_128, tg_129, ln_129, tg_322, rf_322_0, rf_322_1, rf_322_2, rf_322_3, tg_323, ln_323, tg_324, ln_324, tg_325, rf_325_0, rf_325_1, rf_325_2, tg_326, rf_326_0, tg_327, ln_327, tg_328, rf_328_0, tg_329, ln_329, tg_330, rf_330_0, rf_330_1, rf_330_2, tg_331, rf_331_0, tg_332, ln_332, tg_333, rf_333_0, tg_334, ln_334, tg_335, ln_335, tg_336, rf_336_0, tg_337, ln_337, tg_339, ln_339, tg_346, rf_346_1, rf_346_2, rf_346_4, rf_346_5, rf_346_6, rf_346_7, rf_346_8, rf_346_11, rf_346_13, rf_346_14, rf_346_15, rf_346_17, rf_346_18, rf_346_19, rf_346_20, rf_346_21, rf_346_22, rf_346_26, rf_346_28, rf_346_29, rf_346_32, rf_346_34, rf_346_35, rf_346_36, tg_347, ln_347, tg_348, ln_348, tg_349, ln_349, tg_350, ln_350, tg_351, ln_351, tg_352, ln_352, tg_353, ln_353, tg_354, ln_354, tg_355, ln_355, tg_356, ln_356, tg_357, ln_357, tg_358, ln_358, tg_359, ln_359, tg_360, ln_360, tg_361, ln_361, tg_362, ln_362, tg_363, ln_363, tg_364, ln_364, tg_365, ln_365, tg_366, ln_366, tg_367, ln_367, tg_368, ln_368, tg_369, ln_369, tg_370, ln_370, n_le (show 6 < 2147483648 by decide) s1, s2, hc, b2_t, l2, l3, l4, l5, f_cp_ne n2, hg, n_cl p1, n_neg p1, p2, n_mod2 i6, n_2z, hp2, n_eq (show 0 < 2147483648 by decide) (show 1 < 2147483648 by decide), wi, sp_putSide bx_336 i6, f_cp_s]
        · have eb : bf g i = g (i - 1) := by unfold bf; rw [if_neg (by omega)]
          rw [eb]
          by_cases q3 : g i < g (i - 1)
          · rw [if_pos (Or.inr ⟨hp2, q3⟩)]
            have q3' : ¬ g (i - 1) ≤ g i := by rw [i_nle]; exact q3
            simp only [w107_0, w107_1, w107_4, w107_6, w107_9, w107_11, w107_12, w107_13, w107_16, w107_17, w107_20, w107_22, w107_23, w107_24, w107_26, w107_27, w107_31, w107_33, w107_36, w107_37, w107_38, w107_40, w107_41, w107_44, w107_47, w107_49, w107_50, w107_51, w107_54, w107_55, w107_57, w107_58, w107_59, w107_61, w107_63, w107_64, w107_65, w107_66, w107_69, w107_70, w107_73, w107_74, w107_76, w107_78, w107_79, w107_82, w107_85, w107_87, w107_90, w107_92, w107_94, w107_97, w107_99, w107_101, w107_102, w107_103, w107_105, w107_107, w107_109, w107_112, w107_114, w107_116, w107_119, w107_122, w107_123, eq_self, Nat.zero_le, n_lt, n_le, n_eq, n_neg, n_cl, n_mul, n_add, z_0, z_1, z_2, sc_0, sc_i, sc_r, sc_l, sc_n, jc_n, jc_i, jc_r, jc_l, Option.toList_some, Option.toList_none, List.cons_append, List.nil_append, Nat.reduceLT, Nat.reduceLeDiff, Nat.reduceMul, Nat.reduceAdd, Nat.reduceSub, Nat.reduceEqDiff, not_false_eq_true, not_true_eq_false, false_or, or_false, true_or, or_true, false_imp_iff, true_imp_iff, and_true, true_and, forall_const, false_implies, true_implies, b_t0, b_f0, tg_1, rf_1_0, rf_1_1, rf_1_2, rf_1_3, rf_1_4, rf_1_5, rf_1_6, tg_2, rf_2_0, rf_2_1, rf_2_2, rf_2_3, tg_3, ln_3, tg_4, ln_4, tg_5, rf_5_0, tg_6, ln_6, tg_7, rf_7_0, tg_8, ln_8, tg_123, rf_123_0, rf_123_1, rf_123_2, rf_123_3, rf_123_4, tg_124, ln_124, tg_125, rf_125_0, tg_126, ln_126, tg_127, rf_127_0, tg_128, ln_128, tg_129, ln_129, tg_322, rf_322_0, rf_322_1, rf_322_2, rf_322_3, tg_323, ln_323, tg_324, ln_324, tg_325, rf_325_0, rf_325_1, rf_325_2, tg_326, rf_326_0, tg_327, ln_327, tg_328, rf_328_0, tg_329, ln_329, tg_330, rf_330_0, rf_330_1, rf_330_2, tg_331, rf_331_0, tg_332, ln_332, tg_333, rf_333_0, tg_334, ln_334, tg_335, ln_335, tg_336, rf_336_0, tg_337, ln_337, tg_339, ln_339, tg_346, rf_346_1, rf_346_2, rf_346_4, rf_346_5, rf_346_6, rf_346_7, rf_346_8, rf_346_11, rf_346_13, rf_346_14, rf_346_15, rf_346_17, rf_346_18, rf_346_19, rf_346_20, rf_346_21, rf_346_22, rf_346_26, rf_346_28, rf_346_29, rf_346_32, rf_346_34, rf_346_35, rf_346_36, tg_347, ln_347, tg_348, ln_348, tg_349, ln_349, tg_350, ln_350, tg_351, ln_351, tg_352, ln_352, tg_353, ln_353, tg_354, ln_354, tg_355, ln_355, tg_356, ln_356, tg_357, ln_357, tg_358, ln_358, tg_359, ln_359, tg_360, ln_360, tg_361, ln_361, tg_362, ln_362, tg_363, ln_363, tg_364, ln_364, tg_365, ln_365, tg_366, ln_366, tg_367, ln_367, tg_368, ln_368, tg_369, ln_369, tg_370, ln_370, n_le (show 6 < 2147483648 by decide) s1, s2, hc, b2_t, l2, l3, l4, l5, f_cp_ne n2, hg, n_cl p1, n_neg p1, p2, n_mod2 i6, n_2z, hp2, n_eq (show 1 < 2147483648 by decide) (show 0 < 2147483648 by decide), wi, q3']
            rfl
          · have q2 : ¬ (true = false ∨ (i % 2 = 1 ∧ g i < g (i - 1))) := by
              intro r
              rcases r with r | r
              · exact absurd r (by decide)
              · exact q3 r.2
            have ih' := ih (i + 1) (some (.int (g i))) (some (.int (nI 1))) (by omega) d Q
            rw [show bf g (i + 1) = g i by unfold bf; rw [if_neg (by omega)]; rfl] at ih'
            rw [if_neg q2, ← ih']
            have q3' : g (i - 1) ≤ g i := by rw [← i_nlt]; exact q3
            simp only [w107_0, w107_1, w107_4, w107_6, w107_9, w107_11, w107_12, w107_13, w107_16, w107_17, w107_20, w107_22, w107_23, w107_24, w107_26, w107_27, w107_31, w107_33, w107_36, w107_37, w107_38, w107_40, w107_41, w107_44, w107_47, w107_49, w107_50, w107_51, w107_54, w107_55, w107_57, w107_58, w107_59, w107_61, w107_63, w107_64, w107_65, w107_66, w107_69, w107_70, w107_73, w107_74, w107_76, w107_78, w107_79, w107_82, w107_85, w107_87, w107_90, w107_92, w107_94, w107_97, w107_99, w107_101, w107_102, w107_103, w107_105, w107_107, w107_109, w107_112, w107_114, w107_116, w107_119, w107_122, w107_123, eq_self, Nat.zero_le, n_lt, n_le, n_eq, n_neg, n_cl, n_mul, n_add, z_0, z_1, z_2, sc_0, sc_i, sc_r, sc_l, sc_n, jc_n, jc_i, jc_r, jc_l, Option.toList_some, Option.toList_none, List.cons_append, List.nil_append, Nat.reduceLT, Nat.reduceLeDiff, Nat.reduceMul, Nat.reduceAdd, Nat.reduceSub, Nat.reduceEqDiff, not_false_eq_true, not_true_eq_false, false_or, or_false, true_or, or_true, false_imp_iff, true_imp_iff, and_true, true_and, forall_const, false_implies, true_implies, b_t0, b_f0, tg_1, rf_1_0, rf_1_1, rf_1_2, rf_1_3, rf_1_4, rf_1_5, rf_1_6, tg_2, rf_2_0, rf_2_1, rf_2_2, rf_2_3, tg_3, ln_3, tg_4, ln_4, tg_5, rf_5_0, tg_6, ln_6, tg_7, rf_7_0, tg_8, ln_8, tg_123, rf_123_0, rf_123_1, rf_123_2, rf_123_3, rf_123_4, tg_124, ln_124, tg_125, rf_125_0, tg_126, ln_126, tg_127, rf_127_0, tg_128, ln_128, tg_129, ln_129, tg_322, rf_322_0, rf_322_1, rf_322_2, rf_322_3, tg_323, ln_323, tg_324, ln_324, tg_325, rf_325_0, rf_325_1, rf_325_2, tg_326, rf_326_0, tg_327, ln_327, tg_328, rf_328_0, tg_329, ln_329, tg_330, rf_330_0, rf_330_1, rf_330_2, tg_331, rf_331_0, tg_332, ln_332, tg_333, rf_333_0, tg_334, ln_334, tg_335, ln_335, tg_336, rf_336_0, tg_337, ln_337, tg_339, ln_339, tg_346, rf_346_1, rf_346_2, rf_346_4, rf_346_5, rf_346_6, rf_346_7, rf_346_8, rf_346_11, rf_346_13, rf_346_14, rf_346_15, rf_346_17, rf_346_18, rf_346_19, rf_346_20, rf_346_21, rf_346_22, rf_346_26, rf_346_28, rf_346_29, rf_346_32, rf_346_34, rf_346_35, rf_346_36, tg_347, ln_347, tg_348, ln_348, tg_349, ln_349, tg_350, ln_350, tg_351, ln_351, tg_352, ln_352, tg_353, ln_353, tg_354, ln_354, tg_355, ln_355, tg_356, ln_356, tg_357, ln_357, tg_358, ln_358, tg_359, ln_359, tg_360, ln_360, tg_361, ln_361, tg_362, ln_362, tg_363, ln_363, tg_364, ln_364, tg_365, ln_365, tg_366, ln_366, tg_367, ln_367, tg_368, ln_368, tg_369, ln_369, tg_370, ln_370, n_le (show 6 < 2147483648 by decide) s1, s2, hc, b2_t, l2, l3, l4, l5, f_cp_ne n2, hg, n_cl p1, n_neg p1, p2, n_mod2 i6, n_2z, hp2, n_eq (show 1 < 2147483648 by decide) (show 0 < 2147483648 by decide), wi, q3', sp_putSide bx_336 i6, f_cp_s]
theorem x_mrd {K z p e : Nat} {s n l : Int32} {g : Nat → Int32} (hK : K < 4) (hz : I 369 K = nI z) (h60 : z ≤ 60) (hp : p < 60) (he : e = 5 ∨ e = 20) (hg : ∀ i, p + i < 60 → I 370 (60 * K + p + i) = g i) : ∀ (k i : Nat), i + k = 6 → ∀ (d : Nat) (Q : Option Value × jW → Prop), Wp (d + 2) 168 109 [some (.ref 346), some (.int s), some (.int n), some (.int (nI K)), some (.int l), some (.int (nI p)), some (.int (nI e)), some (.int (nI i)), b8 g i] [] (f_W xs (f_cp I 364 i g) L) Q = match (rdV g z p e k i).1 with
  | some v => Q (some (.int v), f_W xs (f_cp I 364 (rdV g z p e k i).2 g) L)
  | none => Wp (d + 2) 168 218 [some (.ref 346), some (.int s), some (.int n), some (.int (nI K)), some (.int l), some (.int (nI p)), some (.int (nI e)), some (.int (nI 6)), b8 g 6] [] (f_W xs (f_cp I 364 6 g) L) Q := by
  have k1 : K < 2147483648 := by omega
  have k2 : ¬ 4 ≤ K := by omega
  intro k
  induction k with
  | zero =>
    intro i hi d Q
    have hi : i = 6 := by omega
    subst hi
    rw [w168_109]
    simp only [w168_111, w168_113, eq_self, Nat.zero_le, n_lt, n_le, n_eq, n_neg, n_cl, n_mul, n_add, z_0, z_1, z_2, sc_0, sc_i, sc_r, sc_l, sc_n, jc_n, jc_i, jc_r, jc_l, Option.toList_some, Option.toList_none, List.cons_append, List.nil_append, Nat.reduceLT, Nat.reduceLeDiff, Nat.reduceMul, Nat.reduceAdd, Nat.reduceSub, Nat.reduceEqDiff, not_false_eq_true, not_true_eq_false, false_or, or_false, true_or, or_true, false_imp_iff, true_imp_iff, and_true, true_and, forall_const, false_implies, true_implies, b_t0, b_f0, Nat.le_refl, rdV]
  | succ k ih =>
    intro i hi d Q
    have i6 : i < 6 := by omega
    have s1 : i < 2147483648 := by omega
    have s2 : ¬ 6 ≤ i := by omega
    have p1 : p + i < 2147483648 := by omega
    have n2 : (369 : Nat) ≠ 364 := by omega
    have n3 : (370 : Nat) ≠ 364 := by omega
    have z64 : z ≤ 64 := by omega
    have eIn : inI 0 ((nI p).toInt64 + (nI i).toInt64).toInt ((z : Int) - 1) = decide (p + i < z) := by
      rw [l_add, t_n (show p < 2147483648 by omega), t_n s1, ← inI_n (m := p + i)]
      congr 1
    have ih' := ih (i + 1) (by omega) d Q
    have e8 : b8 g (i + 1) = some (.int (g i)) := by unfold b8; rw [if_neg (by omega)]; rfl
    have b8c : j_cp (b8 g i) := by unfold b8; split <;> rfl
    rw [e8] at ih'
    rw [w168_109]
    unfold rdV
    by_cases q1 : z ≤ p + i
    · have q1' : ¬ p + i < z := by omega
      rw [if_pos q1]
      simp only [w168_0, w168_1, w168_2, w168_3, w168_6, w168_9, w168_12, w168_13, w168_14, w168_17, w168_18, w168_19, w168_22, w168_25, w168_28, w168_29, w168_30, w168_33, w168_36, w168_37, w168_38, w168_39, w168_42, w168_45, w168_48, w168_50, w168_51, w168_52, w168_55, w168_58, w168_61, w168_62, w168_63, w168_64, w168_67, w168_68, w168_69, w168_71, w168_74, w168_75, w168_78, w168_79, w168_80, w168_82, w168_85, w168_87, w168_90, w168_92, w168_93, w168_94, w168_95, w168_98, w168_99, w168_102, w168_104, w168_106, w168_107, w168_111, w168_113, w168_116, w168_118, w168_119, w168_121, w168_122, w168_123, w168_124, w168_125, w168_128, w168_129, w168_130, w168_131, w168_132, w168_133, w168_136, w168_139, w168_141, w168_142, w168_143, w168_146, w168_148, w168_149, w168_150, w168_152, w168_153, w168_155, w168_156, w168_157, w168_159, w168_161, w168_162, w168_164, w168_165, w168_166, w168_168, w168_169, w168_172, w168_175, w168_177, w168_178, w168_179, w168_180, w168_183, w168_185, w168_186, w168_189, w168_191, w168_192, w168_193, w168_194, w168_197, w168_199, w168_201, w168_202, w168_203, w168_204, w168_207, w168_209, w168_211, w168_212, w168_215, w168_228, w168_229, w168_232, w168_233, w168_236, w168_238, w168_239, w168_240, w168_242, w168_243, w168_244, w168_247, w168_249, w168_250, w168_251, w168_254, w168_255, w168_256, w168_259, w168_260, w168_263, w168_265, w168_266, w168_267, w168_269, w168_270, w168_271, w168_274, w168_276, w168_277, w168_278, w168_281, w168_282, w168_285, w168_287, w168_288, w168_289, w168_291, w168_292, w168_293, w168_296, w168_298, w168_299, w168_300, w168_303, w168_306, w168_307, eq_self, Nat.zero_le, n_lt, n_le, n_eq, n_neg, n_cl, n_mul, n_add, z_0, z_1, z_2, sc_0, sc_i, sc_r, sc_l, sc_n, jc_n, jc_i, jc_r, jc_l, Option.toList_some, Option.toList_none, List.cons_append, List.nil_append, Nat.reduceLT, Nat.reduceLeDiff, Nat.reduceMul, Nat.reduceAdd, Nat.reduceSub, Nat.reduceEqDiff, not_false_eq_true, not_true_eq_false, false_or, or_false, true_or, or_true, false_imp_iff, true_imp_iff, and_true, true_and, forall_const, false_implies, true_implies, b_t0, b_f0, tg_1, rf_1_0, rf_1_1, rf_1_2, rf_1_3, rf_1_4, rf_1_5, rf_1_6, tg_2, rf_2_0, rf_2_1, rf_2_2, rf_2_3, tg_3, ln_3, tg_4, ln_4, tg_5, rf_5_0, tg_6, ln_6, tg_7, rf_7_0, tg_8, ln_8, tg_123, rf_123_0, rf_123_1, rf_123_2, rf_123_3, rf_123_4, tg_124, ln_124, tg_125, rf_125_0, tg_126, ln_126, tg_127, rf_127_0, tg_128, ln_128, tg_129, ln_129, tg_322, rf_322_0, rf_322_1, rf_322_2, rf_322_3, tg_323, ln_323, tg_324, ln_324, tg_325, rf_325_0, rf_325_1, rf_325_2, tg_326, rf_326_0, tg_327, ln_327, tg_328, rf_328_0, tg_329, ln_329, tg_330, rf_330_0, rf_330_1, rf_330_2, tg_331, rf_331_0, tg_332, ln_332, tg_333, rf_333_0, tg_334, ln_334, tg_335, ln_335, tg_336, rf_336_0, tg_337, ln_337, tg_339, ln_339, tg_346, rf_346_1, rf_346_2, rf_346_4, rf_346_5, rf_346_6, rf_346_7, rf_346_8, rf_346_11, rf_346_13, rf_346_14, rf_346_15, rf_346_17, rf_346_18, rf_346_19, rf_346_20, rf_346_21, rf_346_22, rf_346_26, rf_346_28, rf_346_29, rf_346_32, rf_346_34, rf_346_35, rf_346_36, tg_347, ln_347, tg_348, ln_348, tg_349, ln_349, tg_350, ln_350, tg_351, ln_351, tg_352, ln_352, tg_353, ln_353, tg_354, ln_354, tg_355, ln_355, tg_356, ln_356, tg_357, ln_357, tg_358, ln_358, tg_359, ln_359, tg_360, ln_360, tg_361, ln_361, tg_362, ln_362, tg_363, ln_363, tg_364, ln_364, tg_365, ln_365, tg_366, ln_366, tg_367, ln_367, tg_368, ln_368, tg_369, ln_369, tg_370, ln_370, n_le (show 6 < 2147483648 by decide) s1, s2, f_cp_ne n2, n_cl k1, n_neg k1, k2, hz, sp_in, t_l0, t_64, sp_mPre z64, eIn, q1', decide_false, b2_f]
    · have q1' : p + i < z := by omega
      have p2 : p + i < 60 := by omega
      have c1 : 60 * K + p + i < 2147483648 := by omega
      have c2 : ¬ 240 ≤ 60 * K + p + i := by omega
      have hgi := hg i p2
      have me : (-nI e).toInt = -(e : Int) := by
        rcases he with rfl | rfl <;> decide
      have pe : (nI e).toInt = (e : Int) := t_n (by omega)
      have wi := fun (d : Nat) (Q : Option Value × jW → Prop) (w : jW) => sp_in (d := d) (Q := Q) (w := w) (v := (g i).toInt64) (l := (-nI e).toInt64) (h := (nI e).toInt64)
      simp only [t_64, me, pe] at wi
      rw [if_neg q1]
      have hpar : i % 2 = 0 ∨ i % 2 = 1 := by omega
      cases hw : inI (-(e : Int)) (g i).toInt e with
      | false =>
        simp only [hw] at wi
        rw [if_pos (Or.inl rfl)]
        simp only [w168_0, w168_1, w168_2, w168_3, w168_6, w168_9, w168_12, w168_13, w168_14, w168_17, w168_18, w168_19, w168_22, w168_25, w168_28, w168_29, w168_30, w168_33, w168_36, w168_37, w168_38, w168_39, w168_42, w168_45, w168_48, w168_50, w168_51, w168_52, w168_55, w168_58, w168_61, w168_62, w168_63, w168_64, w168_67, w168_68, w168_69, w168_71, w168_74, w168_75, w168_78, w168_79, w168_80, w168_82, w168_85, w168_87, w168_90, w168_92, w168_93, w168_94, w168_95, w168_98, w168_99, w168_102, w168_104, w168_106, w168_107, w168_111, w168_113, w168_116, w168_118, w168_119, w168_121, w168_122, w168_123, w168_124, w168_125, w168_128, w168_129, w168_130, w168_131, w168_132, w168_133, w168_136, w168_139, w168_141, w168_142, w168_143, w168_146, w168_148, w168_149, w168_150, w168_152, w168_153, w168_155, w168_156, w168_157, w168_159, w168_161, w168_162, w168_164, w168_165, w168_166, w168_168, w168_169, w168_172, w168_175, w168_177, w168_178, w168_179, w168_180, w168_183, w168_185, w168_186, w168_189, w168_191, w168_192, w168_193, w168_194, w168_197, w168_199, w168_201, w168_202, w168_203, w168_204, w168_207, w168_209, w168_211, w168_212, w168_215, w168_228, w168_229, w168_232, w168_233, w168_236, w168_238, w168_239, w168_240, w168_242, w168_243, w168_244, w168_247, w168_249, w168_250, w168_251, w168_254, w168_255, w168_256, w168_259, w168_260, w168_263, w168_265, w168_266, w168_267, w168_269, w168_270, w168_271, w168_274, w168_276, w168_277, w168_278, w168_281, w168_282, w168_285, w168_287, w168_288, w168_289, w168_291, w168_292, w168_293, w168_296, w168_298, w168_299, w168_300, w168_303, w168_306, w168_307, eq_self, Nat.zero_le, n_lt, n_le, n_eq, n_neg, n_cl, n_mul, n_add, z_0, z_1, z_2, sc_0, sc_i, sc_r, sc_l, sc_n, jc_n, jc_i, jc_r, jc_l, Option.toList_some, Option.toList_none, List.cons_append, List.nil_append, Nat.reduceLT, Nat.reduceLeDiff, Nat.reduceMul, Nat.reduceAdd, Nat.reduceSub, Nat.reduceEqDiff, not_false_eq_true, not_true_eq_false, false_or, or_false, true_or, or_true, false_imp_iff, true_imp_iff, and_true, true_and, forall_const, false_implies, true_implies, b_t0, b_f0, tg_1, rf_1_0, rf_1_1, rf_1_2, rf_1_3, rf_1_4, rf_1_5, rf_1_6, tg_2, rf_2_0, rf_2_1, rf_2_2, rf_2_3, tg_3, ln_3, tg_4, ln_4, tg_5, rf_5_0, tg_6, ln_6, tg_7, rf_7_0, tg_8, ln_8, tg_123, rf_123_0, rf_123_1, rf_123_2, rf_123_3, rf_123_4, tg_124, ln_124, tg_125, rf_125_0, tg_126, ln_126, tg_127, rf_127_0, tg_128, ln_128, tg_129, ln_129, tg_322, rf_322_0, rf_322_1, rf_322_2, rf_322_3, tg_323, ln_323, tg_324, ln_324, tg_325, rf_325_0, rf_325_1, rf_325_2, tg_326, rf_326_0, tg_327, ln_327, tg_328, rf_328_0, tg_329, ln_329, tg_330, rf_330_0, rf_330_1, rf_330_2, tg_331, rf_331_0, tg_332, ln_332, tg_333, rf_333_0, tg_334, ln_334, tg_335, ln_335, tg_336, rf_336_0, tg_337, ln_337, tg_339, ln_339, tg_346, rf_346_1, rf_346_2, rf_346_4, rf_346_5, rf_346_6, rf_346_7, rf_346_8, rf_346_11, rf_346_13, rf_346_14, rf_346_15, rf_346_17, rf_346_18, rf_346_19, rf_346_20, rf_346_21, rf_346_22, rf_346_26, rf_346_28, rf_346_29, rf_346_32, rf_346_34, rf_346_35, rf_346_36, tg_347, ln_347, tg_348, ln_348, tg_349, ln_349, tg_350, ln_350, tg_351, ln_351, tg_352, ln_352, tg_353, ln_353, tg_354, ln_354, tg_355, ln_355, tg_356, ln_356, tg_357, ln_357, tg_358, ln_358, tg_359, ln_359, tg_360, ln_360, tg_361, ln_361, tg_362, ln_362, tg_363, ln_363, tg_364, ln_364, tg_365, ln_365, tg_366, ln_366, tg_367, ln_367, tg_368, ln_368, tg_369, ln_369, tg_370, ln_370, n_le (show 6 < 2147483648 by decide) s1, s2, f_cp_ne n2, f_cp_ne n3, n_cl k1, n_neg k1, k2, hz, sp_in, t_l0, t_64, sp_mPre z64, eIn, q1', decide_true, b2_t, b2_f, n_cl c1, n_neg c1, c2, hgi, me, pe, hw]
      | true =>
        simp only [hw] at wi
        rcases hpar with hp2 | hp2
        · have q2 : ¬ (true = false ∨ (i % 2 = 1 ∧ g i < g (i - 1))) := by
            intro r
            rcases r with r | r
            · exact absurd r (by decide)
            · omega
          rw [if_neg q2, ← ih']
          simp only [w168_0, w168_1, w168_2, w168_3, w168_6, w168_9, w168_12, w168_13, w168_14, w168_17, w168_18, w168_19, w168_22, w168_25, w168_28, w168_29, w168_30, w168_33, w168_36, w168_37, w168_38, w168_39, w168_42, w168_45, w168_48, w168_50, w168_51, w168_52, w168_55, w168_58, w168_61, w168_62, w168_63, w168_64, w168_67, w168_68, w168_69, w168_71, w168_74, w168_75, w168_78, w168_79, w168_80, w168_82, w168_85, w168_87, w168_90, w168_92, w168_93, w168_94, w168_95, w168_98, w168_99, w168_102, w168_104, w168_106, w168_107, w168_111, w168_113, w168_116, w168_118, w168_119, w168_121, w168_122, w168_123, w168_124, w168_125, w168_128, w168_129, w168_130, w168_131, w168_132, w168_133, w168_136, w168_139, w168_141, w168_142, w168_143, w168_146, w168_148, w168_149, w168_150, w168_152, w168_153, w168_155, w168_156, w168_157, w168_159, w168_161, w168_162, w168_164, w168_165, w168_166, w168_168, w168_169, w168_172, w168_175, w168_177, w168_178, w168_179, w168_180, w168_183, w168_185, w168_186, w168_189, w168_191, w168_192, w168_193, w168_194, w168_197, w168_199, w168_201, w168_202, w168_203, w168_204, w168_207, w168_209, w168_211, w168_212, w168_215, w168_228, w168_229, w168_232, w168_233, w168_236, w168_238, w168_239, w168_240, w168_242, w168_243, w168_244, w168_247, w168_249, w168_250, w168_251, w168_254, w168_255, w168_256, w168_259, w168_260, w168_263, w168_265, w168_266, w168_267, w168_269, w168_270, w168_271, w168_274, w168_276, w168_277, w168_278, w168_281, w168_282, w168_285, w168_287, w168_288, w168_289, w168_291, w168_292, w168_293, w168_296, w168_298, w168_299, w168_300, w168_303, w168_306, w168_307, eq_self, Nat.zero_le, n_lt, n_le, n_eq, n_neg, n_cl, n_mul, n_add, z_0, z_1, z_2, sc_0, sc_i, sc_r, sc_l, sc_n, jc_n, jc_i, jc_r, jc_l, Option.toList_some, Option.toList_none, List.cons_append, List.nil_append, Nat.reduceLT, Nat.reduceLeDiff, Nat.reduceMul, Nat.reduceAdd, Nat.reduceSub, Nat.reduceEqDiff, not_false_eq_true, not_true_eq_false, false_or, or_false, true_or, or_true, false_imp_iff, true_imp_iff, and_true, true_and, forall_const, false_implies, true_implies, b_t0, b_f0, tg_1, rf_1_0, rf_1_1, rf_1_2, rf_1_3, rf_1_4, rf_1_5, rf_1_6, tg_2, rf_2_0, rf_2_1, rf_2_2, rf_2_3, tg_3, ln_3, tg_4, ln_4, tg_5, rf_5_0, tg_6, ln_6, tg_7, rf_7_0, tg_8, ln_8, tg_123, rf_123_0, rf_123_1, rf_123_2, rf_123_3, rf_123_4, tg_124, ln_124, tg_125, rf_125_0, tg_126, ln_126, tg_127, rf_127_0, tg_128, ln_128, tg_129, ln_129, tg_322, rf_322_0, rf_322_1, rf_322_2, rf_322_3, tg_323, ln_323, tg_324, ln_324, tg_325, rf_325_0, rf_325_1, rf_325_2, tg_326, rf_326_0, tg_327, ln_327, tg_328, rf_328_0, tg_329, ln_329, tg_330, rf_330_0, rf_330_1, rf_330_2, tg_331, rf_331_0, tg_332, ln_332, tg_333, rf_333_0, tg_334, ln_334, tg_335, ln_335, tg_336, rf_336_0, tg_337, ln_337, tg_339, ln_339, tg_346, rf_346_1, rf_346_2, rf_346_4, rf_346_5, rf_346_6, rf_346_7, rf_346_8, rf_346_11, rf_346_13, rf_346_14, rf_346_15, rf_346_17, rf_346_18, rf_346_19, rf_346_20, rf_346_21, rf_346_22, rf_346_26, rf_346_28, rf_346_29, rf_346_32, rf_346_34, rf_346_35, rf_346_36, tg_347, ln_347, tg_348, ln_348, tg_349, ln_349, tg_350, ln_350, tg_351, ln_351, tg_352, ln_352, tg_353, ln_353, tg_354, ln_354, tg_355, ln_355, tg_356, ln_356, tg_357, ln_357, tg_358, ln_358, tg_359, ln_359, tg_360, ln_360, tg_361, ln_361, tg_362, ln_362, tg_363, ln_363, tg_364, ln_364, tg_365, ln_365, tg_366, ln_366, tg_367, ln_367, tg_368, ln_368, tg_369, ln_369, tg_370, ln_370, n_le (show 6 < 2147483648 by decide) s1, s2, f_cp_ne n2, f_cp_ne n3, n_cl k1, n_neg k1, k2, hz, sp_in, t_l0, t_64, sp_mPre z64, eIn, q1', decide_true, b2_t, n_cl c1, n_neg c1, c2, hgi, me, pe, hw, n_mod2 i6, n_2z, hp2, n_eq (show 0 < 2147483648 by decide) (show 1 < 2147483648 by decide), n_cl s1, n_neg s1, f_cp_s]
        · have i0 : i - 1 < i := by omega
          have u1 : i - 1 < 2147483648 := by omega
          have u2 : ¬ 6 ≤ i - 1 := by omega
          have eb : nI i - nI 1 = nI (i - 1) := by
            obtain ⟨q, rfl⟩ : ∃ q, i = q + 1 := ⟨i - 1, by omega⟩
            rw [n_sub1 (by omega)]
            rfl
          have er : f_cp I 364 i g 364 (i - 1) = g (i - 1) := f_cp_in i0
          by_cases q3 : g i < g (i - 1)
          · rw [if_pos (Or.inr ⟨hp2, q3⟩)]
            have q3' : ¬ g (i - 1) ≤ g i := by rw [i_nle]; exact q3
            simp only [w168_0, w168_1, w168_2, w168_3, w168_6, w168_9, w168_12, w168_13, w168_14, w168_17, w168_18, w168_19, w168_22, w168_25, w168_28, w168_29, w168_30, w168_33, w168_36, w168_37, w168_38, w168_39, w168_42, w168_45, w168_48, w168_50, w168_51, w168_52, w168_55, w168_58, w168_61, w168_62, w168_63, w168_64, w168_67, w168_68, w168_69, w168_71, w168_74, w168_75, w168_78, w168_79, w168_80, w168_82, w168_85, w168_87, w168_90, w168_92, w168_93, w168_94, w168_95, w168_98, w168_99, w168_102, w168_104, w168_106, w168_107, w168_111, w168_113, w168_116, w168_118, w168_119, w168_121, w168_122, w168_123, w168_124, w168_125, w168_128, w168_129, w168_130, w168_131, w168_132, w168_133, w168_136, w168_139, w168_141, w168_142, w168_143, w168_146, w168_148, w168_149, w168_150, w168_152, w168_153, w168_155, w168_156, w168_157, w168_159, w168_161, w168_162, w168_164, w168_165, w168_166, w168_168, w168_169, w168_172, w168_175, w168_177, w168_178, w168_179, w168_180, w168_183, w168_185, w168_186, w168_189, w168_191, w168_192, w168_193, w168_194, w168_197, w168_199, w168_201, w168_202, w168_203, w168_204, w168_207, w168_209, w168_211, w168_212, w168_215, w168_228, w168_229, w168_232, w168_233, w168_236, w168_238, w168_239, w168_240, w168_242, w168_243, w168_244, w168_247, w168_249, w168_250, w168_251, w168_254, w168_255, w168_256, w168_259, w168_260, w168_263, w168_265, w168_266, w168_267, w168_269, w168_270, w168_271, w168_274, w168_276, w168_277, w168_278, w168_281, w168_282, w168_285, w168_287, w168_288, w168_289, w168_291, w168_292, w168_293, w168_296, w168_298, w168_299, w168_300, w168_303, w168_306, w168_307, eq_self, Nat.zero_le, n_lt, n_le, n_eq, n_neg, n_cl, n_mul, n_add, z_0, z_1, z_2, sc_0, sc_i, sc_r, sc_l, sc_n, jc_n, jc_i, jc_r, jc_l, Option.toList_some, Option.toList_none, List.cons_append, List.nil_append, Nat.reduceLT, Nat.reduceLeDiff, Nat.reduceMul, Nat.reduceAdd, Nat.reduceSub, Nat.reduceEqDiff, not_false_eq_true, not_true_eq_false, false_or, or_false, true_or, or_true, false_imp_iff, true_imp_iff, and_true, true_and, forall_const, false_implies, true_implies, b_t0, b_f0, tg_1, rf_1_0, rf_1_1, rf_1_2, rf_1_3, rf_1_4, rf_1_5, rf_1_6, tg_2, rf_2_0, rf_2_1, rf_2_2, rf_2_3, tg_3, ln_3, tg_4, ln_4, tg_5, rf_5_0, tg_6, ln_6, tg_7, rf_7_0, tg_8, ln_8, tg_123, rf_123_0, rf_123_1, rf_123_2, rf_123_3, rf_123_4, tg_124, ln_124, tg_125, rf_125_0, tg_126, ln_126, tg_127, rf_127_0, tg_128, ln_128, tg_129, ln_129, tg_322, rf_322_0, rf_322_1, rf_322_2, rf_322_3, tg_323, ln_323, tg_324, ln_324, tg_325, rf_325_0, rf_325_1, rf_325_2, tg_326, rf_326_0, tg_327, ln_327, tg_328, rf_328_0, tg_329, ln_329, tg_330, rf_330_0, rf_330_1, rf_330_2, tg_331, rf_331_0, tg_332, ln_332, tg_333, rf_333_0, tg_334, ln_334, tg_335, ln_335, tg_336, rf_336_0, tg_337, ln_337, tg_339, ln_339, tg_346, rf_346_1, rf_346_2, rf_346_4, rf_346_5, rf_346_6, rf_346_7, rf_346_8, rf_346_11, rf_346_13, rf_346_14, rf_346_15, rf_346_17, rf_346_18, rf_346_19, rf_346_20, rf_346_21, rf_346_22, rf_346_26, rf_346_28, rf_346_29, rf_346_32, rf_346_34, rf_346_35, rf_346_36, tg_347, ln_347, tg_348, ln_348, tg_349, ln_349, tg_350, ln_350, tg_351, ln_351, tg_352, ln_352, tg_353, ln_353, tg_354, ln_354, tg_355, ln_355, tg_356, ln_356, tg_357, ln_357, tg_358, ln_358, tg_359, ln_359, tg_360, ln_360, tg_361, ln_361, tg_362, ln_362, tg_363, ln_363, tg_364, ln_364, tg_365, ln_365, tg_366, ln_366, tg_367, ln_367, tg_368, ln_368, tg_369, ln_369, tg_370, ln_370, n_le (show 6 < 2147483648 by decide) s1, s2, f_cp_ne n2, f_cp_ne n3, n_cl k1, n_neg k1, k2, hz, sp_in, t_l0, t_64, sp_mPre z64, eIn, q1', decide_true, b2_t, n_cl c1, n_neg c1, c2, hgi, me, pe, hw, n_mod2 i6, n_2z, hp2, eb, n_cl u1, n_neg u1, u2, er, q3']
          · have q2 : ¬ (true = false ∨ (i % 2 = 1 ∧ g i < g (i - 1))) := by
              intro r
              rcases r with r | r
              · exact absurd r (by decide)
              · exact q3 r.2
            rw [if_neg q2, ← ih']
            have q3' : g (i - 1) ≤ g i := by rw [← i_nlt]; exact q3
            simp only [w168_0, w168_1, w168_2, w168_3, w168_6, w168_9, w168_12, w168_13, w168_14, w168_17, w168_18, w168_19, w168_22, w168_25, w168_28, w168_29, w168_30, w168_33, w168_36, w168_37, w168_38, w168_39, w168_42, w168_45, w168_48, w168_50, w168_51, w168_52, w168_55, w168_58, w168_61, w168_62, w168_63, w168_64, w168_67, w168_68, w168_69, w168_71, w168_74, w168_75, w168_78, w168_79, w168_80, w168_82, w168_85, w168_87, w168_90, w168_92, w168_93, w168_94, w168_95, w168_98, w168_99, w168_102, w168_104, w168_106, w168_107, w168_111, w168_113, w168_116, w168_118, w168_119, w168_121, w168_122, w168_123, w168_124, w168_125, w168_128, w168_129, w168_130, w168_131, w168_132, w168_133, w168_136, w168_139, w168_141, w168_142, w168_143, w168_146, w168_148, w168_149, w168_150, w168_152, w168_153, w168_155, w168_156, w168_157, w168_159, w168_161, w168_162, w168_164, w168_165, w168_166, w168_168, w168_169, w168_172, w168_175, w168_177, w168_178, w168_179, w168_180, w168_183, w168_185, w168_186, w168_189, w168_191, w168_192, w168_193, w168_194, w168_197, w168_199, w168_201, w168_202, w168_203, w168_204, w168_207, w168_209, w168_211, w168_212, w168_215, w168_228, w168_229, w168_232, w168_233, w168_236, w168_238, w168_239, w168_240, w168_242, w168_243, w168_244, w168_247, w168_249, w168_250, w168_251, w168_254, w168_255, w168_256, w168_259, w168_260, w168_263, w168_265, w168_266, w168_267, w168_269, w168_270, w168_271, w168_274, w168_276, w168_277, w168_278, w168_281, w168_282, w168_285, w168_287, w168_288, w168_289, w168_291, w168_292, w168_293, w168_296, w168_298, w168_299, w168_300, w168_303, w168_306, w168_307, eq_self, Nat.zero_le, n_lt, n_le, n_eq, n_neg, n_cl, n_mul, n_add, z_0, z_1, z_2, sc_0, sc_i, sc_r, sc_l, sc_n, jc_n, jc_i, jc_r, jc_l, Option.toList_some, Option.toList_none, List.cons_append, List.nil_append, Nat.reduceLT, Nat.reduceLeDiff, Nat.reduceMul, Nat.reduceAdd, Nat.reduceSub, Nat.reduceEqDiff, not_false_eq_true, not_true_eq_false, false_or, or_false, true_or, or_true, false_imp_iff, true_imp_iff, and_true, true_and, forall_const, false_implies, true_implies, b_t0, b_f0, tg_1, rf_1_0, rf_1_1, rf_1_2, rf_1_3, rf_1_4, rf_1_5, rf_1_6, tg_2, rf_2_0, rf_2_1, rf_2_2, rf_2_3, tg_3, ln_3, tg_4, ln_4, tg_5, rf_5_0, tg_6, ln_6, tg_7, rf_7_0, tg_8, ln_8, tg_123, rf_123_0, rf_123_1, rf_123_2, rf_123_3, rf_123_4, tg_124, ln_124, tg_125, rf_125_0, tg_126, ln_126, tg_127, rf_127_0, tg_128, ln_128, tg_129, ln_129, tg_322, rf_322_0, rf_322_1, rf_322_2, rf_322_3, tg_323, ln_323, tg_324, ln_324, tg_325, rf_325_0, rf_325_1, rf_325_2, tg_326, rf_326_0, tg_327, ln_327, tg_328, rf_328_0, tg_329, ln_329, tg_330, rf_330_0, rf_330_1, rf_330_2, tg_331, rf_331_0, tg_332, ln_332, tg_333, rf_333_0, tg_334, ln_334, tg_335, ln_335, tg_336, rf_336_0, tg_337, ln_337, tg_339, ln_339, tg_346, rf_346_1, rf_346_2, rf_346_4, rf_346_5, rf_346_6, rf_346_7, rf_346_8, rf_346_11, rf_346_13, rf_346_14, rf_346_15, rf_346_17, rf_346_18, rf_346_19, rf_346_20, rf_346_21, rf_346_22, rf_346_26, rf_346_28, rf_346_29, rf_346_32, rf_346_34, rf_346_35, rf_346_36, tg_347, ln_347, tg_348, ln_348, tg_349, ln_349, tg_350, ln_350, tg_351, ln_351, tg_352, ln_352, tg_353, ln_353, tg_354, ln_354, tg_355, ln_355, tg_356, ln_356, tg_357, ln_357, tg_358, ln_358, tg_359, ln_359, tg_360, ln_360, tg_361, ln_361, tg_362, ln_362, tg_363, ln_363, tg_364, ln_364, tg_365, ln_365, tg_366, ln_366, tg_367, ln_367, tg_368, ln_368, tg_369, ln_369, tg_370, ln_370, n_le (show 6 < 2147483648 by decide) s1, s2, f_cp_ne n2, f_cp_ne n3, n_cl k1, n_neg k1, k2, hz, sp_in, t_l0, t_64, sp_mPre z64, eIn, q1', decide_true, b2_t, n_cl c1, n_neg c1, c2, hgi, me, pe, hw, n_mod2 i6, n_2z, hp2, eb, n_cl u1, n_neg u1, u2, er, q3', n_cl s1, n_neg s1, f_cp_s]
end READ
