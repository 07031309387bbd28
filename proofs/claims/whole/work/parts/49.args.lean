/-! what both halves take for an argument -/
theorem isVar_in {x : Int32} : isVar x = inI 0 x.toInt 2 := by
  unfold isVar inI
  have e0 : (nI 0).toInt = 0 := t_n (by omega)
  have e3 : (nI 3).toInt = 3 := t_n (by omega)
  by_cases h1 : x < nI 0 <;> by_cases h2 : nI 3 ≤ x <;> simp only [h1, h2] <;> rw [i_lt, e0] at h1 <;> rw [i_le, e3] at h2
  all_goals first
    | (have a : ¬ (0 : Int) ≤ x.toInt := by omega
       simp [a])
    | (have a : (0 : Int) ≤ x.toInt := by omega
       have b : ¬ x.toInt ≤ 2 := by omega
       simp [a, b])
    | (have a : (0 : Int) ≤ x.toInt := by omega
       have b : x.toInt ≤ 2 := by omega
       simp [a, b])
theorem has_in {x : Int32} {c : Nat} (hc : c ≤ 1000) : (!decide (x < nI 0) && !decide (nI c ≤ x)) = inI 0 x.toInt (c - 1) := by
  unfold inI
  have e0 : (nI 0).toInt = 0 := t_n (by omega)
  have e3 : (nI c).toInt = c := t_n (by omega)
  by_cases h1 : x < nI 0 <;> by_cases h2 : nI c ≤ x <;> simp only [h1, h2] <;> rw [i_lt, e0] at h1 <;> rw [i_le, e3] at h2
  all_goals first
    | (have a : ¬ (0 : Int) ≤ x.toInt := by omega
       simp [a])
    | (have a : (0 : Int) ≤ x.toInt := by omega
       have b : ¬ x.toInt ≤ (c : Int) - 1 := by omega
       simp [a, b])
    | (have a : (0 : Int) ≤ x.toInt := by omega
       have b : x.toInt ≤ (c : Int) - 1 := by omega
       simp [a, b])
theorem hasM_in {I : fI} {x : Int32} {c : Nat} (h : I 2 4 = nI c) (hc : c ≤ 6) : hasM I x = inI 0 x.toInt (c - 1) := by
  unfold hasM
  rw [h]
  exact has_in (by omega)
theorem hasJ_in {I : fI} {x : Int32} {c : Nat} (h : I 2 5 = nI c) (hc : c ≤ 12) : hasJ I x = inI 0 x.toInt (c - 1) := by
  unfold hasJ
  rw [h]
  exact has_in (by omega)
theorem inI_ex {x : Int32} {c : Nat} (h : inI 0 x.toInt (c - 1) = true) (hc : c ≤ 1000) : ∃ k, k < c ∧ x = nI k := by
  unfold inI at h
  simp only [Bool.and_eq_true, decide_eq_true_eq] at h
  exact t_ex h.1 (by omega) (by omega)
theorem inI_ex2 {x : Int32} (h : inI 0 x.toInt 2 = true) : ∃ k, k < 3 ∧ x = nI k := by
  have : inI 0 x.toInt ((3 : Nat) - 1) = true := h
  exact inI_ex this (by omega)
def sides (x a b : Int32) (e : Nat) : Bool := inI 0 x.toInt 2 && (inI (-(e : Int)) a.toInt b.toInt && inI a.toInt b.toInt e)
theorem sides_ok {x a b : Int32} {e : Nat} (h : sides x a b e = true) : ∃ k, k < 3 ∧ x = nI k ∧ -(e : Int) ≤ a.toInt ∧ a.toInt ≤ b.toInt ∧ b.toInt ≤ e := by
  unfold sides at h
  simp only [Bool.and_eq_true] at h
  obtain ⟨k, hk, rfl⟩ := inI_ex2 h.1
  obtain ⟨h1, h2, h3⟩ := h
  unfold inI at h2 h3
  simp only [Bool.and_eq_true, decide_eq_true_eq] at h2 h3
  exact ⟨k, hk, rfl, h2.1, h2.2, h3.2⟩
section ARGS
variable {d : Nat} {xs : List Value} {I : fI} {L : fL} {Q : Option Value × jW → Prop}
theorem sp_areSides {x a b : Int32} {e : Nat} (he : e ≤ 20) {w : jW} : Wp (d + 1) 17 0 [some (.int x), some (.int a), some (.int b), some (.int (nI e))] [] w Q = Q (some (.int (b2 (sides x a b e))), w) := by
  have e1 : (-nI e).toInt = -(e : Int) := by
    have : ∀ c, c ≤ 20 → (-nI c).toInt = -(c : Int) := by decide +kernel
    exact this e he
  have e2 : (nI e).toInt = e := t_n (by omega)
  unfold sides
  cases hv : inI 0 x.toInt 2 with
  | false => simp only [w17_0, w17_1, w17_4, w17_7, w17_8, w17_9, w17_10, w17_13, w17_14, w17_15, w17_18, w17_19, w17_20, w17_23, w17_24, w17_27, w17_28, eq_self, Nat.zero_le, n_lt, n_le, n_eq, n_neg, n_cl, n_mul, n_add, z_0, z_1, z_2, sc_0, sc_i, sc_r, sc_l, sc_n, jc_n, jc_i, jc_r, jc_l, Option.toList_some, Option.toList_none, List.cons_append, List.nil_append, Nat.reduceLT, Nat.reduceLeDiff, Nat.reduceMul, Nat.reduceAdd, Nat.reduceSub, Nat.reduceEqDiff, not_false_eq_true, not_true_eq_false, false_or, or_false, true_or, or_true, false_imp_iff, true_imp_iff, and_true, true_and, forall_const, false_implies, true_implies, b_t0, b_f0, sp_isVariable, isVar_in, hv, b2_f, Bool.false_and]
  | true =>
    by_cases h1 : a < -nI e
    · have h3 : ¬ -(e : Int) ≤ a.toInt := by rw [i_lt, e1] at h1; omega
      have g1 : inI (-(e : Int)) a.toInt b.toInt = false := by unfold inI; simp [h3]
      simp only [w17_0, w17_1, w17_4, w17_7, w17_8, w17_9, w17_10, w17_13, w17_14, w17_15, w17_18, w17_19, w17_20, w17_23, w17_24, w17_27, w17_28, eq_self, Nat.zero_le, n_lt, n_le, n_eq, n_neg, n_cl, n_mul, n_add, z_0, z_1, z_2, sc_0, sc_i, sc_r, sc_l, sc_n, jc_n, jc_i, jc_r, jc_l, Option.toList_some, Option.toList_none, List.cons_append, List.nil_append, Nat.reduceLT, Nat.reduceLeDiff, Nat.reduceMul, Nat.reduceAdd, Nat.reduceSub, Nat.reduceEqDiff, not_false_eq_true, not_true_eq_false, false_or, or_false, true_or, or_true, false_imp_iff, true_imp_iff, and_true, true_and, forall_const, false_implies, true_implies, b_t0, b_f0, sp_isVariable, isVar_in, hv, b2_t, b2_f, h1, g1, Bool.false_and, Bool.and_false]
    · have h4 : -(e : Int) ≤ a.toInt := by rw [i_lt, e1] at h1; omega
      by_cases h2 : b < a
      · have h3 : ¬ a.toInt ≤ b.toInt := by rw [i_lt] at h2; omega
        have g1 : inI (-(e : Int)) a.toInt b.toInt = false := by unfold inI; simp [h3]
        simp only [w17_0, w17_1, w17_4, w17_7, w17_8, w17_9, w17_10, w17_13, w17_14, w17_15, w17_18, w17_19, w17_20, w17_23, w17_24, w17_27, w17_28, eq_self, Nat.zero_le, n_lt, n_le, n_eq, n_neg, n_cl, n_mul, n_add, z_0, z_1, z_2, sc_0, sc_i, sc_r, sc_l, sc_n, jc_n, jc_i, jc_r, jc_l, Option.toList_some, Option.toList_none, List.cons_append, List.nil_append, Nat.reduceLT, Nat.reduceLeDiff, Nat.reduceMul, Nat.reduceAdd, Nat.reduceSub, Nat.reduceEqDiff, not_false_eq_true, not_true_eq_false, false_or, or_false, true_or, or_true, false_imp_iff, true_imp_iff, and_true, true_and, forall_const, false_implies, true_implies, b_t0, b_f0, sp_isVariable, isVar_in, hv, b2_t, b2_f, h1, h2, g1, Bool.false_and, Bool.and_false]
      · have h3 : a.toInt ≤ b.toInt := by rw [i_lt] at h2; omega
        have g1 : inI (-(e : Int)) a.toInt b.toInt = true := by unfold inI; simp [h3, h4]
        by_cases h5 : b ≤ nI e
        · have h6 : b.toInt ≤ (e : Int) := by rw [i_le, e2] at h5; omega
          have h7 : ¬ nI e < b := by rw [i_nlt]; exact h5
          have g2 : inI a.toInt b.toInt (e : Int) = true := by unfold inI; simp [h3, h6]
          simp only [w17_0, w17_1, w17_4, w17_7, w17_8, w17_9, w17_10, w17_13, w17_14, w17_15, w17_18, w17_19, w17_20, w17_23, w17_24, w17_27, w17_28, eq_self, Nat.zero_le, n_lt, n_le, n_eq, n_neg, n_cl, n_mul, n_add, z_0, z_1, z_2, sc_0, sc_i, sc_r, sc_l, sc_n, jc_n, jc_i, jc_r, jc_l, Option.toList_some, Option.toList_none, List.cons_append, List.nil_append, Nat.reduceLT, Nat.reduceLeDiff, Nat.reduceMul, Nat.reduceAdd, Nat.reduceSub, Nat.reduceEqDiff, not_false_eq_true, not_true_eq_false, false_or, or_false, true_or, or_true, false_imp_iff, true_imp_iff, and_true, true_and, forall_const, false_implies, true_implies, b_t0, b_f0, sp_isVariable, isVar_in, hv, b2_t, b2_f, h1, h2, h5, h7, g1, g2, Bool.and_true]
        · have h6 : ¬ b.toInt ≤ (e : Int) := by rw [i_le, e2] at h5; omega
          have h7 : nI e < b := by rw [i_nle] at h5; exact h5
          have g2 : inI a.toInt b.toInt (e : Int) = false := by unfold inI; simp [h6]
          simp only [w17_0, w17_1, w17_4, w17_7, w17_8, w17_9, w17_10, w17_13, w17_14, w17_15, w17_18, w17_19, w17_20, w17_23, w17_24, w17_27, w17_28, eq_self, Nat.zero_le, n_lt, n_le, n_eq, n_neg, n_cl, n_mul, n_add, z_0, z_1, z_2, sc_0, sc_i, sc_r, sc_l, sc_n, jc_n, jc_i, jc_r, jc_l, Option.toList_some, Option.toList_none, List.cons_append, List.nil_append, Nat.reduceLT, Nat.reduceLeDiff, Nat.reduceMul, Nat.reduceAdd, Nat.reduceSub, Nat.reduceEqDiff, not_false_eq_true, not_true_eq_false, false_or, or_false, true_or, or_true, false_imp_iff, true_imp_iff, and_true, true_and, forall_const, false_implies, true_implies, b_t0, b_f0, sp_isVariable, isVar_in, hv, b2_t, b2_f, h1, h2, h5, h7, g1, g2, Bool.and_true, Bool.and_false]
end ARGS
