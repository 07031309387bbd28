/-! BOXES -/
theorem n_lt {a b : Nat} (ha : a < 2147483648) (hb : b < 2147483648) : (nI a < nI b) = (a < b) := propext (nI_ltI ha hb)
theorem n_le {a b : Nat} (ha : a < 2147483648) (hb : b < 2147483648) : (nI a ≤ nI b) = (a ≤ b) := propext (nI_leI ha hb)
theorem n_eq {a b : Nat} (ha : a < 2147483648) (hb : b < 2147483648) : (nI a = nI b) = (a = b) := propext (nI_eq ha hb)
theorem n_neg {a : Nat} (ha : a < 2147483648) : (nI a < 0) = False := eq_false (nI_pos ha)
theorem n_cl {a : Nat} (ha : a < 2147483648) : (nI a).toNatClampNeg = a := nI_clamp ha
theorem n_mul (a b : Nat) : nI a * nI b = nI (a * b) := pk_mul a b
theorem n_add (a b : Nat) : nI a + nI b = nI (a + b) := nI_add a b
def bx (b : Nat) : Prop := f_tg b = 0 ∧ f_tg (b + 1) = 100 ∧ f_ln (b + 1) = 6 ∧ f_rf b 0 = b + 1
section BXS
variable {d b : Nat} {xs : List Value} {I : fI} {L : fL} {Q : Option Value × jW → Prop}
theorem sp_least {k : Nat} (hb : bx b) (hk : k < 3) : Wp d 33 0 [some (.ref b), some (.int (nI k))] [] (f_W xs I L) Q = Q (some (.int (I (b + 1) (2 * k))), f_W xs I L) := by
  obtain ⟨h1, h2, h3, h4⟩ := hb
  have hk : k = 0 ∨ k = 1 ∨ k = 2 := by omega
  rcases hk with rfl | rfl | rfl <;> simp only [w33_0, w33_1, w33_4, w33_5, w33_6, w33_9, w33_10, w33_13, w33_14, w33_15, w33_16, w33_17, w33_20, w33_21, n_lt, n_le, n_eq, n_neg, n_cl, n_mul, n_add, h1, h2, h3, h4, Nat.reduceLT, Nat.reduceLeDiff, Nat.reduceMul, Nat.reduceAdd, not_false_eq_true, not_true_eq_false, false_or, or_false, false_imp_iff, true_imp_iff, and_true, true_and, forall_const, imp_self, false_implies, true_implies]
end BXS
