/-! THE LAW: its loop, its start; the little machine's claim -/
theorem c_and31 (a : Int32) : ∃ c, c < 32 ∧ a &&& nI 31 = nI c := by
  refine ⟨a.toBitVec.toNat % 32, Nat.mod_lt _ (by decide), ?_⟩
  apply Int32.toBitVec_inj.mp
  rw [Int32.toBitVec_and]
  show a.toBitVec &&& BitVec.ofNat 32 31 = BitVec.ofNat 32 (a.toBitVec.toNat % 32)
  apply BitVec.eq_of_toNat_eq
  have h := a.toBitVec.isLt
  rw [BitVec.toNat_and, BitVec.toNat_ofNat, BitVec.toNat_ofNat, show 31 % 2 ^ 32 = 2 ^ 5 - 1 by decide, Nat.and_two_pow_sub_one_eq_mod]
  omega
theorem n_m6 {n : Nat} (h : n ≤ 3072) : (nI n - nI 6).toInt = (n : Int) - 6 := by
  rw [Int32.toInt_sub, t_n (by omega), t_n (by omega)]
  exact Int.bmod_eq_of_le (by omega) (by omega)
section LAWL
variable {g : List Int32} {Q : Option Value × jW → Prop}
theorem law_step {t : Nat} {I : fI} {L : fL} (hR : Rel I) (hn : g.length ≤ 3072) (ht : t + 6 ≤ g.length) (K : ∀ (I : fI) (L : fL), Rel I → Wp 9 173 18 [some (.ref 0), some (.ref 1), some (.ref 346), some (.int (nI (t + 6)))] [] (f_W (g.map Value.int) I L) Q) : Wp 9 173 18 [some (.ref 0), some (.ref 1), some (.ref 346), some (.int (nI t))] [] (f_W (g.map Value.int) I L) Q := by
  have t1 : t < 2147483648 := by omega
  have h0 : t < g.length := by omega
  have h1 : t + 1 < g.length := by omega
  have h2 : t + 2 < g.length := by omega
  have h3 : t + 3 < g.length := by omega
  have h4 : t + 4 < g.length := by omega
  have h5 : t + 5 < g.length := by omega
  have h31 : t + 6 < 2147483648 := by omega
  have q : ¬ nI g.length - nI 6 < nI t := by
    rw [i_lt, n_m6 hn, t_n t1]
    omega
  obtain ⟨c, hc, e⟩ := c_and31 (g.getD t 0)
  rw [w173_18]
  simp only [w173_19, w173_20, w173_21, w173_23, w173_24, w173_27, w173_28, w173_29, w173_30, w173_32, eq_self, Nat.zero_le, n_lt, n_le, n_eq, n_neg, n_cl, n_mul, n_add, z_0, z_1, z_2, sc_0, sc_i, sc_r, sc_l, sc_n, jc_n, jc_i, jc_r, jc_l, Option.toList_some, Option.toList_none, List.cons_append, List.nil_append, Nat.reduceLT, Nat.reduceLeDiff, Nat.reduceMul, Nat.reduceAdd, Nat.reduceSub, Nat.reduceEqDiff, not_false_eq_true, not_true_eq_false, false_or, or_false, true_or, or_true, false_imp_iff, true_imp_iff, and_true, true_and, forall_const, false_implies, true_implies, b_t0, b_f0, q, h0, t1, e]
  have hc' : c = 0 ∨ c = 1 ∨ c = 2 ∨ c = 3 ∨ c = 4 ∨ c = 5 ∨ c = 6 ∨ c = 7 ∨ c = 8 ∨ c = 9 ∨ c = 10 ∨ c = 11 ∨ c = 12 ∨ c = 13 ∨ c = 14 ∨ c = 15 ∨ c = 16 ∨ c = 17 ∨ c = 18 ∨ c = 19 ∨ c = 20 ∨ c = 21 ∨ c = 22 ∨ c = 23 ∨ c = 24 ∨ c = 25 ∨ c = 26 ∨ c = 27 ∨ 28 ≤ c := by omega
  rcases hc' with rfl | rfl | rfl | rfl | rfl | rfl | rfl | rfl | rfl | rfl | rfl | rfl | rfl | rfl | rfl | rfl | rfl | rfl | rfl | rfl | rfl | rfl | rfl | rfl | rfl | rfl | rfl | rfl | hc2
  · rw [w173_33_0]; exact law_0 hR h31 h1 h2 h3 h4 h5 K
  · rw [w173_33_1]; exact law_1 hR h31 h1 h2 h3 h4 h5 K
  · rw [w173_33_2]; exact law_2 hR h31 h1 h2 h3 h4 h5 K
  · rw [w173_33_3]; exact law_3 hR h31 h1 h2 h3 h4 h5 K
  · rw [w173_33_4]; exact law_4 hR h31 h1 h2 h3 h4 h5 K
  · rw [w173_33_5]; exact law_5 hR h31 h1 h2 h3 h4 h5 K
  · rw [w173_33_6]; exact law_6 hR h31 h1 h2 h3 h4 h5 K
  · rw [w173_33_7]; exact law_7 hR h31 h1 h2 h3 h4 h5 K
  · rw [w173_33_8]; exact law_8 hR h31 h1 h2 h3 h4 h5 K
  · rw [w173_33_9]; exact law_9 hR h31 h1 h2 h3 h4 h5 K
  · rw [w173_33_10]; exact law_10 hR h31 h1 h2 h3 h4 h5 K
  · rw [w173_33_11]; exact law_11 hR h31 h1 h2 h3 h4 h5 K
  · rw [w173_33_12]; exact law_12 hR h31 h1 h2 h3 h4 h5 K
  · rw [w173_33_13]; exact law_13 hR h31 h1 h2 h3 h4 h5 K
  · rw [w173_33_14]; exact law_14 hR h31 h1 h2 h3 h4 h5 K
  · rw [w173_33_15]; exact law_15 hR h31 h1 h2 h3 h4 h5 K
  · rw [w173_33_16]; exact law_16 hR h31 h1 h2 h3 h4 h5 K
  · rw [w173_33_17]; exact law_17 hR h31 h1 h2 h3 h4 h5 K
  · rw [w173_33_18]; exact law_18 hR h31 h1 h2 h3 h4 h5 K
  · rw [w173_33_19]; exact law_19 hR h31 h1 h2 h3 h4 h5 K
  · rw [w173_33_20]; exact law_20 hR h31 h1 h2 h3 h4 h5 K
  · rw [w173_33_21]; exact law_21 hR h31 h1 h2 h3 h4 h5 K
  · rw [w173_33_22]; exact law_22 hR h31 h1 h2 h3 h4 h5 K
  · rw [w173_33_23]; exact law_23 hR h31 h1 h2 h3 h4 h5 K
  · rw [w173_33_24]; exact law_24 hR h31 h1 h2 h3 h4 h5 K
  · rw [w173_33_25]; exact law_25 hR h31 h1 h2 h3 h4 h5 K
  · rw [w173_33_26]; exact law_26 hR h31 h1 h2 h3 h4 h5 K
  · rw [w173_33_27]; exact law_27 hR h31 h1 h2 h3 h4 h5 K
  · rw [w173_33_d (by rw [t_n (by omega)]; omega)]
    have := K I L hR
    simp only [w173_1206, w173_1209, eq_self, Nat.zero_le, n_lt, n_le, n_eq, n_neg, n_cl, n_mul, n_add, z_0, z_1, z_2, sc_0, sc_i, sc_r, sc_l, sc_n, jc_n, jc_i, jc_r, jc_l, Option.toList_some, Option.toList_none, List.cons_append, List.nil_append, Nat.reduceLT, Nat.reduceLeDiff, Nat.reduceMul, Nat.reduceAdd, Nat.reduceSub, Nat.reduceEqDiff, not_false_eq_true, not_true_eq_false, false_or, or_false, true_or, or_true, false_imp_iff, true_imp_iff, and_true, true_and, forall_const, false_implies, true_implies, b_t0, b_f0]
    exact this
theorem law_loop (hn : g.length ≤ 3072) (F : ∀ (I : fI) (L : fL), Q (some (.int (nI 1)), f_W (g.map Value.int) I L)) : ∀ (j t : Nat) (I : fI) (L : fL), t ≤ 3072 → 3100 - t ≤ j → Rel I → Wp 9 173 18 [some (.ref 0), some (.ref 1), some (.ref 346), some (.int (nI t))] [] (f_W (g.map Value.int) I L) Q := by
  intro j
  induction j with
  | zero => intro t I L h1 h2; omega
  | succ j ih =>
    intro t I L h1 h2 hR
    by_cases ht : t + 6 ≤ g.length
    · exact law_step hR hn ht (fun I L hR => ih (t + 6) I L (by omega) (by omega) hR)
    · have q : nI g.length - nI 6 < nI t := by
        rw [i_lt, n_m6 hn, t_n (by omega)]
        omega
      rw [w173_18]
      simp only [w173_19, w173_20, w173_21, w173_23, w173_24, w173_1212, w173_1213, eq_self, Nat.zero_le, n_lt, n_le, n_eq, n_neg, n_cl, n_mul, n_add, z_0, z_1, z_2, sc_0, sc_i, sc_r, sc_l, sc_n, jc_n, jc_i, jc_r, jc_l, Option.toList_some, Option.toList_none, List.cons_append, List.nil_append, Nat.reduceLT, Nat.reduceLeDiff, Nat.reduceMul, Nat.reduceAdd, Nat.reduceSub, Nat.reduceEqDiff, not_false_eq_true, not_true_eq_false, false_or, or_false, true_or, or_true, false_imp_iff, true_imp_iff, and_true, true_and, forall_const, false_implies, true_implies, b_t0, b_f0, q]
      exact F I L
end LAWL
/-! what the constructors leave -/
set_option maxRecDepth 1000000 in
theorem k_end : k_w56 = f_part 370 := by decide +kernel
set_option maxRecDepth 1000000 in
theorem k_mid : k_w8 ++ [(11, (j_fk.getD 11 []).map (fun k => if k = 2 then Value.null else Value.int 0))] = k_w53 := by decide +kernel
set_option maxRecDepth 100000 in
theorem i0_M : ∀ m, m < 6 → (∀ k, k < 6 → f_I0 (11 + 7 * m) k = d20 k) ∧ (∀ k, k < 6 → f_I0 (13 + 7 * m) k = 0) ∧ f_I0 (9 + 7 * m) 3 = 0 ∧ f_I0 355 m = 0 := by decide +kernel
set_option maxRecDepth 100000 in
theorem i0_J : ∀ j, j < 12 → (∀ k, k < 6 → f_I0 (53 + 6 * j) k = d20 k) ∧ (∀ k, k < 6 → f_I0 (55 + 6 * j) k = 0 ∧ f_I0 352 (6 * j + k) = 0) ∧ ∀ k, k < 3 → f_I0 (56 + 6 * j) k = 0 ∧ f_I0 353 (3 * j + k) = 0 := by decide +kernel
set_option maxRecDepth 100000 in
theorem i0_T : ∀ k, k < 4 → f_I0 368 k = -4 ∧ f_I0 369 k = 0 ∧ f_I0 (338 + 2 * k) 1 = -4 ∧ f_I0 (338 + 2 * k) 2 = 0 ∧ ∀ i, i < 60 → f_I0 370 (60 * k + i) = 0 ∧ f_I0 (339 + 2 * k) i = 0 := by decide +kernel
set_option maxRecDepth 100000 in
theorem i0_S : (∀ k, k < 6 → f_I0 354 k = f_I0 6 k) ∧ (∀ k, k < 6 → f_I0 354 (6 + k) = f_I0 8 k) ∧ (∀ k, k < 6 → f_I0 8 k = d20 k) ∧ (∀ k, k < 3 → f_I0 367 k = 0 ∧ f_I0 332 (2 * k) = 0 ∧ f_I0 332 (2 * k + 1) = 0) := by decide +kernel
set_option maxRecDepth 100000 in
theorem i0_F : f_I0 2 4 = nI 0 ∧ f_I0 2 5 = nI 0 ∧ f_I0 2 6 = nI 0 ∧ f_I0 2 7 = -4 ∧ f_I0 123 5 = nI 12 ∧ f_I0 123 9 = nI 0 ∧ f_I0 346 0 = nI 0 ∧ f_I0 346 3 = nI 0 ∧ f_I0 346 12 = nI 12 ∧ f_I0 346 9 = nI 0 ∧ f_I0 346 10 = -4 ∧ f_I0 330 5 = 0 ∧ f_I0 330 3 = nI 0 ∧ f_I0 330 4 = 0 ∧ f_I0 346 30 = 0 ∧ f_I0 346 31 = nI 0 ∧ f_I0 346 33 = 0 := by decide +kernel
theorem rel_0 : Rel f_I0 := by
  obtain ⟨a1, a2, a3, a4, a5, a6, a7, a8, a9, a10, a11, a12, a13, a14, a15, a16, a17⟩ := i0_F
  obtain ⟨s1, s2, s3, s4⟩ := i0_S
  refine ⟨0, 0, 12, 0, fun _ => 0, fun _ => 0, ⟨⟨a1, by omega, a2, by omega, fun j hj => by omega, a5, by omega, by omega⟩, ⟨a7, by omega, a8, by omega, fun j hj => by omega, a9, by omega, by omega⟩, ⟨by omega, a3, a10, by rw [a11, a4], Or.inl a4, s1, s2, ?_⟩, fun j hj => by omega, fun m hm => ?_, fun j hj => ?_, ?_, fun k hk => ?_⟩, Or.inl a6⟩
  · exact ⟨RG_E d20_GB.1 (fun k hk => (s3 k hk).symm), by rw [bEmp_congr s3]; exact d20_GB.2⟩
  · obtain ⟨m1, m2, m3, m4⟩ := i0_M m hm
    refine ⟨⟨RG_E d20_GB.1 (fun k hk => (m1 k hk).symm), by rw [bEmp_congr m1]; exact d20_GB.2⟩, Or.inl m3, by rw [m3, m4], fun q => ?_, fun q => by omega, fun _ => ⟨m1, m2⟩⟩
    rw [m3] at q
    exact absurd q (by decide)
  · obtain ⟨j1, j2, j3⟩ := i0_J j hj
    refine ⟨fun k hk => ⟨Or.inl (j3 k hk).1, by rw [(j3 k hk).1, (j3 k hk).2]⟩, fun k hk => ?_, fun q => by omega, fun _ => ⟨j1, fun k hk => (j3 k hk).1⟩⟩
    show f_I0 352 (6 * j + k) = f_I0 (55 + 6 * j) k
    rw [(j2 k hk).1, (j2 k hk).2]
  · refine ⟨Or.inl a12, by rw [a15, a12], by rw [a16, a13], ⟨0, by omega, a13, fun q => ?_⟩, by rw [a17, a14], fun k hk => ?_⟩
    · rw [a12] at q
      exact absurd q (by decide)
    · obtain ⟨k1, k2, k3⟩ := s4 k hk
      exact ⟨by rw [k1, k2], by rw [k2, k3]⟩
  · obtain ⟨t1, t2, t3, t4, t5⟩ := i0_T k hk
    refine ⟨by rw [t1, t3], by rw [t2, t4], ⟨0, by omega, by rw [t4]; rfl⟩, Or.inl t3, fun i hi => by rw [(t5 i hi).1, (t5 i hi).2]⟩
theorem lift_Rn {d y pc : Nat} {ls : jL} {st : List Value} {es es' : jW} {v : Option Value} (h : Rn d y pc ls st (p_x es) (v, p_x es')) (xs : List Value) : Rn d y pc ls st ((107, xs) :: es) (v, (107, xs) :: es') := by
  obtain ⟨n, hn⟩ := h
  obtain ⟨es2, e, h2⟩ := p_run n d y pc ls st es v (p_x es') xs hn
  have : es' = es2 := (List.cons.inj e).2
  subst this
  exact ⟨n, h2⟩
theorem f_slt {xs : List Value} {I : fI} {L : fL} : j_slt (f_W xs I L) = xs.length + ((List.range 370).map (fun i => f_ln (i + 1))).sum := by
  unfold j_slt f_W
  rw [List.map_cons, List.sum_cons, List.map_map, show f_N - 1 = 370 from rfl]
  simp only [Function.comp_def, f_ce_len]
set_option maxRecDepth 100000 in
theorem f_sum : ((List.range 370).map (fun i => f_ln (i + 1))).sum ≤ 4000 := by decide +kernel
theorem f_cnt {xs : List Value} {I : fI} {L : fL} : j_cnt (f_W xs I L) = 371 := by
  unfold j_cnt f_W
  rw [List.length_cons, List.length_map, List.length_range]
  rfl
set_option maxRecDepth 1000000 in
theorem k_len : k_w8.length = 345 := by decide +kernel
theorem new_M (xs : List Value) : j_hp 173 ((107, xs) :: k_w8) (.new 10) [] = some ([.ref 346], (107, xs) :: k_w53) := by
  have e : j_lk j_nw (j_mc 173) 10 = some 11 := rfl
  unfold j_hp
  simp only [e]
  rw [if_pos (by decide), List.length_cons, k_len, ← k_mid]
  rfl
theorem p_pure : j_Pure := by
  intro g hg
  have F : ∀ (I : fI) (L : fL), (fun r : Option Value × jW => r.1 = some (.int 1) ∧ ∃ I L, r.2 = f_W (g.map Value.int) I L) (some (.int (nI 1)), f_W (g.map Value.int) I L) := fun I L => ⟨rfl, I, L, rfl⟩
  have lp := law_loop (Q := fun r : Option Value × jW => r.1 = some (.int 1) ∧ ∃ I L, r.2 = f_W (g.map Value.int) I L) hg F 3100 0 f_I0 f_L0 (by omega) (by omega) rel_0
  have ew : f_W (g.map Value.int) f_I0 f_L0 = (107, g.map Value.int) :: k_w56 := by rw [k_end]; rfl
  rw [ew] at lp
  have W0 : Wp 9 173 0 (j_ent 173 [.ref 0]) [] [(107, g.map Value.int)] (fun r : Option Value × jW => r.1 = some (.int 1) ∧ ∃ I L, r.2 = f_W (g.map Value.int) I L) := by
    rw [show j_ent 173 [.ref 0] = [some (.ref 0), none, none, none] from rfl]
    rw [Wp.hp (i := .new 7) (st' := [.ref 1]) (w' := (107, g.map Value.int) :: k_w0) e173_0 rfl rfl rfl rfl rfl]
    rw [show 0 + j_len (.new 7) = 3 from rfl, w173_3r]
    rw [Wp.cal (kd := 2) (y' := 0) (as := [.ref 1]) (rest := [.ref 1]) e173_4 rfl]
    refine ⟨(none, (107, g.map Value.int) :: k_w8), lift_Rn k_f0 _, ?_⟩
    show Wp 9 173 7 [some (.ref 0), none, none, none] [.ref 1] ((107, g.map Value.int) :: k_w8) _
    rw [w173_7 (show j_cp (some (.ref 0)) from rfl)]
    rw [Wp.hp (i := .new 10) (st' := [.ref 346]) (w' := (107, g.map Value.int) :: k_w53) e173_8 rfl rfl rfl rfl (new_M (g.map Value.int))]
    rw [show 8 + j_len (.new 10) = 11 from rfl, w173_11r]
    rw [Wp.cal (kd := 2) (y' := 110) (as := [.ref 346]) (rest := [.ref 346]) e173_12 rfl]
    refine ⟨(none, (107, g.map Value.int) :: k_w56), lift_Rn k_f110 _, ?_⟩
    show Wp 9 173 15 [some (.ref 0), some (.ref 1), none, none] [.ref 346] ((107, g.map Value.int) :: k_w56) _
    rw [w173_15 (show j_cp (some (.ref 1)) from rfl), w173_16, w173_17 (show j_cp (some (.ref 346)) from rfl)]
    exact lp
  obtain ⟨⟨v, w'⟩, ⟨n, hn⟩, h1, I, L, h2⟩ := W0
  have h1 : v = some (.int 1) := h1
  have h2 : w' = f_W (g.map Value.int) I L := h2
  subst h1
  subst h2
  refine ⟨n, _, hn, ?_, ?_⟩
  · rw [f_cnt]
    omega
  · rw [f_slt]
    have := f_sum
    rw [List.length_map]
    omega
