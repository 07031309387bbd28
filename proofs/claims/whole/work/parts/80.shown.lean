/-! SHOWN: the reference's run; both agree -/
section SHOWN
variable {xs : List Value} {L : fL} {s : gS} {h len mc jc lim sm : Nat} {fj tj : Nat → Nat}
def HS (I0 J : fI) : Prop := (∀ o, o ≠ 346 → o ≠ 357 → o ≠ 365 → o ≠ 366 → J o = I0 o) ∧ ∀ q, q ≠ 27 → J 346 q = I0 346 q
/-- a state of the run is written down -/
def rcI (J : fI) (k : Nat) (e : gH) : fI := f_up (f_up (f_up (f_up (f_up J 365 (4 * k) (nI e.1)) 365 (4 * k + 1) (J 357 0)) 365 (4 * k + 1 + 1) (J 357 2)) 365 (4 * k + 1 + 2) (J 357 4)) 366 k e.2.2.2.1
theorem rcI_HS {I0 J : fI} {k : Nat} {e : gH} (H : HS I0 J) : HS I0 (rcI J k e) := by
  refine ⟨fun o h1 h2 h3 h4 => ?_, fun q hq => ?_⟩
  · unfold rcI
    rw [f_up_ne h4, f_up_ne h3, f_up_ne h3, f_up_ne h3, f_up_ne h3]
    exact H.1 o h1 h2 h3 h4
  · unfold rcI
    rw [f_up_ne (by omega), f_up_ne (by omega), f_up_ne (by omega), f_up_ne (by omega), f_up_ne (by omega)]
    exact H.2 q hq
theorem rcI_at {J : fI} {k : Nat} {e : gH} : rcI J k e 365 (4 * k) = nI e.1 ∧ rcI J k e 365 (4 * k + 1 + 0) = J 357 0 ∧ rcI J k e 365 (4 * k + 1 + 1) = J 357 2 ∧ rcI J k e 365 (4 * k + 1 + 2) = J 357 4 ∧ rcI J k e 366 k = e.2.2.2.1 ∧ (∀ u q, u < k → q < 4 → rcI J k e 365 (4 * u + q) = J 365 (4 * u + q)) ∧ (∀ u, u < k → rcI J k e 366 u = J 366 u) := by
  refine ⟨?_, ?_, ?_, ?_, ?_, fun u q h1 h2 => ?_, fun u hu => ?_⟩
  · unfold rcI
    rw [f_up_ne (by omega), f_up_at, if_neg (by omega), f_up_at, if_neg (by omega), f_up_at, if_neg (by omega), f_up_eq]
  · simp [rcI, f_up_at]
  · simp [rcI, f_up_at]
  · simp [rcI, f_up_at]
  · simp [rcI, f_up_at]
  · have a1 : ¬ 4 * u + q = 4 * k := by omega
    have a2 : ¬ 4 * u + q = 4 * k + 1 := by omega
    have a3 : ¬ 4 * u + q = 4 * k + 1 + 1 := by omega
    have a4 : ¬ 4 * u + q = 4 * k + 1 + 2 := by omega
    simp [rcI, f_up_at, a1, a2, a3, a4]
  · have a1 : ¬ u = k := by omega
    simp [rcI, f_up_at, a1]
/-- what is written down of the states up to n -/
def WD (I : fI) (J : fI) (s : gS) (h a b : Nat) : Prop := ∀ u, a ≤ u → u < b → J 365 (4 * u) = nI (s.2.1 (an s.2.1 h u)).1 ∧ (∀ x, x < 3 → J 365 (4 * u + 1 + x) = val I s h x u) ∧ J 366 u = (s.2.1 (an s.2.1 h u)).2.2.2.1
theorem bk_eq {I I0 J : fI} (D : RD I0 mc jc lim sm fj tj) (lo : ∀ o, o < 123 → I0 o = I o) (H : HS I0 J) (V : INV mc jc fj tj (fun j f => rS3 I j (tj j) f) s) (C : CH s h len) (N : ∀ k, k < len → (s.2.1 (an s.2.1 h k)).2.2.2.2.2 = false) {k x : Nat} (hk : k + 1 < len) (hx : x < 3) : bkM J (s.2.1 (an s.2.1 h (k + 1))) (s.2.1 (an s.2.1 h k)).2.2.2.1 x (val I s h x k) = val I s h x (k + 1) := by
  have mc6 := D.1.2.1
  have jc12 := D.1.2.2.2.1
  have ge := val_ge V jc12 C N hx k (by omega)
  have m1 := (V.2 _ (C.2.2.1 (k + 1) hk)).1
  show _ = bk I (s.2.1 (an s.2.1 h (k + 1))) (s.2.1 (an s.2.1 h k)).2.2.2.1 x (val I s h x k)
  rcases ch_how V C N hk with w | ⟨j, w1, w2, w3, w4⟩
  · unfold bkM bk
    rw [if_pos w, if_pos w, H.1 348 (by omega) (by omega) (by omega) (by omega)]
    have e := ((D.2.2.2.2.1 _ (show (s.2.1 (an s.2.1 h (k + 1))).1 < 6 by omega)).2.2.2.2.1 m1).2 (2 * x + 1) (by omega)
    have e : I0 348 (6 * (s.2.1 (an s.2.1 h (k + 1))).1 + (2 * x + 1)) = I0 (13 + 7 * (s.2.1 (an s.2.1 h (k + 1))).1) (2 * x + 1) := e
    rw [← Nat.add_assoc] at e
    rw [e, lo _ (by omega)]
  · have j12 : j < 12 := by omega
    unfold bkM bk
    rw [w2, if_neg (n_1j0 j12), if_neg (n_1j0 j12), iN_1 j12, H.1 353 (by omega) (by omega) (by omega) (by omega), H.1 351 (by omega) (by omega) (by omega) (by omega)]
    obtain ⟨a1, a2, a3, -⟩ := D.2.2.2.2.2.1 j j12
    have e : I0 351 (6 * j + 2 * x) = I0 (53 + 6 * j) (2 * x) := a3 w1 (2 * x) (by omega)
    rw [e, (a1 x hx).2, lo (56 + 6 * j) (by omega), lo (53 + 6 * j) (by omega)]
    by_cases q : I (56 + 6 * j) x = nI 0
    · rw [if_pos q, if_pos q]
      exact mxI_of_ge (i_trans (ch_keep hx w4 q) ge)
    · rw [if_neg q, if_neg q]
theorem x_ms {I I0 : fI} (D : RD I0 mc jc lim sm fj tj) (R : RM I0 s 64) (lo : ∀ o, o < 123 → I0 o = I o) (V : INV mc jc fj tj (fun j f => rS3 I j (tj j) f) s) (C : CH s h len) (N : ∀ k, k < len → (s.2.1 (an s.2.1 h k)).2.2.2.2.2 = false) (hl : len ≤ 64) : ∀ (j k : Nat) (J : fI) (a3 : Option Value), k + j = len → HS I0 J → J 346 27 = nI k → (k < len → ∀ x, x < 3 → J 357 (2 * x) = val I s h x k) → ∃ J' : fI, HS I0 J' ∧ J' 346 27 = nI len ∧ WD I J' s h k len ∧ (∀ u q, u < k → q < 4 → J' 365 (4 * u + q) = J 365 (4 * u + q)) ∧ (∀ u, u < k → J' 366 u = J 366 u) ∧ ∀ (d : Nat) (Q : Option Value × jW → Prop), Wp (d + 2) 152 29 [some (.ref 346), some (.int (oA s h len k)), some (.int (nI 1)), a3] [] (f_W xs J L) Q = Q (some (.int (nI 1)), f_W xs J' L) := by
  intro j
  induction j with
  | zero =>
    intro k J a3 hk H hs hv
    have hk : k = len := by omega
    subst hk
    refine ⟨J, H, hs, fun u h1 h2 => by omega, fun _ _ _ _ => rfl, fun _ _ => rfl, fun d Q => ?_⟩
    rw [show oA s h k k = -4 by unfold oA; rw [if_neg (by omega)], w152_29]
    simp only [w152_30, w152_32, w152_150, w152_151, eq_self, Nat.zero_le, n_lt, n_le, n_eq, n_neg, n_cl, n_mul, n_add, z_0, z_1, z_2, sc_0, sc_i, sc_r, sc_l, sc_n, jc_n, jc_i, jc_r, jc_l, Option.toList_some, Option.toList_none, List.cons_append, List.nil_append, Nat.reduceLT, Nat.reduceLeDiff, Nat.reduceMul, Nat.reduceAdd, Nat.reduceSub, Nat.reduceEqDiff, not_false_eq_true, not_true_eq_false, false_or, or_false, true_or, or_true, false_imp_iff, true_imp_iff, and_true, true_and, forall_const, false_implies, true_implies, b_t0, b_f0]
  | succ j ih =>
    intro k J a3 hk H hs hv
    have hk2 : k < len := by omega
    have hv := hv hk2
    have v0 : J 357 0 = val I s h 0 k := hv 0 (by omega)
    have v1 : J 357 2 = val I s h 1 k := hv 1 (by omega)
    have v2 : J 357 4 = val I s h 2 k := hv 2 (by omega)
    have n64 := R.1
    have ak := C.2.2.1 k hk2
    have RJ := RM_hs R H.1 H.2
    obtain ⟨g1, g2, g3, g4, g5, g6⟩ := RJ.2.2.2.2.2.1 _ ak
    have eo : oA s h len k = nI (an s.2.1 h k) := by unfold oA; rw [if_pos hk2]
    have e1 := oA_s C hk2
    rw [← g4] at e1
    have a1 : an s.2.1 h k < 2147483648 := by omega
    have a2 : ¬ 64 ≤ an s.2.1 h k := by omega
    have a3' : ¬ nI (an s.2.1 h k) = -4 := nI_ne4 (by omega)
    have k1 : k < 2147483648 := by omega
    have k2 : ¬ 64 ≤ k := by omega
    have t0 : 4 * k < 2147483648 := by omega
    have t1 : 4 * k + 1 < 2147483648 := by omega
    have t2 : 4 * k + 1 + 1 < 2147483648 := by omega
    have t3 : 4 * k + 1 + 2 < 2147483648 := by omega
    have u0 : ¬ 256 ≤ 4 * k := by omega
    have u1 : ¬ 256 ≤ 4 * k + 1 := by omega
    have u2 : ¬ 256 ≤ 4 * k + 1 + 1 := by omega
    have u3 : ¬ 256 ≤ 4 * k + 1 + 2 := by omega
    have n1 : (346 : Nat) ≠ 365 := by omega
    have n2 : (357 : Nat) ≠ 365 := by omega
    have n3 : (361 : Nat) ≠ 365 := by omega
    have n4 : (346 : Nat) ≠ 366 := by omega
    have n5 : (360 : Nat) ≠ 366 := by omega
    have n6 : (360 : Nat) ≠ 365 := by omega
    have n7 : (361 : Nat) ≠ 366 := by omega
    have c0 := n_cl (show 0 < 2147483648 by decide)
    have c2 := n_cl (show 2 < 2147483648 by decide)
    have c4 := n_cl (show 4 < 2147483648 by decide)
    have d0 := n_neg (show 0 < 2147483648 by decide)
    have d2 := n_neg (show 2 < 2147483648 by decide)
    have d4 := n_neg (show 4 < 2147483648 by decide)
    obtain ⟨p1, p2, p3, p4, p5, p6, p7⟩ := rcI_at (J := J) (k := k) (e := s.2.1 (an s.2.1 h k))
    have HR := rcI_HS (k := k) (e := s.2.1 (an s.2.1 h k)) H
    have rsteps : rcI J k (s.2.1 (an s.2.1 h k)) 346 27 = nI k := by
      unfold rcI
      rw [f_up_ne n4, f_up_ne n1, f_up_ne n1, f_up_ne n1, f_up_ne n1]
      exact hs
    -- the steps that write the state down
    have wr : ∀ (d : Nat) (Q : Option Value × jW → Prop), Wp (d + 2) 152 29 [some (.ref 346), some (.int (nI (an s.2.1 h k))), some (.int (nI 1)), a3] [] (f_W xs J L) Q = Wp (d + 2) 152 110 [some (.ref 346), some (.int (nI (an s.2.1 h k))), some (.int (nI 1)), some (.int (oA s h len (k + 1)))] [] (f_W xs (rcI J k (s.2.1 (an s.2.1 h k))) L) Q := by
      intro d Q
      rw [w152_29]
      simp only [w152_30, w152_32, w152_35, w152_36, w152_39, w152_40, w152_41, w152_44, w152_45, w152_46, w152_49, w152_50, w152_51, w152_52, w152_53, w152_54, w152_55, w152_56, w152_59, w152_60, w152_63, w152_64, w152_65, w152_68, w152_69, w152_70, w152_71, w152_72, w152_73, w152_74, w152_77, w152_78, w152_79, w152_80, w152_81, w152_82, w152_85, w152_88, w152_89, w152_92, w152_93, w152_96, w152_97, w152_100, w152_101, w152_102, w152_103, w152_104, w152_107, w152_108, w152_109, eq_self, Nat.zero_le, n_lt, n_le, n_eq, n_neg, n_cl, n_mul, n_add, z_0, z_1, z_2, sc_0, sc_i, sc_r, sc_l, sc_n, jc_n, jc_i, jc_r, jc_l, Option.toList_some, Option.toList_none, List.cons_append, List.nil_append, Nat.reduceLT, Nat.reduceLeDiff, Nat.reduceMul, Nat.reduceAdd, Nat.reduceSub, Nat.reduceEqDiff, not_false_eq_true, not_true_eq_false, false_or, or_false, true_or, or_true, false_imp_iff, true_imp_iff, and_true, true_and, forall_const, false_implies, true_implies, b_t0, b_f0, tg_1, rf_1_0, rf_1_1, rf_1_2, rf_1_3, rf_1_4, rf_1_5, rf_1_6, tg_2, rf_2_0, rf_2_1, rf_2_2, rf_2_3, tg_3, ln_3, tg_4, ln_4, tg_5, rf_5_0, tg_6, ln_6, tg_7, rf_7_0, tg_8, ln_8, tg_123, rf_123_0, rf_123_1, rf_123_2, rf_123_3, rf_123_4, tg_124, ln_124, tg_125, rf_125_0, tg_126, ln_126, tg_127, rf_127_0, tg_128, ln_128, tg_129, ln_129, tg_322, rf_322_0, rf_322_1, rf_322_2, rf_322_3, tg_323, ln_323, tg_324, ln_324, tg_325, rf_325_0, rf_325_1, rf_325_2, tg_326, rf_326_0, tg_327, ln_327, tg_328, rf_328_0, tg_329, ln_329, tg_330, rf_330_0, rf_330_1, rf_330_2, tg_331, rf_331_0, tg_332, ln_332, tg_333, rf_333_0, tg_334, ln_334, tg_335, ln_335, tg_336, rf_336_0, tg_337, ln_337, tg_339, ln_339, tg_346, rf_346_1, rf_346_2, rf_346_4, rf_346_5, rf_346_6, rf_346_7, rf_346_8, rf_346_11, rf_346_13, rf_346_14, rf_346_15, rf_346_17, rf_346_18, rf_346_19, rf_346_20, rf_346_21, rf_346_22, rf_346_26, rf_346_28, rf_346_29, rf_346_32, rf_346_34, rf_346_35, rf_346_36, tg_347, ln_347, tg_348, ln_348, tg_349, ln_349, tg_350, ln_350, tg_351, ln_351, tg_352, ln_352, tg_353, ln_353, tg_354, ln_354, tg_355, ln_355, tg_356, ln_356, tg_357, ln_357, tg_358, ln_358, tg_359, ln_359, tg_360, ln_360, tg_361, ln_361, tg_362, ln_362, tg_363, ln_363, tg_364, ln_364, tg_365, ln_365, tg_366, ln_366, tg_367, ln_367, tg_368, ln_368, tg_369, ln_369, tg_370, ln_370, Nat.add_zero, a3', hs, n_cl a1, n_neg a1, a2, g1, n_cl t0, n_neg t0, u0, n_cl t1, n_neg t1, u1, n_cl t2, n_neg t2, u2, n_cl t3, n_neg t3, u3, f_up_ne n1, f_up_ne n2, f_up_ne n3, c0, c2, c4, d0, d2, d4, n_cl k1, n_neg k1, k2, g5, f_up_ne n5, f_up_ne n6, e1]
      rfl
    by_cases q : k + 1 < len
    · have ak1 := C.2.2.1 (k + 1) q
      have eo1 : oA s h len (k + 1) = nI (an s.2.1 h (k + 1)) := by unfold oA; rw [if_pos q]
      have RR := RM_hs R HR.1 HR.2
      have hb : (s.2.1 (an s.2.1 h k)).2.2.2.1 = nI 0 ∨ ∃ j, j < 12 ∧ (s.2.1 (an s.2.1 h k)).2.2.2.1 = nI (1 + j) ∧ ∀ x, x < 3 → isB (rcI J k (s.2.1 (an s.2.1 h k)) 353 (3 * j + x)) := by
        rcases ch_how V C N q with w | ⟨j, w1, w2, -⟩
        · exact Or.inl w
        · have j12 : j < 12 := by have := D.1.2.2.2.1; omega
          refine Or.inr ⟨j, j12, w2, fun x hx => ?_⟩
          rw [HR.1 353 (by omega) (by omega) (by omega) (by omega), ((D.2.2.2.2.2.1 j j12).1 x hx).2]
          exact ((D.2.2.2.2.2.1 j j12).1 x hx).1
      obtain ⟨g', B1, B2⟩ := sp_back (xs := xs) (L := L) RR (st := 4 * k + 1) ak1 (by omega) hb
      have nb : ¬ nI (an s.2.1 h (k + 1)) = -4 := nI_ne4 (by omega)
      have r361 : rcI J k (s.2.1 (an s.2.1 h k)) 361 (an s.2.1 h k) = (s.2.1 (an s.2.1 h k)).2.2.2.1 := by
        unfold rcI
        rw [f_up_ne n7, f_up_ne n3, f_up_ne n3, f_up_ne n3, f_up_ne n3]
        exact g5
      have H1 : HS I0 (f_up (f_wb (rcI J k (s.2.1 (an s.2.1 h k))) 356 g') 346 27 (nI (k + 1))) := by
        refine ⟨fun o h1 h2 h3 h4 => by rw [f_up_ne h1, f_wb_ne (by omega)]; exact HR.1 o h1 h2 h3 h4, fun q hq => ?_⟩
        rw [f_up_at, if_neg (fun r => hq r.2), f_wb_ne (by omega)]
        exact HR.2 q hq
      obtain ⟨J', f1, f2, f3, f4, f5, E⟩ := ih (k + 1) (f_up (f_wb (rcI J k (s.2.1 (an s.2.1 h k))) 356 g') 346 27 (nI (k + 1))) (some (.int (nI (an s.2.1 h (k + 1))))) (by omega) H1 f_up_eq (fun _ x hx => by
        rw [f_up_ne (by omega), show f_wb (rcI J k (s.2.1 (an s.2.1 h k))) 356 g' 357 = g' from f_wb_eq (b := 356), B1 x hx, ← bk_eq D lo HR V C N q hx]
        congr 1
        have hx : x = 0 ∨ x = 1 ∨ x = 2 := by omega
        rcases hx with rfl | rfl | rfl
        · rw [p2, v0]
        · rw [p3, v1]
        · rw [p4, v2])
      have keep : ∀ u p, u < k + 1 → p < 4 → J' 365 (4 * u + p) = rcI J k (s.2.1 (an s.2.1 h k)) 365 (4 * u + p) := fun u p hu hp => by
        rw [f4 u p hu hp, f_up_ne (by omega), f_wb_ne (by omega)]
      have keep2 : ∀ u, u < k + 1 → J' 366 u = rcI J k (s.2.1 (an s.2.1 h k)) 366 u := fun u hu => by
        rw [f5 u hu, f_up_ne (by omega), f_wb_ne (by omega)]
      refine ⟨J', f1, f2, fun u h1 h2 => ?_, fun u p hu hp => by rw [keep u p (by omega) hp, p6 u p hu hp], fun u hu => by rw [keep2 u (by omega), p7 u hu], fun d Q => ?_⟩
      · by_cases hq : u = k
        · subst hq
          refine ⟨?_, fun x hx => ?_, ?_⟩
          · have := keep u 0 (by omega) (by omega)
            rw [Nat.add_zero] at this
            rw [this, p1]
          · rw [Nat.add_assoc, keep u (1 + x) (by omega) (by omega), ← Nat.add_assoc]
            have hx : x = 0 ∨ x = 1 ∨ x = 2 := by omega
            rcases hx with rfl | rfl | rfl
            · rw [p2, v0]
            · rw [p3, v1]
            · rw [p4, v2]
          · rw [keep2 u (by omega), p5]
        · exact f3 u (by omega) h2
      · have n8 : (346 : Nat) ≠ 356 + 1 := by omega
        rw [eo, wr, eo1, ← E d Q, eo1]
        simp only [w152_110, w152_111, w152_113, w152_116, w152_117, w152_118, w152_119, w152_122, w152_123, w152_124, w152_125, w152_126, w152_129, w152_130, w152_131, w152_132, w152_135, w152_136, w152_136r, w152_137, w152_140, w152_141, w152_142, w152_145, w152_146, w152_147, eq_self, Nat.zero_le, n_lt, n_le, n_eq, n_neg, n_cl, n_mul, n_add, z_0, z_1, z_2, sc_0, sc_i, sc_r, sc_l, sc_n, jc_n, jc_i, jc_r, jc_l, Option.toList_some, Option.toList_none, List.cons_append, List.nil_append, Nat.reduceLT, Nat.reduceLeDiff, Nat.reduceMul, Nat.reduceAdd, Nat.reduceSub, Nat.reduceEqDiff, not_false_eq_true, not_true_eq_false, false_or, or_false, true_or, or_true, false_imp_iff, true_imp_iff, and_true, true_and, forall_const, false_implies, true_implies, b_t0, b_f0, tg_1, rf_1_0, rf_1_1, rf_1_2, rf_1_3, rf_1_4, rf_1_5, rf_1_6, tg_2, rf_2_0, rf_2_1, rf_2_2, rf_2_3, tg_3, ln_3, tg_4, ln_4, tg_5, rf_5_0, tg_6, ln_6, tg_7, rf_7_0, tg_8, ln_8, tg_123, rf_123_0, rf_123_1, rf_123_2, rf_123_3, rf_123_4, tg_124, ln_124, tg_125, rf_125_0, tg_126, ln_126, tg_127, rf_127_0, tg_128, ln_128, tg_129, ln_129, tg_322, rf_322_0, rf_322_1, rf_322_2, rf_322_3, tg_323, ln_323, tg_324, ln_324, tg_325, rf_325_0, rf_325_1, rf_325_2, tg_326, rf_326_0, tg_327, ln_327, tg_328, rf_328_0, tg_329, ln_329, tg_330, rf_330_0, rf_330_1, rf_330_2, tg_331, rf_331_0, tg_332, ln_332, tg_333, rf_333_0, tg_334, ln_334, tg_335, ln_335, tg_336, rf_336_0, tg_337, ln_337, tg_339, ln_339, tg_346, rf_346_1, rf_346_2, rf_346_4, rf_346_5, rf_346_6, rf_346_7, rf_346_8, rf_346_11, rf_346_13, rf_346_14, rf_346_15, rf_346_17, rf_346_18, rf_346_19, rf_346_20, rf_346_21, rf_346_22, rf_346_26, rf_346_28, rf_346_29, rf_346_32, rf_346_34, rf_346_35, rf_346_36, tg_347, ln_347, tg_348, ln_348, tg_349, ln_349, tg_350, ln_350, tg_351, ln_351, tg_352, ln_352, tg_353, ln_353, tg_354, ln_354, tg_355, ln_355, tg_356, ln_356, tg_357, ln_357, tg_358, ln_358, tg_359, ln_359, tg_360, ln_360, tg_361, ln_361, tg_362, ln_362, tg_363, ln_363, tg_364, ln_364, tg_365, ln_365, tg_366, ln_366, tg_367, ln_367, tg_368, ln_368, tg_369, ln_369, tg_370, ln_370, nb, n_cl a1, n_neg a1, a2, r361, rsteps, B2, f_wb_ne n8]
    · have hkl : k + 1 = len := by omega
      have eo1 : oA s h len (k + 1) = -4 := by unfold oA; rw [if_neg q]
      have H1 : HS I0 (f_up (rcI J k (s.2.1 (an s.2.1 h k))) 346 27 (nI (k + 1))) := by
        refine ⟨fun o h1 h2 h3 h4 => by rw [f_up_ne h1]; exact HR.1 o h1 h2 h3 h4, fun q hq => ?_⟩
        rw [f_up_at, if_neg (fun r => hq r.2)]
        exact HR.2 q hq
      obtain ⟨J', f1, f2, f3, f4, f5, E⟩ := ih (k + 1) (f_up (rcI J k (s.2.1 (an s.2.1 h k))) 346 27 (nI (k + 1))) (some (.int (-4))) (by omega) H1 f_up_eq (fun r => by omega)
      have keep : ∀ u p, u < k + 1 → p < 4 → J' 365 (4 * u + p) = rcI J k (s.2.1 (an s.2.1 h k)) 365 (4 * u + p) := fun u p hu hp => by
        rw [f4 u p hu hp, f_up_ne (by omega)]
      have keep2 : ∀ u, u < k + 1 → J' 366 u = rcI J k (s.2.1 (an s.2.1 h k)) 366 u := fun u hu => by
        rw [f5 u hu, f_up_ne (by omega)]
      refine ⟨J', f1, f2, fun u h1 h2 => ?_, fun u p hu hp => by rw [keep u p (by omega) hp, p6 u p hu hp], fun u hu => by rw [keep2 u (by omega), p7 u hu], fun d Q => ?_⟩
      · have hq : u = k := by omega
        subst hq
        refine ⟨?_, fun x hx => ?_, ?_⟩
        · have := keep u 0 (by omega) (by omega)
          rw [Nat.add_zero] at this
          rw [this, p1]
        · rw [Nat.add_assoc, keep u (1 + x) (by omega) (by omega), ← Nat.add_assoc]
          have hx : x = 0 ∨ x = 1 ∨ x = 2 := by omega
          rcases hx with rfl | rfl | rfl
          · rw [p2, v0]
          · rw [p3, v1]
          · rw [p4, v2]
        · rw [keep2 u (by omega), p5]
      · rw [eo, wr, eo1, ← E d Q, eo1]
        simp only [w152_110, w152_111, w152_113, w152_135, w152_136, w152_136r, w152_137, w152_140, w152_141, w152_142, w152_145, w152_146, w152_147, eq_self, Nat.zero_le, n_lt, n_le, n_eq, n_neg, n_cl, n_mul, n_add, z_0, z_1, z_2, sc_0, sc_i, sc_r, sc_l, sc_n, jc_n, jc_i, jc_r, jc_l, Option.toList_some, Option.toList_none, List.cons_append, List.nil_append, Nat.reduceLT, Nat.reduceLeDiff, Nat.reduceMul, Nat.reduceAdd, Nat.reduceSub, Nat.reduceEqDiff, not_false_eq_true, not_true_eq_false, false_or, or_false, true_or, or_true, false_imp_iff, true_imp_iff, and_true, true_and, forall_const, false_implies, true_implies, b_t0, b_f0, tg_1, rf_1_0, rf_1_1, rf_1_2, rf_1_3, rf_1_4, rf_1_5, rf_1_6, tg_2, rf_2_0, rf_2_1, rf_2_2, rf_2_3, tg_3, ln_3, tg_4, ln_4, tg_5, rf_5_0, tg_6, ln_6, tg_7, rf_7_0, tg_8, ln_8, tg_123, rf_123_0, rf_123_1, rf_123_2, rf_123_3, rf_123_4, tg_124, ln_124, tg_125, rf_125_0, tg_126, ln_126, tg_127, rf_127_0, tg_128, ln_128, tg_129, ln_129, tg_322, rf_322_0, rf_322_1, rf_322_2, rf_322_3, tg_323, ln_323, tg_324, ln_324, tg_325, rf_325_0, rf_325_1, rf_325_2, tg_326, rf_326_0, tg_327, ln_327, tg_328, rf_328_0, tg_329, ln_329, tg_330, rf_330_0, rf_330_1, rf_330_2, tg_331, rf_331_0, tg_332, ln_332, tg_333, rf_333_0, tg_334, ln_334, tg_335, ln_335, tg_336, rf_336_0, tg_337, ln_337, tg_339, ln_339, tg_346, rf_346_1, rf_346_2, rf_346_4, rf_346_5, rf_346_6, rf_346_7, rf_346_8, rf_346_11, rf_346_13, rf_346_14, rf_346_15, rf_346_17, rf_346_18, rf_346_19, rf_346_20, rf_346_21, rf_346_22, rf_346_26, rf_346_28, rf_346_29, rf_346_32, rf_346_34, rf_346_35, rf_346_36, tg_347, ln_347, tg_348, ln_348, tg_349, ln_349, tg_350, ln_350, tg_351, ln_351, tg_352, ln_352, tg_353, ln_353, tg_354, ln_354, tg_355, ln_355, tg_356, ln_356, tg_357, ln_357, tg_358, ln_358, tg_359, ln_359, tg_360, ln_360, tg_361, ln_361, tg_362, ln_362, tg_363, ln_363, tg_364, ln_364, tg_365, ln_365, tg_366, ln_366, tg_367, ln_367, tg_368, ln_368, tg_369, ln_369, tg_370, ln_370, rsteps]
theorem RM_self {I : fI} (R : RM I s 64) (m : ∀ i, i < s.1 → (s.2.1 i).1 < mc) : gE mc s s := ⟨rfl, fun i hi => ⟨m i hi, rfl, E6.rf, rfl⟩, rfl⟩
/-- the reference's layShown, where there is a run -/
theorem sp_layShown {I I1 : fI} (h1 : RD I1 mc jc lim sm fj tj) (lo : ∀ o, o < 123 → I1 o = I o) (V : INV mc jc fj tj (fun j f => rS3 I j (tj j) f) s) (g1 : gE mc s (MG I1 mc jc lim sm fj tj)) (hf : fi (pX I s) s.1 0 = some h) (C : CH s h len) (N : ∀ k, k < len → (s.2.1 (an s.2.1 h k)).2.2.2.2.2 = false) (hl : len ≤ 64) : ∃ I2 J' : fI, RD I2 mc jc lim sm fj tj ∧ MW I1 I2 ∧ HS I2 J' ∧ J' 346 27 = nI len ∧ WD I J' s h 0 len ∧ ∀ (d : Nat) (Q : Option Value × jW → Prop), Wp (d + 5) 152 0 [some (.ref 346), none, none, none] [] (f_W xs I1 L) Q = Q (some (.int (nI 1)), f_W xs J' L) := by
  obtain ⟨I2, h2, R2, W2, E2⟩ := q_M (xs := xs) (L := L) h1
  have R3 : RM I2 s 64 := RM_gE R2 (gE_sy g1)
  have lo2 : ∀ o, o < 123 → I2 o = I o := fun o ho => by rw [W2.1 o (by omega) (by omega)]; exact lo o ho
  have tj6 : ∀ j, j < jc → tj j < 6 := fun j hj => (h1.1.2.2.2.2.1 j hj).2.2.2.1
  have jc12 := h1.1.2.2.2.1
  have V2 : INV mc jc fj tj (fun j f => rS3 I2 j (tj j) f) s := INV_w V tj6 jc12 lo2
  have gs : gE mc s s := ⟨rfl, fun i hi => ⟨(V.2 i hi).1, rfl, E6.rf, rfl⟩, rfl⟩
  have oG := INV_OG V
  have hh := (fi_lt hf)
  have hs : h < s.1 := by omega
  have n64 := R3.1
  have ep : ∀ i, i < s.1 → pM I2 s i = pX I s i := fun i hi => by
    unfold pM pX
    rw [← met_eq h2 (gs.2.1 i hi) (V.2 i hi).2.1, lo2 2 (by omega), lo2 8 (by omega)]
  have ef : fi (pM I2 s) s.1 0 = some h := by
    rw [← hf]
    exact fi_congr s.1 0 s.1 (by omega) ep
  have hv : vM I2 s = 0 := by
    unfold vM
    rw [ef]
    have pm := (fi_lt ef).2
    have hx : exB (fun h => metM (I2 346 10) (sl I2 354 6) (s.2.1 h)) s.1 = true := by
      have hi : metM (I2 346 10) (sl I2 354 6) (s.2.1 h) = true := by
        unfold pM at pm
        exact (Bool.and_eq_true_iff.mp pm).2
      have : ∀ (p : Nat → Bool) n i, i < n → p i = true → exB p n = true := by
        intro p n
        induction n with
        | zero => intro i hi; omega
        | succ n ih =>
          intro i hi hp
          unfold exB
          by_cases q : i = n
          · rw [← q, hp, Bool.or_true]
          · rw [ih i (by omega) hp, Bool.true_or]
      exact this _ _ h hs hi
    simp [hx]
  obtain ⟨ga, Ea⟩ := sp_judged (xs := xs) (L := L) oG R3
  rw [hv] at Ea
  have R4 : RM (f_wb I2 356 ga) s 64 := RM_made R3
  obtain ⟨gb, Eb⟩ := sp_mshown (xs := xs) (L := L) oG R4
  rw [show pM (f_wb I2 356 ga) s = pM I2 s from funext fun _ => pM_wb, ef, f_wb_wb, oI_v] at Eb
  have R5 : RM (f_wb I2 356 gb) s 64 := RM_made R3
  have Ec := fun (d : Nat) (Q : Option Value × jW → Prop) => sp_mMet (d := d) (xs := xs) (L := L) (Q := Q) R5 hs
  have met : metM (I2 346 10) (sl I2 354 6) (s.2.1 h) = true := by
    have pm := (fi_lt ef).2
    unfold pM at pm
    exact (Bool.and_eq_true_iff.mp pm).2
  rw [f_wb_wb, f_wb_ne (by omega), sl_wb (by omega), sl_wb (by omega), met] at Ec
  generalize hgm : bMeet (sl I2 359 (6 * h)) (sl I2 354 6) = gm at Ec
  have H0 : HS I2 (f_up (f_wb I2 356 gm) 346 27 (nI 0)) := by
    refine ⟨fun o h1 h2 h3 h4 => by rw [f_up_ne h1, f_wb_ne (by omega)], fun q hq => ?_⟩
    rw [f_up_at, if_neg (fun r => hq r.2), f_wb_ne (by omega)]
  obtain ⟨a1, a2, a3, a4, a5, a6⟩ := R3.2.2.2.2.2.1 h hs
  obtain ⟨J', f1, f2, f3, -, -, E⟩ := x_ms (xs := xs) (L := L) (I := I) h2 R3 lo2 V C N hl len 0 (f_up (f_wb I2 356 gm) 346 27 (nI 0)) none (by omega) H0 f_up_eq (fun _ x hx => by
    rw [f_up_ne (by omega), show f_wb I2 356 gm 357 = gm from f_wb_eq (b := 356), ← hgm, even_mx]
    show mxI (I2 359 (6 * h + 2 * x)) (I2 354 (6 + 2 * x)) = mxI ((s.2.1 h).2.1 (2 * x)) (I 8 (2 * x))
    rw [a3 (2 * x) (by omega), show I2 354 (6 + 2 * x) = I2 8 (2 * x) from h2.2.2.1.2.2.2.2.2.2.1 (2 * x) (by omega), lo2 8 (by omega)])
  have e0 : oA s h len 0 = nI h := by unfold oA; rw [if_pos (show 0 < len from C.1)]; rfl
  rw [e0] at E
  refine ⟨I2, J', h2, W2, f1, f2, f3, fun d Q => ?_⟩
  rw [← E (d + 3) Q]
  simp only [w152_0, w152_1, w152_4, w152_5, w152_8, w152_13, w152_14, w152_17, w152_18, w152_19, w152_20, w152_23, w152_24, w152_25, w152_26, eq_self, Nat.zero_le, n_lt, n_le, n_eq, n_neg, n_cl, n_mul, n_add, z_0, z_1, z_2, sc_0, sc_i, sc_r, sc_l, sc_n, jc_n, jc_i, jc_r, jc_l, Option.toList_some, Option.toList_none, List.cons_append, List.nil_append, Nat.reduceLT, Nat.reduceLeDiff, Nat.reduceMul, Nat.reduceAdd, Nat.reduceSub, Nat.reduceEqDiff, not_false_eq_true, not_true_eq_false, false_or, or_false, true_or, or_true, false_imp_iff, true_imp_iff, and_true, true_and, forall_const, false_implies, true_implies, b_t0, b_f0, tg_1, rf_1_0, rf_1_1, rf_1_2, rf_1_3, rf_1_4, rf_1_5, rf_1_6, tg_2, rf_2_0, rf_2_1, rf_2_2, rf_2_3, tg_3, ln_3, tg_4, ln_4, tg_5, rf_5_0, tg_6, ln_6, tg_7, rf_7_0, tg_8, ln_8, tg_123, rf_123_0, rf_123_1, rf_123_2, rf_123_3, rf_123_4, tg_124, ln_124, tg_125, rf_125_0, tg_126, ln_126, tg_127, rf_127_0, tg_128, ln_128, tg_129, ln_129, tg_322, rf_322_0, rf_322_1, rf_322_2, rf_322_3, tg_323, ln_323, tg_324, ln_324, tg_325, rf_325_0, rf_325_1, rf_325_2, tg_326, rf_326_0, tg_327, ln_327, tg_328, rf_328_0, tg_329, ln_329, tg_330, rf_330_0, rf_330_1, rf_330_2, tg_331, rf_331_0, tg_332, ln_332, tg_333, rf_333_0, tg_334, ln_334, tg_335, ln_335, tg_336, rf_336_0, tg_337, ln_337, tg_339, ln_339, tg_346, rf_346_1, rf_346_2, rf_346_4, rf_346_5, rf_346_6, rf_346_7, rf_346_8, rf_346_11, rf_346_13, rf_346_14, rf_346_15, rf_346_17, rf_346_18, rf_346_19, rf_346_20, rf_346_21, rf_346_22, rf_346_26, rf_346_28, rf_346_29, rf_346_32, rf_346_34, rf_346_35, rf_346_36, tg_347, ln_347, tg_348, ln_348, tg_349, ln_349, tg_350, ln_350, tg_351, ln_351, tg_352, ln_352, tg_353, ln_353, tg_354, ln_354, tg_355, ln_355, tg_356, ln_356, tg_357, ln_357, tg_358, ln_358, tg_359, ln_359, tg_360, ln_360, tg_361, ln_361, tg_362, ln_362, tg_363, ln_363, tg_364, ln_364, tg_365, ln_365, tg_366, ln_366, tg_367, ln_367, tg_368, ln_368, tg_369, ln_369, tg_370, ln_370, E2, Ea, i_z0, Eb, Ec, b2_t]
/-- .. where there is none -/
theorem sp_layShown0 {I I1 : fI} (h1 : RD I1 mc jc lim sm fj tj) (lo : ∀ o, o < 123 → I1 o = I o) (V : INV mc jc fj tj (fun j f => rS3 I j (tj j) f) s) (g1 : gE mc s (MG I1 mc jc lim sm fj tj)) (hf : fi (pX I s) s.1 0 = none) : ∃ J' : fI, RD J' mc jc lim sm fj tj ∧ MW I1 J' ∧ ∀ (d : Nat) (Q : Option Value × jW → Prop), Wp (d + 5) 152 0 [some (.ref 346), none, none, none] [] (f_W xs I1 L) Q = Q (some (.int (nI 0)), f_W xs J' L) := by
  obtain ⟨I2, h2, R2, W2, E2⟩ := q_M (xs := xs) (L := L) h1
  have R3 : RM I2 s 64 := RM_gE R2 (gE_sy g1)
  have lo2 : ∀ o, o < 123 → I2 o = I o := fun o ho => by rw [W2.1 o (by omega) (by omega)]; exact lo o ho
  have gs : gE mc s s := ⟨rfl, fun i hi => ⟨(V.2 i hi).1, rfl, E6.rf, rfl⟩, rfl⟩
  have oG := INV_OG V
  have ep : ∀ i, i < s.1 → pM I2 s i = pX I s i := fun i hi => by
    unfold pM pX
    rw [← met_eq h2 (gs.2.1 i hi) (V.2 i hi).2.1, lo2 2 (by omega), lo2 8 (by omega)]
  have ef : fi (pM I2 s) s.1 0 = none := by
    rw [← hf]
    exact fi_congr s.1 0 s.1 (by omega) ep
  have hv : ¬ vM I2 s = nI 0 := by
    unfold vM
    rw [ef]
    show ¬ (if s.2.2.2 = false ∧ exB (fun h => metM (I2 346 10) (sl I2 354 6) (s.2.1 h)) s.1 = false then 1 else if exB (fun h => metM (I2 346 10) (sl I2 354 6) (s.2.1 h)) s.1 = true then -5 else -6) = nI 0
    split
    · decide
    · split
      · decide
      · decide
  obtain ⟨ga, Ea⟩ := sp_judged (xs := xs) (L := L) oG R3
  refine ⟨f_wb I2 356 ga, RD_fr h2 MW_made.FR, W2.tr MW_made, fun d Q => ?_⟩
  simp only [w152_0, w152_1, w152_4, w152_5, w152_8, w152_11, w152_12, eq_self, Nat.zero_le, n_lt, n_le, n_eq, n_neg, n_cl, n_mul, n_add, z_0, z_1, z_2, sc_0, sc_i, sc_r, sc_l, sc_n, jc_n, jc_i, jc_r, jc_l, Option.toList_some, Option.toList_none, List.cons_append, List.nil_append, Nat.reduceLT, Nat.reduceLeDiff, Nat.reduceMul, Nat.reduceAdd, Nat.reduceSub, Nat.reduceEqDiff, not_false_eq_true, not_true_eq_false, false_or, or_false, true_or, or_true, false_imp_iff, true_imp_iff, and_true, true_and, forall_const, false_implies, true_implies, b_t0, b_f0, tg_1, rf_1_0, rf_1_1, rf_1_2, rf_1_3, rf_1_4, rf_1_5, rf_1_6, tg_2, rf_2_0, rf_2_1, rf_2_2, rf_2_3, tg_3, ln_3, tg_4, ln_4, tg_5, rf_5_0, tg_6, ln_6, tg_7, rf_7_0, tg_8, ln_8, tg_123, rf_123_0, rf_123_1, rf_123_2, rf_123_3, rf_123_4, tg_124, ln_124, tg_125, rf_125_0, tg_126, ln_126, tg_127, rf_127_0, tg_128, ln_128, tg_129, ln_129, tg_322, rf_322_0, rf_322_1, rf_322_2, rf_322_3, tg_323, ln_323, tg_324, ln_324, tg_325, rf_325_0, rf_325_1, rf_325_2, tg_326, rf_326_0, tg_327, ln_327, tg_328, rf_328_0, tg_329, ln_329, tg_330, rf_330_0, rf_330_1, rf_330_2, tg_331, rf_331_0, tg_332, ln_332, tg_333, rf_333_0, tg_334, ln_334, tg_335, ln_335, tg_336, rf_336_0, tg_337, ln_337, tg_339, ln_339, tg_346, rf_346_1, rf_346_2, rf_346_4, rf_346_5, rf_346_6, rf_346_7, rf_346_8, rf_346_11, rf_346_13, rf_346_14, rf_346_15, rf_346_17, rf_346_18, rf_346_19, rf_346_20, rf_346_21, rf_346_22, rf_346_26, rf_346_28, rf_346_29, rf_346_32, rf_346_34, rf_346_35, rf_346_36, tg_347, ln_347, tg_348, ln_348, tg_349, ln_349, tg_350, ln_350, tg_351, ln_351, tg_352, ln_352, tg_353, ln_353, tg_354, ln_354, tg_355, ln_355, tg_356, ln_356, tg_357, ln_357, tg_358, ln_358, tg_359, ln_359, tg_360, ln_360, tg_361, ln_361, tg_362, ln_362, tg_363, ln_363, tg_364, ln_364, tg_365, ln_365, tg_366, ln_366, tg_367, ln_367, tg_368, ln_368, tg_369, ln_369, tg_370, ln_370, E2, Ea, hv]
theorem HS.FR {I J : fI} (h : HS I J) : FR I J := ⟨fun o ho => h.1 o (by omega) (by omega) (by omega) (by omega), by rw [h.1 123 (by omega) (by omega) (by omega) (by omega)], fun k _ _ _ _ hk => h.2 k hk⟩
theorem TP.FR {I J : fI} (t : TP I J s h len) : FR I J := ⟨fun o ho => t.1 o (by omega) (by omega) (by omega), by rw [t.1 123 (by omega) (by omega) (by omega)], fun k _ _ _ _ _ => by rw [t.1 346 (by omega) (by omega) (by omega)]⟩
end SHOWN
