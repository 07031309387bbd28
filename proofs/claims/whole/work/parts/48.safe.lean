/-! safe -/
def Same (xs : List Value) (I : fI) (L : fL) (yX : Nat) (aX : jL) (yM : Nat) (aM : jL) : Prop := ∃ (v : Int32) (I1 I2 : fI) (L1 : fL), (∀ (d : Nat) (Q : Option Value × jW → Prop), Wp (d + 8) yX 0 aX [] (f_W xs I L) Q = Q (some (.int v), f_W xs I1 L1)) ∧ (∀ (d : Nat) (Q : Option Value × jW → Prop), Wp (d + 8) yM 0 aM [] (f_W xs I1 L1) Q = Q (some (.int v), f_W xs I2 L1)) ∧ Rel I2
theorem exB_congr {p p' : Nat → Bool} : ∀ n, (∀ i, i < n → p i = p' i) → exB p n = exB p' n := by
  intro n
  induction n with
  | zero => intro _; rfl
  | succ n ih =>
    intro h
    unfold exB
    rw [ih (fun i hi => h i (by omega)), h n (by omega)]
theorem fi_congr {p p' : Nat → Bool} : ∀ k i n, i + k = n → (∀ i, i < n → p i = p' i) → fi p k i = fi p' k i := by
  intro k
  induction k with
  | zero => intro i n _ _; rfl
  | succ k ih =>
    intro i n hn h
    unfold fi
    rw [ih (i + 1) n (by omega) h, h i (by omega)]
theorem sure_congr {mc : Nat} {s s' : gS} (g : gE mc s s') (hO : OG s) : ∀ n h, h < n → n ≤ s.1 → sure s.2.1 h = sure s'.2.1 h := by
  intro n
  have hO' : OG s' := by
    refine ⟨by rw [← g.1]; exact hO.1, fun i hi => ?_⟩
    obtain ⟨-, -, -, a⟩ := g.2.1 i (by have := g.1; omega)
    rw [← a]
    exact hO.2 i (by have := g.1; omega)
  induction n with
  | zero => intro h hh; omega
  | succ n ih =>
    intro h hh hn
    have h1 := sure_st hO (h := h) (by omega) true
    have h2 := sure_st hO' (h := h) (by have := g.1; omega) true
    obtain ⟨-, -, -, a⟩ := g.2.1 h (by omega)
    rw [Bool.true_and] at h1 h2
    rw [h1, h2, ← a]
    rcases hO.2 h (by omega) with e | ⟨o, e1, e2⟩
    · rw [if_pos e, if_pos e]
    · have o64 : o < 64 := by have := hO.1; omega
      rw [if_neg (by rw [e2]; exact nI_ne4 o64), if_neg (by rw [e2]; exact nI_ne4 o64), e2, iN_n o64, ih o (by omega) (by omega)]
section SAFE
variable {xs : List Value} {I : fI} {L : fL} {mc jc lim sm : Nat} {fj tj : Nat → Nat}
theorem met_eq (h : RD I mc jc lim sm fj tj) {e e' : gH} (g : hE mc e e') (hn : bEmp e.2.1 = false) : metX (I 2 7) (I 8) e = metM (I 346 10) (sl I 354 6) e' := by
  obtain ⟨-, -, ⟨-, -, -, w1, -, -, w2, w3⟩, -⟩ := h
  obtain ⟨g1, g2, g3, g4⟩ := g
  have hn' : bEmp e'.2.1 = false := by rw [← bEmp_congr g3]; exact hn
  have hw : bEmp (sl I 354 6) = false := by rw [bEmp_congr w2]; exact w3.2
  unfold metX metM
  rw [bTch_meet hn' hw, w1, g2, bTch_congr w2 g3.sy]
  congr 1
  exact decide_eq_decide.mpr ⟨fun h => h.symm, fun h => h.symm⟩
theorem v_eq (h : RD I mc jc lim sm fj tj) {G G' : gS} (g : gE mc G G') (hI : INV mc jc fj tj (fun j f => rS3 I j (tj j) f) G) : vX I G = vM I G' := by
  have hm : ∀ i, i < G.1 → metX (I 2 7) (I 8) (G.2.1 i) = metM (I 346 10) (sl I 354 6) (G'.2.1 i) := fun i hi => met_eq h (g.2.1 i hi) (hI.2 i hi).2.1
  have hp : ∀ i, i < G.1 → pX I G i = pM I G' i := fun i hi => by
    unfold pX pM
    rw [hm i hi, sure_congr g (INV_OG hI) G.1 i hi (Nat.le_refl _)]
  have e1 := exB_congr G.1 hm
  have e2 := fi_congr G.1 0 G.1 (by omega) hp
  unfold vX vM
  rw [← g.1, ← e2, ← e1, ← g.2.2]
  cases hf : fi (pX I G) G.1 0 with
  | some i =>
    obtain ⟨f1, f2⟩ := fi_lt hf
    have hx : exB (fun h => metX (I 2 7) (I 8) (G.2.1 h)) G.1 = true := by
      have hi : metX (I 2 7) (I 8) (G.2.1 i) = true := by
        unfold pX at f2
        exact (Bool.and_eq_true_iff.mp f2).2
      have : ∀ (p : Nat → Bool) n i, i < n → p i = true → exB p n = true := by
        intro p n
        induction n with
        | zero => intro i hi; omega
        | succ n ih =>
          intro i hi hp
          unfold exB
          by_cases q : i = n
          · rw [← q, hp, Bool.or_true]
          · rw [ih i (by omega) hp, Bool.true_or]
      exact this _ _ i (by omega) hi
    simp [hx]
  | none =>
    cases hx : exB (fun h => metX (I 2 7) (I 8) (G.2.1 h)) G.1 <;> cases hs : G.2.2.2 <;> simp
theorem RF_fr {I' : fI} (h : RD I mc jc lim sm fj tj) (f : RF I mc jc lim sm fj tj) (hs : ∀ o, o < 322 → o ≠ 126 → o ≠ 128 → I' o = I o) : RF I' mc jc lim sm fj tj := by
  rcases f with f | ⟨f, G, g1, g2, g3⟩
  · exact Or.inl (by rw [hs 123 (by omega) (by omega) (by omega)]; exact f)
  · refine Or.inr ⟨by rw [hs 123 (by omega) (by omega) (by omega)]; exact f, G, gE_tr g1 (XG_lo h (fun o ho => hs o (by omega) (by omega) (by omega))), ?_, ?_⟩
    · obtain ⟨r1, r2, r3, r4, r5, r6⟩ := g2
      have e := hs 123 (by omega) (by omega) (by omega)
      refine ⟨r1, by rw [e]; exact r2, r3, by rw [e]; exact r4, by rw [e]; exact r5, fun i hi => ?_⟩
      have g := r6 i hi
      unfold RH at g ⊢
      rw [hs (130 + 3 * i) (by omega) (by omega) (by omega), hs (132 + 3 * i) (by omega) (by omega) (by omega)]
      exact g
    · intro i hi
      have := g2.1
      rw [hs (130 + 3 * i) (by omega) (by omega) (by omega)]
      exact g3 i hi
theorem RF_w {I' : fI} (h : RD I mc jc lim sm fj tj) (f : RF I mc jc lim sm fj tj) (w : MW I I') : RF I' mc jc lim sm fj tj := RF_fr h f (fun o ho _ _ => w.1 o (by omega) (by omega))
theorem INV_w {I' : fI} {G : gS} (h : INV mc jc fj tj (fun j f => rS3 I j (tj j) f) G) (ht : ∀ j, j < jc → tj j < 6) (j12 : jc ≤ 12) (w : ∀ o, o < 123 → I' o = I o) : INV mc jc fj tj (fun j f => rS3 I' j (tj j) f) G := by
  refine INV_gE h ⟨rfl, fun i hi => ⟨(h.2 i hi).1, rfl, E6.rf, rfl⟩, rfl⟩ (fun j hj f f' hf => ?_)
  rw [rS3_lo w (by omega) (ht j hj)]
  exact BE_r3 (jc := jc) (tj := tj) j hj f f' hf
theorem same_safe (hR : Rel I) : Same xs I L 28 [some (.ref 1)] 127 [some (.ref 346)] := by
  obtain ⟨mc, jc, lim, sm, fj, tj, h, f⟩ := hR
  obtain ⟨G, I1, h1, f1, R1, U1, V1, g1, S1, F1, E1⟩ := q_X (xs := xs) (L := L) h f
  obtain ⟨I2, h2, R2, W2, E2⟩ := q_M (xs := xs) (L := L) h1
  have V2 : INV mc jc fj tj (fun j f => rS3 I2 j (tj j) f) G := INV_w V1 (fun j hj => (h1.1.2.2.2.2.1 j hj).2.2.2.1) h1.1.2.2.2.1 (fun o ho => W2.1 o (by omega) (by omega))
  have V3 : INV mc jc fj tj (fun j f => rS3 I2 j (tj j) f) (MG I1 mc jc lim sm fj tj) := INV_gE V2 g1 BE_r3
  obtain ⟨g, E3⟩ := sp_judged (xs := xs) (L := L) (INV_OG V3) R2
  have ev : vX I1 G = vM I2 (MG I1 mc jc lim sm fj tj) := by
    rw [← v_eq h2 g1 V2]
    unfold vX pX
    rw [W2.1 2 (by omega) (by omega), W2.1 8 (by omega) (by omega)]
  refine ⟨vX I1 G, I1, f_wb I2 356 g, L, fun d Q => ?_, fun d Q => ?_, mc, jc, lim, sm, fj, tj, RD_fr h2 MW_made.FR, RF_w h2 (RF_w h1 f1 W2) MW_made⟩
  · simp only [w28_0, w28_1, w28_4, w28_7, w28_8, w28_11, w28_14, eq_self, Nat.zero_le, n_lt, n_le, n_eq, n_neg, n_cl, n_mul, n_add, z_0, z_1, z_2, sc_0, sc_i, sc_r, sc_l, sc_n, jc_n, jc_i, jc_r, jc_l, Option.toList_some, Option.toList_none, List.cons_append, List.nil_append, Nat.reduceLT, Nat.reduceLeDiff, Nat.reduceMul, Nat.reduceAdd, Nat.reduceSub, Nat.reduceEqDiff, not_false_eq_true, not_true_eq_false, false_or, or_false, true_or, or_true, false_imp_iff, true_imp_iff, and_true, true_and, forall_const, false_implies, true_implies, b_t0, b_f0, tg_1, rf_1_0, rf_1_1, rf_1_2, rf_1_3, rf_1_4, rf_1_5, rf_1_6, tg_2, rf_2_0, rf_2_1, rf_2_2, rf_2_3, tg_3, ln_3, tg_4, ln_4, tg_5, rf_5_0, tg_6, ln_6, tg_7, rf_7_0, tg_8, ln_8, tg_123, rf_123_0, rf_123_1, rf_123_2, rf_123_3, rf_123_4, tg_124, ln_124, tg_125, rf_125_0, tg_126, ln_126, tg_127, rf_127_0, tg_128, ln_128, tg_129, ln_129, tg_322, rf_322_0, rf_322_1, rf_322_2, rf_322_3, tg_323, ln_323, tg_324, ln_324, tg_325, rf_325_0, rf_325_1, rf_325_2, tg_326, rf_326_0, tg_327, ln_327, tg_328, rf_328_0, tg_329, ln_329, tg_330, rf_330_0, rf_330_1, rf_330_2, tg_331, rf_331_0, tg_332, ln_332, tg_333, rf_333_0, tg_334, ln_334, tg_335, ln_335, tg_336, rf_336_0, tg_337, ln_337, tg_339, ln_339, tg_346, rf_346_1, rf_346_2, rf_346_4, rf_346_5, rf_346_6, rf_346_7, rf_346_8, rf_346_11, rf_346_13, rf_346_14, rf_346_15, rf_346_17, rf_346_18, rf_346_19, rf_346_20, rf_346_21, rf_346_22, rf_346_26, rf_346_28, rf_346_29, rf_346_32, rf_346_34, rf_346_35, rf_346_36, tg_347, ln_347, tg_348, ln_348, tg_349, ln_349, tg_350, ln_350, tg_351, ln_351, tg_352, ln_352, tg_353, ln_353, tg_354, ln_354, tg_355, ln_355, tg_356, ln_356, tg_357, ln_357, tg_358, ln_358, tg_359, ln_359, tg_360, ln_360, tg_361, ln_361, tg_362, ln_362, tg_363, ln_363, tg_364, ln_364, tg_365, ln_365, tg_366, ln_366, tg_367, ln_367, tg_368, ln_368, tg_369, ln_369, tg_370, ln_370, E1, sp_verdict R1 U1]
  · simp only [w127_0, w127_1, w127_4, w127_5, w127_8, eq_self, Nat.zero_le, n_lt, n_le, n_eq, n_neg, n_cl, n_mul, n_add, z_0, z_1, z_2, sc_0, sc_i, sc_r, sc_l, sc_n, jc_n, jc_i, jc_r, jc_l, Option.toList_some, Option.toList_none, List.cons_append, List.nil_append, Nat.reduceLT, Nat.reduceLeDiff, Nat.reduceMul, Nat.reduceAdd, Nat.reduceSub, Nat.reduceEqDiff, not_false_eq_true, not_true_eq_false, false_or, or_false, true_or, or_true, false_imp_iff, true_imp_iff, and_true, true_and, forall_const, false_implies, true_implies, b_t0, b_f0, tg_1, rf_1_0, rf_1_1, rf_1_2, rf_1_3, rf_1_4, rf_1_5, rf_1_6, tg_2, rf_2_0, rf_2_1, rf_2_2, rf_2_3, tg_3, ln_3, tg_4, ln_4, tg_5, rf_5_0, tg_6, ln_6, tg_7, rf_7_0, tg_8, ln_8, tg_123, rf_123_0, rf_123_1, rf_123_2, rf_123_3, rf_123_4, tg_124, ln_124, tg_125, rf_125_0, tg_126, ln_126, tg_127, rf_127_0, tg_128, ln_128, tg_129, ln_129, tg_322, rf_322_0, rf_322_1, rf_322_2, rf_322_3, tg_323, ln_323, tg_324, ln_324, tg_325, rf_325_0, rf_325_1, rf_325_2, tg_326, rf_326_0, tg_327, ln_327, tg_328, rf_328_0, tg_329, ln_329, tg_330, rf_330_0, rf_330_1, rf_330_2, tg_331, rf_331_0, tg_332, ln_332, tg_333, rf_333_0, tg_334, ln_334, tg_335, ln_335, tg_336, rf_336_0, tg_337, ln_337, tg_339, ln_339, tg_346, rf_346_1, rf_346_2, rf_346_4, rf_346_5, rf_346_6, rf_346_7, rf_346_8, rf_346_11, rf_346_13, rf_346_14, rf_346_15, rf_346_17, rf_346_18, rf_346_19, rf_346_20, rf_346_21, rf_346_22, rf_346_26, rf_346_28, rf_346_29, rf_346_32, rf_346_34, rf_346_35, rf_346_36, tg_347, ln_347, tg_348, ln_348, tg_349, ln_349, tg_350, ln_350, tg_351, ln_351, tg_352, ln_352, tg_353, ln_353, tg_354, ln_354, tg_355, ln_355, tg_356, ln_356, tg_357, ln_357, tg_358, ln_358, tg_359, ln_359, tg_360, ln_360, tg_361, ln_361, tg_362, ln_362, tg_363, ln_363, tg_364, ln_364, tg_365, ln_365, tg_366, ln_366, tg_367, ln_367, tg_368, ln_368, tg_369, ln_369, tg_370, ln_370, E2, E3, ev]
end SAFE
