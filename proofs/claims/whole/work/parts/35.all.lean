/-! equal numbers, equal search -/
def E6 (f g : Nat → Int32) : Prop := ∀ k, k < 6 → f k = g k
theorem E6.rf {f : Nat → Int32} : E6 f f := fun _ _ => rfl
theorem E6.sy {f g : Nat → Int32} (h : E6 f g) : E6 g f := fun k hk => (h k hk).symm
theorem E6.tr {f g i : Nat → Int32} (h : E6 f g) (h2 : E6 g i) : E6 f i := fun k hk => (h k hk).trans (h2 k hk)
theorem E6.meet {f f' g g' : Nat → Int32} (h : E6 f f') (h2 : E6 g g') : E6 (bMeet f g) (bMeet f' g') := fun k hk => bMeet_at (h k hk) (h2 k hk)
theorem E6.join {f f' g g' : Nat → Int32} (h : E6 f f') (h2 : E6 g g') : E6 (bJoin f g) (bJoin f' g') := fun k hk => bJoin_at (h k hk) (h2 k hk)
theorem E6.shift {f f' g g' : Nat → Int32} (h : E6 f f') (h2 : E6 g g') : E6 (bShift f g) (bShift f' g') := by
  intro k hk
  unfold bShift
  rw [h k hk, h2 k hk]
def hE (mc : Nat) (e e' : gH) : Prop := e.1 < mc ∧ e.1 = e'.1 ∧ E6 e.2.1 e'.2.1 ∧ e.2.2 = e'.2.2
def gE (mc : Nat) (s s' : gS) : Prop := s.1 = s'.1 ∧ (∀ i, i < s.1 → hE mc (s.2.1 i) (s'.2.1 i)) ∧ s.2.2 = s'.2.2
theorem covB_congr {mc m : Nat} {f f' : Nat → gH} {b b' : Nat → Int32} (hb : E6 b b') : ∀ n, (∀ i, i < n → hE mc (f i) (f' i)) → covB f m b n = covB f' m b' n := by
  intro n
  induction n with
  | zero => intro _; rfl
  | succ n ih =>
    intro h
    unfold covB
    obtain ⟨-, h1, h2, -⟩ := h n (by omega)
    rw [ih (fun i hi => h i (by omega)), h1, bCov_congr h2 hb]
theorem alk_congr {mc m : Nat} {f f' : Nat → gH} : ∀ n, (∀ i, i < n → hE mc (f i) (f' i)) → alk f m n = alk f' m n := by
  intro n
  induction n with
  | zero => intro _; rfl
  | succ n ih =>
    intro h
    unfold alk
    obtain ⟨-, h1, -⟩ := h n (by omega)
    rw [ih (fun i hi => h i (by omega)), h1]
theorem lat_congr {mc m : Nat} {f f' : Nat → gH} : ∀ n, (∀ i, i < n → hE mc (f i) (f' i)) → lat f m n = lat f' m n := by
  intro n
  induction n with
  | zero => intro _; rfl
  | succ n ih =>
    intro h
    unfold lat
    obtain ⟨-, h1, -⟩ := h n (by omega)
    rw [ih (fun i hi => h i (by omega)), h1]
theorem gE_add {mc m : Nat} {s s' : gS} {b b' : Nat → Int32} {o h : Int32} (hs : gE mc s s') (hm : m < mc) (hb : E6 b b') : gE mc (s.1 + 1, gupd s.2.1 s.1 (m, b, o, h, false, false), s.2.2) (s'.1 + 1, gupd s'.2.1 s'.1 (m, b', o, h, false, false), s'.2.2) := by
  obtain ⟨h1, h2, h3⟩ := hs
  refine ⟨by show s.1 + 1 = s'.1 + 1; rw [h1], fun i hi => ?_, h3⟩
  have hi : i < s.1 + 1 := hi
  show hE mc (gupd s.2.1 s.1 _ i) (gupd s'.2.1 s'.1 _ i)
  unfold gupd
  by_cases q : i = s.1
  · rw [if_pos q, if_pos (by rw [← h1]; exact q)]
    exact ⟨hm, rfl, hb, rfl⟩
  · rw [if_neg q, if_neg (by rw [← h1]; exact q)]
    exact h2 i (by omega)
theorem gE_spent {mc : Nat} {s s' : gS} (hs : gE mc s s') : gE mc (s.1, s.2.1, s.2.2.1, true) (s'.1, s'.2.1, s'.2.2.1, true) := by
  obtain ⟨h1, h2, h3⟩ := hs
  exact ⟨h1, h2, by show (s.2.2.1, true) = (s'.2.2.1, true); rw [h3]⟩
theorem gE_upd {mc : Nat} {s s' : gS} {l : Nat} {e e' : gH} (hs : gE mc s s') (he : hE mc e e') : gE mc (s.1, gupd s.2.1 l e, s.2.2) (s'.1, gupd s'.2.1 l e', s'.2.2) := by
  obtain ⟨h1, h2, h3⟩ := hs
  refine ⟨h1, fun i hi => ?_, h3⟩
  show hE mc (gupd s.2.1 l e i) (gupd s'.2.1 l e' i)
  unfold gupd
  by_cases q : i = l
  · rw [if_pos q, if_pos q]; exact he
  · rw [if_neg q, if_neg q]; exact h2 i hi
theorem tk_congr {mc lim m : Nat} {s s' : gS} {b b' : Nat → Int32} {o h : Int32} (hs : gE mc s s') (hm : m < mc) (hb : E6 b b') : gE mc (tk lim s m b o h) (tk lim s' m b' o h) := by
  have hA := gE_add (o := o) (h := h) hs hm hb
  have hB := gE_spent hs
  have hU := fun l e e' => gE_upd (l := l) (e := e) (e' := e') hs
  obtain ⟨h1, h2, h3⟩ := id hs
  unfold tk
  rw [covB_congr hb s.1 h2, lat_congr s.1 h2, alk_congr s.1 h2, h1]
  rw [h1] at hA hB hU
  split
  · exact hs
  · split
    · rename_i l hl
      have hl := lat_lt hl
      obtain ⟨a1, a2, a3, a4⟩ := h2 l (by omega)
      split
      · exact hU l _ _ ⟨a1, a2, a3.join hb, by show (_, _, false, true) = (_, _, false, true); rw [a4]⟩
      · split
        · exact hB
        · exact hA
    · split
      · exact hB
      · exact hA
def BE (mc : Nat) (T T' : Nat → (Nat → Int32) → Nat → Int32) : Prop := ∀ m, m < mc → ∀ f f', E6 f f' → E6 (T m f) (T' m f')
theorem wj_congr {mc jc lim m h : Nat} {fj tj : Nat → Nat} {R1 R3 R1' R3' : Nat → Nat → Int32} (h1 : ∀ j, j < jc → E6 (R1 j) (R1' j)) (h3 : ∀ j, j < jc → E6 (R3 j) (R3' j)) (ht : ∀ j, j < jc → tj j < mc) : ∀ k j (s s' : gS), j + k = jc → gE mc s s' → gE mc (wj lim m h fj tj R1 R3 k j s) (wj lim m h fj tj R1' R3' k j s') := by
  intro k
  induction k with
  | zero => intro j s s' _ hs; exact hs
  | succ k ih =>
    intro j s s' hj hs
    unfold wj
    refine ih (j + 1) _ _ (by omega) ?_
    have hjc : j < jc := by omega
    unfold jst
    rw [bEmp_congr (h1 j hjc), bEmp_congr (h3 j hjc), hs.2.2]
    split
    · exact hs
    · split
      · exact tk_congr hs (ht j hjc) (h3 j hjc)
      · exact hs
theorem wk_congr {mc jc lim h : Nat} {fj tj : Nat → Nat} {T T' R1 R3 R1' R3' : Nat → (Nat → Int32) → Nat → Int32} {s s' : gS} (hT : BE mc T T') (h1 : BE jc R1 R1') (h3 : BE jc R3 R3') (ht : ∀ j, j < jc → tj j < mc) (hs : gE mc s s') (hh : h < s.1) : gE mc (wk lim jc fj tj T R1 R3 s h) (wk lim jc fj tj T' R1' R3' s' h) := by
  obtain ⟨a1, a2, a3, a4⟩ := hs.2.1 h hh
  have hs1 : gE mc (s.1, gupd s.2.1 h ((s.2.1 h).1, (s.2.1 h).2.1, (s.2.1 h).2.2.1, (s.2.1 h).2.2.2.1, true, (s.2.1 h).2.2.2.2.2), s.2.2.1 + 1, s.2.2.2) (s'.1, gupd s'.2.1 h ((s'.2.1 h).1, (s'.2.1 h).2.1, (s'.2.1 h).2.2.1, (s'.2.1 h).2.2.2.1, true, (s'.2.1 h).2.2.2.2.2), s'.2.2.1 + 1, s'.2.2.2) := by
    have := gE_upd (l := h) (e := ((s.2.1 h).1, (s.2.1 h).2.1, (s.2.1 h).2.2.1, (s.2.1 h).2.2.2.1, true, (s.2.1 h).2.2.2.2.2)) (e' := ((s'.2.1 h).1, (s'.2.1 h).2.1, (s'.2.1 h).2.2.1, (s'.2.1 h).2.2.2.1, true, (s'.2.1 h).2.2.2.2.2)) hs ⟨a1, a2, a3, by show (_, _, true, _) = (_, _, true, _); rw [a4]⟩
    exact ⟨this.1, this.2.1, by show (s.2.2.1 + 1, s.2.2.2) = (s'.2.2.1 + 1, s'.2.2.2); rw [hs.2.2]⟩
  have e1 := hT _ a1 _ _ a3
  unfold wk
  dsimp only
  rw [← a2] at hs1 ⊢
  refine wj_congr (fun j hj => h1 j hj _ _ a3) (fun j hj => h3 j hj _ _ a3) ht jc 0 _ _ (by omega) ?_
  rw [bEmp_congr e1]
  split
  · exact hs1
  · exact tk_congr hs1 a1 e1
/-! the whole search: heaps worked until none is left -/
theorem tk_works (lim : Nat) (s : gS) (m : Nat) (b : Nat → Int32) (o h : Int32) : (tk lim s m b o h).2.2.1 = s.2.2.1 := by
  unfold tk
  split
  · rfl
  · split
    · split
      · rfl
      · split <;> rfl
    · split <;> rfl
theorem wj_works {lim m h : Nat} {fj tj : Nat → Nat} {R1 R3 : Nat → Nat → Int32} : ∀ (k j : Nat) (s : gS), (wj lim m h fj tj R1 R3 k j s).2.2.1 = s.2.2.1 := by
  intro k
  induction k with
  | zero => intro j s; rfl
  | succ k ih =>
    intro j s
    unfold wj
    rw [ih]
    unfold jst
    split
    · rfl
    · split
      · exact tk_works _ _ _ _ _ _
      · rfl
theorem wk_works {lim jc : Nat} {fj tj : Nat → Nat} {T : Nat → (Nat → Int32) → Nat → Int32} {R1 R3 : Nat → (Nat → Int32) → Nat → Int32} {s : gS} {h : Nat} : (wk lim jc fj tj T R1 R3 s h).2.2.1 = s.2.2.1 + 1 := by
  unfold wk
  simp only [wj_works]
  split
  · rfl
  · exact tk_works _ _ _ _ _ _
/-- the first heap that isn't worked, among the k from i on -/
def fu (f : Nat → gH) : Nat → Nat → Option Nat
  | 0, _ => none
  | k + 1, i => if (f i).2.2.2.2.1 = false then some i else fu f k (i + 1)
theorem fu_lt {f : Nat → gH} : ∀ {k i h : Nat}, fu f k i = some h → h < i + k := by
  intro k
  induction k with
  | zero => intro i h hh; cases hh
  | succ k ih =>
    intro i h hh
    unfold fu at hh
    split at hh
    · cases hh; omega
    · have := ih hh; omega
def wa (lim jc : Nat) (fj tj : Nat → Nat) (T : Nat → (Nat → Int32) → Nat → Int32) (R1 R3 : Nat → (Nat → Int32) → Nat → Int32) : Nat → gS → gS
  | 0, s => s
  | k + 1, s => match fu s.2.1 s.1 0 with
    | none => s
    | some h => if s.2.2.2 = true then s else if 500 ≤ s.2.2.1 then (s.1, s.2.1, s.2.2.1, true) else wa lim jc fj tj T R1 R3 k (wk lim jc fj tj T R1 R3 s h)
def oI (o : Option Nat) : Int32 := match o with
  | none => -4
  | some h => nI h
theorem oI_n : (oI none = -4) = True := by simp [oI]
theorem oI_s {h : Nat} (hh : h < 64) : (oI (some h) = -4) = False := by
  have : ∀ h, h < 64 → ¬ nI h = -4 := by decide +kernel
  simp [oI, this h hh]
theorem oI_v {h : Nat} : oI (some h) = nI h := rfl
section ALLS
variable {xs : List Value} {L : fL}
theorem x_fu {d : Nat} {Q : Option Value × jW → Prop} {I : fI} {s : gS} (R : RX I s) : ∀ (k i : Nat), i + k = s.1 → Wp (d + 1) 40 2 [some (.ref 123), some (.int (nI i))] [] (f_W xs I L) Q = Q (some (.int (oI (fu s.2.1 k i))), f_W xs I L) := by
  obtain ⟨r1, r2, r3, r4, r5, r6⟩ := R
  intro k
  induction k with
  | zero =>
    intro i hi
    have hi : i = s.1 := by omega
    subst hi
    have s1 : s.1 < 2147483648 := by omega
    rw [w40_2]
    simp only [w40_0, w40_1, w40_3, w40_4, w40_7, w40_10, w40_11, w40_14, w40_15, w40_16, w40_19, w40_22, w40_23, w40_24, w40_27, w40_30, w40_32, eq_self, Nat.zero_le, n_lt, n_le, n_eq, n_neg, n_cl, n_mul, n_add, z_0, z_1, z_2, sc_0, sc_i, sc_r, sc_l, sc_n, jc_n, jc_i, jc_r, jc_l, Option.toList_some, Option.toList_none, List.cons_append, List.nil_append, Nat.reduceLT, Nat.reduceLeDiff, Nat.reduceMul, Nat.reduceAdd, Nat.reduceSub, Nat.reduceEqDiff, not_false_eq_true, not_true_eq_false, false_or, or_false, true_or, or_true, false_imp_iff, true_imp_iff, and_true, true_and, forall_const, false_implies, true_implies, b_t0, b_f0, tg_1, rf_1_0, rf_1_1, rf_1_2, rf_1_3, rf_1_4, rf_1_5, rf_1_6, tg_2, rf_2_0, rf_2_1, rf_2_2, rf_2_3, tg_3, ln_3, tg_4, ln_4, tg_5, rf_5_0, tg_6, ln_6, tg_7, rf_7_0, tg_8, ln_8, tg_123, rf_123_0, rf_123_1, rf_123_2, rf_123_3, rf_123_4, tg_124, ln_124, tg_125, rf_125_0, tg_126, ln_126, tg_127, rf_127_0, tg_128, ln_128, tg_129, ln_129, tg_322, rf_322_0, rf_322_1, rf_322_2, rf_322_3, tg_323, ln_323, tg_324, ln_324, tg_325, rf_325_0, rf_325_1, rf_325_2, tg_326, rf_326_0, tg_327, ln_327, tg_328, rf_328_0, tg_329, ln_329, tg_330, rf_330_0, rf_330_1, rf_330_2, tg_331, rf_331_0, tg_332, ln_332, tg_333, rf_333_0, tg_334, ln_334, tg_335, ln_335, tg_336, rf_336_0, tg_337, ln_337, tg_339, ln_339, tg_346, rf_346_1, rf_346_2, rf_346_4, rf_346_5, rf_346_6, rf_346_7, rf_346_8, rf_346_11, rf_346_13, rf_346_14, rf_346_15, rf_346_17, rf_346_18, rf_346_19, rf_346_20, rf_346_21, rf_346_22, rf_346_26, rf_346_28, rf_346_29, rf_346_32, rf_346_34, rf_346_35, rf_346_36, tg_347, ln_347, tg_348, ln_348, tg_349, ln_349, tg_350, ln_350, tg_351, ln_351, tg_352, ln_352, tg_353, ln_353, tg_354, ln_354, tg_355, ln_355, tg_356, ln_356, tg_357, ln_357, tg_358, ln_358, tg_359, ln_359, tg_360, ln_360, tg_361, ln_361, tg_362, ln_362, tg_363, ln_363, tg_364, ln_364, tg_365, ln_365, tg_366, ln_366, tg_367, ln_367, tg_368, ln_368, tg_369, ln_369, tg_370, ln_370, r2, n_le s1 s1, Nat.le_refl]
    rfl
  | succ k ih =>
    intro i hi
    have hn : i < s.1 := by omega
    have h64 : i < 64 := by omega
    obtain ⟨l1, l2, l3⟩ := lay_H i h64
    obtain ⟨g1, g2, g3, g4, g5, g6, g7⟩ := r6 i hn
    have s1 : s.1 < 2147483648 := by omega
    have s2 : i < 2147483648 := by omega
    have s3 : ¬ s.1 ≤ i := by omega
    have s4 : ¬ 64 ≤ i := by omega
    rw [w40_2]
    cases hw : (s.2.1 i).2.2.2.2.1 with
    | true =>
      have he : fu s.2.1 (k + 1) i = fu s.2.1 k (i + 1) := by
        conv => lhs; unfold fu
        rw [if_neg (by rw [hw]; decide)]
      rw [hw] at g6
      rw [he, ← ih (i + 1) (by omega)]
      simp only [w40_0, w40_1, w40_3, w40_4, w40_7, w40_10, w40_11, w40_14, w40_15, w40_16, w40_19, w40_22, w40_23, w40_24, w40_27, w40_30, w40_32, eq_self, Nat.zero_le, n_lt, n_le, n_eq, n_neg, n_cl, n_mul, n_add, z_0, z_1, z_2, sc_0, sc_i, sc_r, sc_l, sc_n, jc_n, jc_i, jc_r, jc_l, Option.toList_some, Option.toList_none, List.cons_append, List.nil_append, Nat.reduceLT, Nat.reduceLeDiff, Nat.reduceMul, Nat.reduceAdd, Nat.reduceSub, Nat.reduceEqDiff, not_false_eq_true, not_true_eq_false, false_or, or_false, true_or, or_true, false_imp_iff, true_imp_iff, and_true, true_and, forall_const, false_implies, true_implies, b_t0, b_f0, tg_1, rf_1_0, rf_1_1, rf_1_2, rf_1_3, rf_1_4, rf_1_5, rf_1_6, tg_2, rf_2_0, rf_2_1, rf_2_2, rf_2_3, tg_3, ln_3, tg_4, ln_4, tg_5, rf_5_0, tg_6, ln_6, tg_7, rf_7_0, tg_8, ln_8, tg_123, rf_123_0, rf_123_1, rf_123_2, rf_123_3, rf_123_4, tg_124, ln_124, tg_125, rf_125_0, tg_126, ln_126, tg_127, rf_127_0, tg_128, ln_128, tg_129, ln_129, tg_322, rf_322_0, rf_322_1, rf_322_2, rf_322_3, tg_323, ln_323, tg_324, ln_324, tg_325, rf_325_0, rf_325_1, rf_325_2, tg_326, rf_326_0, tg_327, ln_327, tg_328, rf_328_0, tg_329, ln_329, tg_330, rf_330_0, rf_330_1, rf_330_2, tg_331, rf_331_0, tg_332, ln_332, tg_333, rf_333_0, tg_334, ln_334, tg_335, ln_335, tg_336, rf_336_0, tg_337, ln_337, tg_339, ln_339, tg_346, rf_346_1, rf_346_2, rf_346_4, rf_346_5, rf_346_6, rf_346_7, rf_346_8, rf_346_11, rf_346_13, rf_346_14, rf_346_15, rf_346_17, rf_346_18, rf_346_19, rf_346_20, rf_346_21, rf_346_22, rf_346_26, rf_346_28, rf_346_29, rf_346_32, rf_346_34, rf_346_35, rf_346_36, tg_347, ln_347, tg_348, ln_348, tg_349, ln_349, tg_350, ln_350, tg_351, ln_351, tg_352, ln_352, tg_353, ln_353, tg_354, ln_354, tg_355, ln_355, tg_356, ln_356, tg_357, ln_357, tg_358, ln_358, tg_359, ln_359, tg_360, ln_360, tg_361, ln_361, tg_362, ln_362, tg_363, ln_363, tg_364, ln_364, tg_365, ln_365, tg_366, ln_366, tg_367, ln_367, tg_368, ln_368, tg_369, ln_369, tg_370, ln_370, r2, n_le s1 s2, s3, n_cl s2, n_neg s2, s4, l1, l2, l3, g6, b2_t]
    | false =>
      have he : fu s.2.1 (k + 1) i = some i := by
        conv => lhs; unfold fu
        rw [if_pos hw]
      rw [hw] at g6
      rw [he]
      simp only [w40_0, w40_1, w40_3, w40_4, w40_7, w40_10, w40_11, w40_14, w40_15, w40_16, w40_19, w40_22, w40_23, w40_24, w40_27, w40_30, w40_32, eq_self, Nat.zero_le, n_lt, n_le, n_eq, n_neg, n_cl, n_mul, n_add, z_0, z_1, z_2, sc_0, sc_i, sc_r, sc_l, sc_n, jc_n, jc_i, jc_r, jc_l, Option.toList_some, Option.toList_none, List.cons_append, List.nil_append, Nat.reduceLT, Nat.reduceLeDiff, Nat.reduceMul, Nat.reduceAdd, Nat.reduceSub, Nat.reduceEqDiff, not_false_eq_true, not_true_eq_false, false_or, or_false, true_or, or_true, false_imp_iff, true_imp_iff, and_true, true_and, forall_const, false_implies, true_implies, b_t0, b_f0, tg_1, rf_1_0, rf_1_1, rf_1_2, rf_1_3, rf_1_4, rf_1_5, rf_1_6, tg_2, rf_2_0, rf_2_1, rf_2_2, rf_2_3, tg_3, ln_3, tg_4, ln_4, tg_5, rf_5_0, tg_6, ln_6, tg_7, rf_7_0, tg_8, ln_8, tg_123, rf_123_0, rf_123_1, rf_123_2, rf_123_3, rf_123_4, tg_124, ln_124, tg_125, rf_125_0, tg_126, ln_126, tg_127, rf_127_0, tg_128, ln_128, tg_129, ln_129, tg_322, rf_322_0, rf_322_1, rf_322_2, rf_322_3, tg_323, ln_323, tg_324, ln_324, tg_325, rf_325_0, rf_325_1, rf_325_2, tg_326, rf_326_0, tg_327, ln_327, tg_328, rf_328_0, tg_329, ln_329, tg_330, rf_330_0, rf_330_1, rf_330_2, tg_331, rf_331_0, tg_332, ln_332, tg_333, rf_333_0, tg_334, ln_334, tg_335, ln_335, tg_336, rf_336_0, tg_337, ln_337, tg_339, ln_339, tg_346, rf_346_1, rf_346_2, rf_346_4, rf_346_5, rf_346_6, rf_346_7, rf_346_8, rf_346_11, rf_346_13, rf_346_14, rf_346_15, rf_346_17, rf_346_18, rf_346_19, rf_346_20, rf_346_21, rf_346_22, rf_346_26, rf_346_28, rf_346_29, rf_346_32, rf_346_34, rf_346_35, rf_346_36, tg_347, ln_347, tg_348, ln_348, tg_349, ln_349, tg_350, ln_350, tg_351, ln_351, tg_352, ln_352, tg_353, ln_353, tg_354, ln_354, tg_355, ln_355, tg_356, ln_356, tg_357, ln_357, tg_358, ln_358, tg_359, ln_359, tg_360, ln_360, tg_361, ln_361, tg_362, ln_362, tg_363, ln_363, tg_364, ln_364, tg_365, ln_365, tg_366, ln_366, tg_367, ln_367, tg_368, ln_368, tg_369, ln_369, tg_370, ln_370, r2, n_le s1 s2, s3, n_cl s2, n_neg s2, s4, l1, l2, l3, g6, b2_f]
      rfl
theorem sp_fu {d : Nat} {Q : Option Value × jW → Prop} {I : fI} {s : gS} (R : RX I s) : Wp (d + 1) 40 0 [some (.ref 123), none] [] (f_W xs I L) Q = Q (some (.int (oI (fu s.2.1 s.1 0))), f_W xs I L) := by
  rw [← x_fu (d := d) (Q := Q) (xs := xs) (L := L) R s.1 0 (by omega)]
  simp only [w40_0, w40_1, w40_3, w40_4, w40_7, w40_10, w40_11, w40_14, w40_15, w40_16, w40_19, w40_22, w40_23, w40_24, w40_27, w40_30, w40_32, eq_self, Nat.zero_le, n_lt, n_le, n_eq, n_neg, n_cl, n_mul, n_add, z_0, z_1, z_2, sc_0, sc_i, sc_r, sc_l, sc_n, jc_n, jc_i, jc_r, jc_l, Option.toList_some, Option.toList_none, List.cons_append, List.nil_append, Nat.reduceLT, Nat.reduceLeDiff, Nat.reduceMul, Nat.reduceAdd, Nat.reduceSub, Nat.reduceEqDiff, not_false_eq_true, not_true_eq_false, false_or, or_false, true_or, or_true, false_imp_iff, true_imp_iff, and_true, true_and, forall_const, false_implies, true_implies, b_t0, b_f0, tg_1, rf_1_0, rf_1_1, rf_1_2, rf_1_3, rf_1_4, rf_1_5, rf_1_6, tg_2, rf_2_0, rf_2_1, rf_2_2, rf_2_3, tg_3, ln_3, tg_4, ln_4, tg_5, rf_5_0, tg_6, ln_6, tg_7, rf_7_0, tg_8, ln_8, tg_123, rf_123_0, rf_123_1, rf_123_2, rf_123_3, rf_123_4, tg_124, ln_124, tg_125, rf_125_0, tg_126, ln_126, tg_127, rf_127_0, tg_128, ln_128, tg_129, ln_129, tg_322, rf_322_0, rf_322_1, rf_322_2, rf_322_3, tg_323, ln_323, tg_324, ln_324, tg_325, rf_325_0, rf_325_1, rf_325_2, tg_326, rf_326_0, tg_327, ln_327, tg_328, rf_328_0, tg_329, ln_329, tg_330, rf_330_0, rf_330_1, rf_330_2, tg_331, rf_331_0, tg_332, ln_332, tg_333, rf_333_0, tg_334, ln_334, tg_335, ln_335, tg_336, rf_336_0, tg_337, ln_337, tg_339, ln_339, tg_346, rf_346_1, rf_346_2, rf_346_4, rf_346_5, rf_346_6, rf_346_7, rf_346_8, rf_346_11, rf_346_13, rf_346_14, rf_346_15, rf_346_17, rf_346_18, rf_346_19, rf_346_20, rf_346_21, rf_346_22, rf_346_26, rf_346_28, rf_346_29, rf_346_32, rf_346_34, rf_346_35, rf_346_36, tg_347, ln_347, tg_348, ln_348, tg_349, ln_349, tg_350, ln_350, tg_351, ln_351, tg_352, ln_352, tg_353, ln_353, tg_354, ln_354, tg_355, ln_355, tg_356, ln_356, tg_357, ln_357, tg_358, ln_358, tg_359, ln_359, tg_360, ln_360, tg_361, ln_361, tg_362, ln_362, tg_363, ln_363, tg_364, ln_364, tg_365, ln_365, tg_366, ln_366, tg_367, ln_367, tg_368, ln_368, tg_369, ln_369, tg_370, ln_370]
/-- the memory behind the first steps of work -/
def wkI (I : fI) (h w : Nat) : fI := f_wb (f_up (f_up I 123 7 (nI (w + 1))) (130 + 3 * h) 4 (nI 1)) 125 (I (132 + 3 * h))
def wkS (s : gS) (h : Nat) : gS := (s.1, gupd s.2.1 h ((s.2.1 h).1, (s.2.1 h).2.1, (s.2.1 h).2.2.1, (s.2.1 h).2.2.2.1, true, (s.2.1 h).2.2.2.2.2), s.2.2.1 + 1, s.2.2.2)
theorem wkI_R {I : fI} {s : gS} {h : Nat} (R : RX I s) (hh : h < s.1) (hw : s.2.2.1 ≤ 999) : RX (wkI I h s.2.2.1) (wkS s h) ∧ SW I (wkI I h s.2.2.1) ∧ ∀ k, wkI I h s.2.2.1 126 k = I (132 + 3 * h) k := by
  obtain ⟨r1, r2, r3, r4, r5, r6⟩ := R
  have q1 : (123 : Nat) ≠ 130 + 3 * h := by omega
  refine ⟨⟨r1, ?_, by show s.2.2.1 + 1 ≤ 1000; omega, ?_, ?_, ?_⟩, ⟨?_, ?_⟩, ?_⟩
  · simp [wkI, f_up_at, f_wb_at, q1]; exact r2
  · simp [wkI, f_up_at, f_wb_at, q1, wkS]
  · simp [wkI, f_up_at, f_wb_at, q1]; exact r5
  · intro i hi
    have hi : i < s.1 := hi
    have g := r6 i hi
    have q2 : ¬ 130 + 3 * i = 123 := by omega
    have q3 : ¬ 132 + 3 * i = 123 := by omega
    have q4 : ¬ 130 + 3 * i = 126 := by omega
    have q5 : ¬ 132 + 3 * i = 126 := by omega
    have q6 : ¬ 132 + 3 * i = 130 + 3 * h := by omega
    unfold RH at g ⊢
    by_cases hc : i = h
    · subst hc
      simp [wkI, f_up_at, f_wb_at, q1, q2, q3, q4, q5, q6, wkS, gupd, b2]
      exact ⟨g.1, g.2.1, g.2.2.1, g.2.2.2.1, g.2.2.2.2.1, by simpa [b2] using g.2.2.2.2.2.2⟩
    · have q7 : ¬ 3 * i = 3 * h := by omega
      simp [wkI, f_up_at, f_wb_at, q1, q2, q3, q4, q5, q6, q7, wkS, gupd, hc]
      simpa using g
  · intro o ho
    funext k
    have q2 : ¬ o = 130 + 3 * h := by omega
    have q3 : ¬ o = 123 := by omega
    have q4 : ¬ o = 126 := by omega
    simp [wkI, f_up_at, f_wb_at, q2, q3, q4]
  · intro k hk
    have q2 : ¬ k = 7 := by omega
    simp [wkI, f_up_at, f_wb_at, q1, q2]
  · intro k
    simp [wkI, f_wb_at]
theorem rFl_cg {I : fI} {m : Nat} {f f' : Nat → Int32} (h : ∀ k, f k = f' k) : rFl I m f = rFl I m f' := by
  rw [show f = f' from funext h]
theorem wkS_E {mc jc lim h : Nat} {fj tj : Nat → Nat} {T R1 R3 : Nat → (Nat → Int32) → Nat → Int32} {s : gS} {fb : Nat → Int32} (hf : E6 fb (s.2.1 h).2.1) (hT : BE mc T T) (h1 : BE jc R1 R1) (h3 : BE jc R3 R3) (ht : ∀ j, j < jc → tj j < mc) (hh : h < s.1) (hm : ∀ i, i < s.1 → (s.2.1 i).1 < mc) : gE mc (wj lim (s.2.1 h).1 h fj tj (fun j => R1 j fb) (fun j => R3 j fb) jc 0 (if bEmp (T (s.2.1 h).1 fb) = true then wkS s h else tk lim (wkS s h) (s.2.1 h).1 (T (s.2.1 h).1 fb) (nI h) (nI 0))) (wk lim jc fj tj T R1 R3 s h) := by
  have hs : gE mc (wkS s h) (wkS s h) := by
    refine ⟨rfl, fun i hi => ⟨?_, rfl, E6.rf, rfl⟩, rfl⟩
    show (gupd s.2.1 h _ i).1 < mc
    unfold gupd
    by_cases q : i = h
    · rw [if_pos q]; exact hm h hh
    · rw [if_neg q]; exact hm i hi
  have e1 := hT _ (hm h hh) _ _ hf
  unfold wk
  dsimp only
  refine wj_congr (fun j hj => h1 j hj _ _ hf) (fun j hj => h3 j hj _ _ hf) ht jc 0 _ _ (by omega) ?_
  rw [bEmp_congr e1]
  split
  · exact hs
  · exact tk_congr hs (hm h hh) e1
theorem RX_gE {mc : Nat} {I : fI} {s s' : gS} (R : RX I s) (h : gE mc s s') : RX I s' := by
  obtain ⟨r1, r2, r3, r4, r5, r6⟩ := R
  obtain ⟨h1, h2, h3⟩ := h
  refine ⟨by rw [← h1]; exact r1, by rw [← h1]; exact r2, by rw [← h3]; exact r3, by rw [← h3]; exact r4, by rw [← h3]; exact r5, fun i hi => ?_⟩
  rw [← h1] at hi
  obtain ⟨g1, g2, g3, g4⟩ := h2 i hi
  obtain ⟨q1, q2, q3, q4, q5, q6, q7⟩ := r6 i hi
  refine ⟨by rw [← g2]; exact q1, by rw [← g2]; exact q2, fun k hk => (q3 k hk).trans (g3 k hk), by rw [← g4]; exact q4, by rw [← g4]; exact q5, by rw [← g4]; exact q6, by rw [← g4]; exact q7⟩
theorem BE_fl {I : fI} {mc : Nat} : BE mc (fun m f => rFl I m f) (fun m f => rFl I m f) := fun m _ f f' h => E6.meet (E6.shift h E6.rf) E6.rf
theorem BE_r1 {I : fI} {jc : Nat} : BE jc (fun j f => rS1 I j f) (fun j f => rS1 I j f) := fun j _ f f' h => E6.meet h E6.rf
theorem BE_r3 {I : fI} {jc : Nat} {tj : Nat → Nat} : BE jc (fun j f => rS3 I j (tj j) f) (fun j f => rS3 I j (tj j) f) := by
  intro j hj f f' h
  refine E6.meet ?_ E6.rf
  intro k hk
  have := BE_r1 (I := I) j hj f f' h k hk
  unfold bSet
  split
  · rfl
  · exact this
theorem x_work {lim mc jc : Nat} {fj tj : Nat → Nat} {I : fI} {s : gS} {h : Nat} (hM : MI I mc jc fj tj lim) (hT : ∀ j, j < jc → tj j < mc) (hmm : ∀ i, i < s.1 → (s.2.1 i).1 < mc) (R : RX I s) (hh : h < s.1) (hw : s.2.2.1 ≤ 999) : ∃ I', RX I' (wk lim jc fj tj (fun m f => rFl I m f) (fun j f => rS1 I j f) (fun j f => rS3 I j (tj j) f) s h) ∧ SW I I' ∧ ∀ (d : Nat) (Q : Option Value × jW → Prop), Wp (d + 3) 41 0 [some (.ref 123), some (.int (nI h)), none, none, none, none] [] (f_W xs I L) Q = Q (none, f_W xs I' L) := by
  obtain ⟨R1, S1, F1⟩ := wkI_R R hh hw
  have F1 : wkI I h s.2.2.1 126 = I (132 + 3 * h) := funext F1
  obtain ⟨r1, r2, r3, r4, r5, r6⟩ := id R
  obtain ⟨g1, g2, g3, g4, g5, g6, g7⟩ := r6 h hh
  have h64 : h < 64 := by omega
  obtain ⟨l1, l2, l3⟩ := lay_H h h64
  obtain ⟨m1, m2, m3⟩ := lay_M (s.2.1 h).1 g2
  have s1 : h < 2147483648 := by omega
  have s2 : ¬ 64 ≤ h := by omega
  have s3 : (s.2.1 h).1 < 2147483648 := by omega
  have s4 : ¬ 6 ≤ (s.2.1 h).1 := by omega
  have s5 : (123 : Nat) ≠ 130 + 3 * h := by omega
  have n1 : (125 : Nat) ≠ 127 := by omega
  have hc2 : (121 : Nat) < 127 := by omega
  have h6 := hM.2.1
  have n2 : 131 + 3 * h ≠ 125 := by omega
  have eW : f_wb (f_up (f_up I 123 7 (nI (s.2.2.1 + 1))) (130 + 3 * h) 4 (nI 1)) 125 (f_up (f_up I 123 7 (nI (s.2.2.1 + 1))) (130 + 3 * h) 4 (nI 1) (131 + 3 * h + 1)) = wkI I h s.2.2.1 := by
    unfold wkI
    rw [f_up_ne (a := 130 + 3 * h) (by omega), f_up_ne (a := 123) (by omega), show 131 + 3 * h + 1 = 132 + 3 * h by omega]
  obtain ⟨M1, M2, M3, M4, M5, M6, M7⟩ := id (hM.sw S1)
  have e0 : rFl (wkI I h s.2.2.1) (s.2.1 h).1 (wkI I h s.2.2.1 (125 + 1)) = rFl I (s.2.1 h).1 (I (132 + 3 * h)) := by
    rw [rFl_sw S1 g2]
    show rFl I _ (wkI I h s.2.2.1 126) = _
    rw [F1]
  have hE := wkS_E (mc := 6) (lim := lim) (jc := jc) (fj := fj) (tj := tj) (s := s) (h := h) (fb := I (132 + 3 * h)) g3 (BE_fl (I := I)) (BE_r1 (I := I)) (BE_r3 (I := I) (tj := tj)) (fun j hj => (hM.2.2.2.2.1 j hj).2.2.2.1) hh (fun i hi => (r6 i hi).2.1)
  cases hB : bEmp (rFl I (s.2.1 h).1 (I (132 + 3 * h))) with
  | true =>
    rw [if_pos hB] at hE
    obtain ⟨I', R', S', E'⟩ := x_wkloop (xs := xs) (L := L) (a2 := 130 + 3 * h) hM hT (h := h) (m := (s.2.1 h).1) h64 g2 (fb := I (132 + 3 * h)) jc 0 (wkS s h) (f_wb (wkI I h s.2.2.1) 127 (rFl I (s.2.1 h).1 (I (132 + 3 * h)))) none (by omega) (RX_next R1) (S1.tr SW_next) (by rw [f_wb_ne (by omega)]; exact F1)
    refine ⟨I', RX_gE R' hE, S', fun d Q => ?_⟩
    rw [← E' d Q]
    simp only [w41_0, w41_1, w41_2, w41_5, w41_6, w41_7, w41_10, w41_11, w41_12, w41_12r, w41_13, w41_16, w41_17, w41_18, w41_21, w41_22, w41_23, w41_26, w41_27, w41_30, w41_31, w41_34, w41_37, w41_38, w41_41, w41_42, w41_43, w41_46, w41_47, w41_50, w41_53, w41_56, w41_57, w41_58, w41_59, w41_60, w41_63, w41_64, w41_68, w41_69, w41_72, w41_75, w41_78, w41_79, w41_82, w41_85, w41_86, w41_89, w41_92, w41_94, w41_95, w41_97, w41_99, w41_102, w41_103, w41_106, w41_107, w41_110, w41_112, w41_113, w41_116, w41_117, w41_120, w41_123, w41_126, w41_127, w41_129, w41_132, w41_133, w41_134, w41_136, w41_137, w41_140, w41_143, w41_146, eq_self, Nat.zero_le, n_lt, n_le, n_eq, n_neg, n_cl, n_mul, n_add, z_0, z_1, z_2, sc_0, sc_i, sc_r, sc_l, sc_n, jc_n, jc_i, jc_r, jc_l, Option.toList_some, Option.toList_none, List.cons_append, List.nil_append, Nat.reduceLT, Nat.reduceLeDiff, Nat.reduceMul, Nat.reduceAdd, Nat.reduceSub, Nat.reduceEqDiff, not_false_eq_true, not_true_eq_false, false_or, or_false, true_or, or_true, false_imp_iff, true_imp_iff, and_true, true_and, forall_const, false_implies, true_implies, b_t0, b_f0, tg_1, rf_1_0, rf_1_1, rf_1_2, rf_1_3, rf_1_4, rf_1_5, rf_1_6, tg_2, rf_2_0, rf_2_1, rf_2_2, rf_2_3, tg_3, ln_3, tg_4, ln_4, tg_5, rf_5_0, tg_6, ln_6, tg_7, rf_7_0, tg_8, ln_8, tg_123, rf_123_0, rf_123_1, rf_123_2, rf_123_3, rf_123_4, tg_124, ln_124, tg_125, rf_125_0, tg_126, ln_126, tg_127, rf_127_0, tg_128, ln_128, tg_129, ln_129, tg_322, rf_322_0, rf_322_1, rf_322_2, rf_322_3, tg_323, ln_323, tg_324, ln_324, tg_325, rf_325_0, rf_325_1, rf_325_2, tg_326, rf_326_0, tg_327, ln_327, tg_328, rf_328_0, tg_329, ln_329, tg_330, rf_330_0, rf_330_1, rf_330_2, tg_331, rf_331_0, tg_332, ln_332, tg_333, rf_333_0, tg_334, ln_334, tg_335, ln_335, tg_336, rf_336_0, tg_337, ln_337, tg_339, ln_339, tg_346, rf_346_1, rf_346_2, rf_346_4, rf_346_5, rf_346_6, rf_346_7, rf_346_8, rf_346_11, rf_346_13, rf_346_14, rf_346_15, rf_346_17, rf_346_18, rf_346_19, rf_346_20, rf_346_21, rf_346_22, rf_346_26, rf_346_28, rf_346_29, rf_346_32, rf_346_34, rf_346_35, rf_346_36, tg_347, ln_347, tg_348, ln_348, tg_349, ln_349, tg_350, ln_350, tg_351, ln_351, tg_352, ln_352, tg_353, ln_353, tg_354, ln_354, tg_355, ln_355, tg_356, ln_356, tg_357, ln_357, tg_358, ln_358, tg_359, ln_359, tg_360, ln_360, tg_361, ln_361, tg_362, ln_362, tg_363, ln_363, tg_364, ln_364, tg_365, ln_365, tg_366, ln_366, tg_367, ln_367, tg_368, ln_368, tg_369, ln_369, tg_370, ln_370, sp_heapAt R hh, l2, l3, g1, r4, sp_copy bx_125 (bx_hp h64) n2, eW, sp_flow M1 M2 (hmm h hh) bx_125 bx_127 hc2 n1, e0, hB, b2_f, Bool.not_true]
  | false =>
    rw [hB] at hE
    simp only [Bool.false_eq_true, if_false] at hE
    have R2 : RX (f_wb (wkI I h s.2.2.1) 127 (rFl I (s.2.1 h).1 (I (132 + 3 * h)))) (wkS s h) := RX_next R1
    obtain ⟨I2, R3, S3, E3⟩ := x_take (xs := xs) (L := L) (lim := lim) (m := (s.2.1 h).1) (o := nI h) (h := nI 0) R2 g2 (by rw [SW_next.2 5 (by omega), S1.2 5 (by omega)]; exact hM.2.2.2.2.2.1) hM.2.2.2.2.2.2.1 hM.2.2.2.2.2.2.2
    rw [show f_wb (wkI I h s.2.2.1) 127 (rFl I (s.2.1 h).1 (I (132 + 3 * h))) 128 = rFl I (s.2.1 h).1 (I (132 + 3 * h)) from f_wb_eq (b := 127)] at R3
    obtain ⟨I', R', S', E'⟩ := x_wkloop (xs := xs) (L := L) (a2 := 130 + 3 * h) hM hT (h := h) (m := (s.2.1 h).1) h64 g2 (fb := I (132 + 3 * h)) jc 0 _ I2 none (by omega) R3 ((S1.tr SW_next).tr S3.SW) (by rw [S3.1 126 (by omega), f_wb_ne (by omega)]; exact F1)
    refine ⟨I', RX_gE R' hE, S', fun d Q => ?_⟩
    rw [← E' d Q]
    simp only [w41_0, w41_1, w41_2, w41_5, w41_6, w41_7, w41_10, w41_11, w41_12, w41_12r, w41_13, w41_16, w41_17, w41_18, w41_21, w41_22, w41_23, w41_26, w41_27, w41_30, w41_31, w41_34, w41_37, w41_38, w41_41, w41_42, w41_43, w41_46, w41_47, w41_50, w41_53, w41_56, w41_57, w41_58, w41_59, w41_60, w41_63, w41_64, w41_68, w41_69, w41_72, w41_75, w41_78, w41_79, w41_82, w41_85, w41_86, w41_89, w41_92, w41_94, w41_95, w41_97, w41_99, w41_102, w41_103, w41_106, w41_107, w41_110, w41_112, w41_113, w41_116, w41_117, w41_120, w41_123, w41_126, w41_127, w41_129, w41_132, w41_133, w41_134, w41_136, w41_137, w41_140, w41_143, w41_146, eq_self, Nat.zero_le, n_lt, n_le, n_eq, n_neg, n_cl, n_mul, n_add, z_0, z_1, z_2, sc_0, sc_i, sc_r, sc_l, sc_n, jc_n, jc_i, jc_r, jc_l, Option.toList_some, Option.toList_none, List.cons_append, List.nil_append, Nat.reduceLT, Nat.reduceLeDiff, Nat.reduceMul, Nat.reduceAdd, Nat.reduceSub, Nat.reduceEqDiff, not_false_eq_true, not_true_eq_false, false_or, or_false, true_or, or_true, false_imp_iff, true_imp_iff, and_true, true_and, forall_const, false_implies, true_implies, b_t0, b_f0, tg_1, rf_1_0, rf_1_1, rf_1_2, rf_1_3, rf_1_4, rf_1_5, rf_1_6, tg_2, rf_2_0, rf_2_1, rf_2_2, rf_2_3, tg_3, ln_3, tg_4, ln_4, tg_5, rf_5_0, tg_6, ln_6, tg_7, rf_7_0, tg_8, ln_8, tg_123, rf_123_0, rf_123_1, rf_123_2, rf_123_3, rf_123_4, tg_124, ln_124, tg_125, rf_125_0, tg_126, ln_126, tg_127, rf_127_0, tg_128, ln_128, tg_129, ln_129, tg_322, rf_322_0, rf_322_1, rf_322_2, rf_322_3, tg_323, ln_323, tg_324, ln_324, tg_325, rf_325_0, rf_325_1, rf_325_2, tg_326, rf_326_0, tg_327, ln_327, tg_328, rf_328_0, tg_329, ln_329, tg_330, rf_330_0, rf_330_1, rf_330_2, tg_331, rf_331_0, tg_332, ln_332, tg_333, rf_333_0, tg_334, ln_334, tg_335, ln_335, tg_336, rf_336_0, tg_337, ln_337, tg_339, ln_339, tg_346, rf_346_1, rf_346_2, rf_346_4, rf_346_5, rf_346_6, rf_346_7, rf_346_8, rf_346_11, rf_346_13, rf_346_14, rf_346_15, rf_346_17, rf_346_18, rf_346_19, rf_346_20, rf_346_21, rf_346_22, rf_346_26, rf_346_28, rf_346_29, rf_346_32, rf_346_34, rf_346_35, rf_346_36, tg_347, ln_347, tg_348, ln_348, tg_349, ln_349, tg_350, ln_350, tg_351, ln_351, tg_352, ln_352, tg_353, ln_353, tg_354, ln_354, tg_355, ln_355, tg_356, ln_356, tg_357, ln_357, tg_358, ln_358, tg_359, ln_359, tg_360, ln_360, tg_361, ln_361, tg_362, ln_362, tg_363, ln_363, tg_364, ln_364, tg_365, ln_365, tg_366, ln_366, tg_367, ln_367, tg_368, ln_368, tg_369, ln_369, tg_370, ln_370, sp_heapAt R hh, l2, l3, g1, r4, sp_copy bx_125 (bx_hp h64) n2, eW, sp_flow M1 M2 (hmm h hh) bx_125 bx_127 hc2 n1, e0, hB, b2_t, Bool.not_false, E3]
theorem x_waloop {lim mc jc : Nat} {fj tj : Nat → Nat} {I0 : fI} (hM : MI I0 mc jc fj tj lim) (hT : ∀ j, j < jc → tj j < mc) : ∀ (k t : Nat) (s : gS) (I : fI) (a2 : Option Value), (∀ i, i < s.1 → (s.2.1 i).1 < mc) → t + k = 501 → s.2.2.1 = t → RX I s → SW I0 I → ∃ I', RX I' (wa lim jc fj tj (fun m f => rFl I0 m f) (fun j f => rS1 I0 j f) (fun j f => rS3 I0 j (tj j) f) k s) ∧ SW I0 I' ∧ ∀ (d : Nat) (Q : Option Value × jW → Prop), Wp (d + 4) 39 2 [some (.ref 123), some (.int (nI t)), a2] [] (f_W xs I L) Q = Q (none, f_W xs I' L) := by
  intro k
  induction k with
  | zero =>
    intro t s I a2 hmm ht hs R S
    have ht : t = 501 := by omega
    subst ht
    refine ⟨I, R, S, fun d Q => ?_⟩
    rw [w39_2]
    simp only [w39_0, w39_1, w39_3, w39_6, w39_9, w39_10, w39_13, w39_14, w39_15, w39_17, w39_20, w39_21, w39_24, w39_27, w39_28, w39_29, w39_32, w39_35, w39_38, w39_39, w39_40, w39_43, w39_44, w39_45, w39_46, w39_49, w39_52, w39_55, eq_self, Nat.zero_le, n_lt, n_le, n_eq, n_neg, n_cl, n_mul, n_add, z_0, z_1, z_2, sc_0, sc_i, sc_r, sc_l, sc_n, jc_n, jc_i, jc_r, jc_l, Option.toList_some, Option.toList_none, List.cons_append, List.nil_append, Nat.reduceLT, Nat.reduceLeDiff, Nat.reduceMul, Nat.reduceAdd, Nat.reduceSub, Nat.reduceEqDiff, not_false_eq_true, not_true_eq_false, false_or, or_false, true_or, or_true, false_imp_iff, true_imp_iff, and_true, true_and, forall_const, false_implies, true_implies, b_t0, b_f0, tg_1, rf_1_0, rf_1_1, rf_1_2, rf_1_3, rf_1_4, rf_1_5, rf_1_6, tg_2, rf_2_0, rf_2_1, rf_2_2, rf_2_3, tg_3, ln_3, tg_4, ln_4, tg_5, rf_5_0, tg_6, ln_6, tg_7, rf_7_0, tg_8, ln_8, tg_123, rf_123_0, rf_123_1, rf_123_2, rf_123_3, rf_123_4, tg_124, ln_124, tg_125, rf_125_0, tg_126, ln_126, tg_127, rf_127_0, tg_128, ln_128, tg_129, ln_129, tg_322, rf_322_0, rf_322_1, rf_322_2, rf_322_3, tg_323, ln_323, tg_324, ln_324, tg_325, rf_325_0, rf_325_1, rf_325_2, tg_326, rf_326_0, tg_327, ln_327, tg_328, rf_328_0, tg_329, ln_329, tg_330, rf_330_0, rf_330_1, rf_330_2, tg_331, rf_331_0, tg_332, ln_332, tg_333, rf_333_0, tg_334, ln_334, tg_335, ln_335, tg_336, rf_336_0, tg_337, ln_337, tg_339, ln_339, tg_346, rf_346_1, rf_346_2, rf_346_4, rf_346_5, rf_346_6, rf_346_7, rf_346_8, rf_346_11, rf_346_13, rf_346_14, rf_346_15, rf_346_17, rf_346_18, rf_346_19, rf_346_20, rf_346_21, rf_346_22, rf_346_26, rf_346_28, rf_346_29, rf_346_32, rf_346_34, rf_346_35, rf_346_36, tg_347, ln_347, tg_348, ln_348, tg_349, ln_349, tg_350, ln_350, tg_351, ln_351, tg_352, ln_352, tg_353, ln_353, tg_354, ln_354, tg_355, ln_355, tg_356, ln_356, tg_357, ln_357, tg_358, ln_358, tg_359, ln_359, tg_360, ln_360, tg_361, ln_361, tg_362, ln_362, tg_363, ln_363, tg_364, ln_364, tg_365, ln_365, tg_366, ln_366, tg_367, ln_367, tg_368, ln_368, tg_369, ln_369, tg_370, ln_370]
  | succ k ih =>
    intro t s I a2 hmm ht hs R S
    obtain ⟨r1, r2, r3, r4, r5, r6⟩ := id R
    cases hf : fu s.2.1 s.1 0 with
    | none =>
      refine ⟨I, by unfold wa; rw [hf]; exact R, S, fun d Q => ?_⟩
      rw [w39_2]
      have q1 : ¬ 500 < t := by omega
      have q2 : t < 2147483648 := by omega
      simp only [w39_0, w39_1, w39_3, w39_6, w39_9, w39_10, w39_13, w39_14, w39_15, w39_17, w39_20, w39_21, w39_24, w39_27, w39_28, w39_29, w39_32, w39_35, w39_38, w39_39, w39_40, w39_43, w39_44, w39_45, w39_46, w39_49, w39_52, w39_55, eq_self, Nat.zero_le, n_lt, n_le, n_eq, n_neg, n_cl, n_mul, n_add, z_0, z_1, z_2, sc_0, sc_i, sc_r, sc_l, sc_n, jc_n, jc_i, jc_r, jc_l, Option.toList_some, Option.toList_none, List.cons_append, List.nil_append, Nat.reduceLT, Nat.reduceLeDiff, Nat.reduceMul, Nat.reduceAdd, Nat.reduceSub, Nat.reduceEqDiff, not_false_eq_true, not_true_eq_false, false_or, or_false, true_or, or_true, false_imp_iff, true_imp_iff, and_true, true_and, forall_const, false_implies, true_implies, b_t0, b_f0, tg_1, rf_1_0, rf_1_1, rf_1_2, rf_1_3, rf_1_4, rf_1_5, rf_1_6, tg_2, rf_2_0, rf_2_1, rf_2_2, rf_2_3, tg_3, ln_3, tg_4, ln_4, tg_5, rf_5_0, tg_6, ln_6, tg_7, rf_7_0, tg_8, ln_8, tg_123, rf_123_0, rf_123_1, rf_123_2, rf_123_3, rf_123_4, tg_124, ln_124, tg_125, rf_125_0, tg_126, ln_126, tg_127, rf_127_0, tg_128, ln_128, tg_129, ln_129, tg_322, rf_322_0, rf_322_1, rf_322_2, rf_322_3, tg_323, ln_323, tg_324, ln_324, tg_325, rf_325_0, rf_325_1, rf_325_2, tg_326, rf_326_0, tg_327, ln_327, tg_328, rf_328_0, tg_329, ln_329, tg_330, rf_330_0, rf_330_1, rf_330_2, tg_331, rf_331_0, tg_332, ln_332, tg_333, rf_333_0, tg_334, ln_334, tg_335, ln_335, tg_336, rf_336_0, tg_337, ln_337, tg_339, ln_339, tg_346, rf_346_1, rf_346_2, rf_346_4, rf_346_5, rf_346_6, rf_346_7, rf_346_8, rf_346_11, rf_346_13, rf_346_14, rf_346_15, rf_346_17, rf_346_18, rf_346_19, rf_346_20, rf_346_21, rf_346_22, rf_346_26, rf_346_28, rf_346_29, rf_346_32, rf_346_34, rf_346_35, rf_346_36, tg_347, ln_347, tg_348, ln_348, tg_349, ln_349, tg_350, ln_350, tg_351, ln_351, tg_352, ln_352, tg_353, ln_353, tg_354, ln_354, tg_355, ln_355, tg_356, ln_356, tg_357, ln_357, tg_358, ln_358, tg_359, ln_359, tg_360, ln_360, tg_361, ln_361, tg_362, ln_362, tg_363, ln_363, tg_364, ln_364, tg_365, ln_365, tg_366, ln_366, tg_367, ln_367, tg_368, ln_368, tg_369, ln_369, tg_370, ln_370, sp_fu R, hf, oI_n, q1, n_lt (show 500 < 2147483648 by decide) q2]
    | some h =>
      have hh : h < s.1 := by have := fu_lt hf; omega
      have q1 : ¬ 500 < t := by omega
      have q2 : t < 2147483648 := by omega
      have hh64 : h < 64 := by omega
      cases hsp : s.2.2.2 with
      | true =>
        rw [hsp] at r5
        refine ⟨I, by unfold wa; rw [hf]; dsimp only; rw [if_pos hsp]; exact R, S, fun d Q => ?_⟩
        rw [w39_2]
        simp only [w39_0, w39_1, w39_3, w39_6, w39_9, w39_10, w39_13, w39_14, w39_15, w39_17, w39_20, w39_21, w39_24, w39_27, w39_28, w39_29, w39_32, w39_35, w39_38, w39_39, w39_40, w39_43, w39_44, w39_45, w39_46, w39_49, w39_52, w39_55, eq_self, Nat.zero_le, n_lt, n_le, n_eq, n_neg, n_cl, n_mul, n_add, z_0, z_1, z_2, sc_0, sc_i, sc_r, sc_l, sc_n, jc_n, jc_i, jc_r, jc_l, Option.toList_some, Option.toList_none, List.cons_append, List.nil_append, Nat.reduceLT, Nat.reduceLeDiff, Nat.reduceMul, Nat.reduceAdd, Nat.reduceSub, Nat.reduceEqDiff, not_false_eq_true, not_true_eq_false, false_or, or_false, true_or, or_true, false_imp_iff, true_imp_iff, and_true, true_and, forall_const, false_implies, true_implies, b_t0, b_f0, tg_1, rf_1_0, rf_1_1, rf_1_2, rf_1_3, rf_1_4, rf_1_5, rf_1_6, tg_2, rf_2_0, rf_2_1, rf_2_2, rf_2_3, tg_3, ln_3, tg_4, ln_4, tg_5, rf_5_0, tg_6, ln_6, tg_7, rf_7_0, tg_8, ln_8, tg_123, rf_123_0, rf_123_1, rf_123_2, rf_123_3, rf_123_4, tg_124, ln_124, tg_125, rf_125_0, tg_126, ln_126, tg_127, rf_127_0, tg_128, ln_128, tg_129, ln_129, tg_322, rf_322_0, rf_322_1, rf_322_2, rf_322_3, tg_323, ln_323, tg_324, ln_324, tg_325, rf_325_0, rf_325_1, rf_325_2, tg_326, rf_326_0, tg_327, ln_327, tg_328, rf_328_0, tg_329, ln_329, tg_330, rf_330_0, rf_330_1, rf_330_2, tg_331, rf_331_0, tg_332, ln_332, tg_333, rf_333_0, tg_334, ln_334, tg_335, ln_335, tg_336, rf_336_0, tg_337, ln_337, tg_339, ln_339, tg_346, rf_346_1, rf_346_2, rf_346_4, rf_346_5, rf_346_6, rf_346_7, rf_346_8, rf_346_11, rf_346_13, rf_346_14, rf_346_15, rf_346_17, rf_346_18, rf_346_19, rf_346_20, rf_346_21, rf_346_22, rf_346_26, rf_346_28, rf_346_29, rf_346_32, rf_346_34, rf_346_35, rf_346_36, tg_347, ln_347, tg_348, ln_348, tg_349, ln_349, tg_350, ln_350, tg_351, ln_351, tg_352, ln_352, tg_353, ln_353, tg_354, ln_354, tg_355, ln_355, tg_356, ln_356, tg_357, ln_357, tg_358, ln_358, tg_359, ln_359, tg_360, ln_360, tg_361, ln_361, tg_362, ln_362, tg_363, ln_363, tg_364, ln_364, tg_365, ln_365, tg_366, ln_366, tg_367, ln_367, tg_368, ln_368, tg_369, ln_369, tg_370, ln_370, sp_fu R, hf, oI_s hh64, q1, n_lt (show 500 < 2147483648 by decide) q2, r5, Bool.true_eq_false]
      | false =>
        rw [hsp] at r5
        have hns : ¬ s.2.2.2 = true := by rw [hsp]; decide
        by_cases q : t = 500
        · subst q
          refine ⟨f_up I 123 8 (nI 1), ?_, ?_, fun d Q => ?_⟩
          · unfold wa; rw [hf]; dsimp only; rw [if_neg hns, if_pos (by omega)]
            exact (x_spent_R R).1
          · exact S.tr (x_spent_R R).2.SW
          · rw [w39_2]
            simp only [w39_0, w39_1, w39_3, w39_6, w39_9, w39_10, w39_13, w39_14, w39_15, w39_17, w39_20, w39_21, w39_24, w39_27, w39_28, w39_29, w39_32, w39_35, w39_38, w39_39, w39_40, w39_43, w39_44, w39_45, w39_46, w39_49, w39_52, w39_55, eq_self, Nat.zero_le, n_lt, n_le, n_eq, n_neg, n_cl, n_mul, n_add, z_0, z_1, z_2, sc_0, sc_i, sc_r, sc_l, sc_n, jc_n, jc_i, jc_r, jc_l, Option.toList_some, Option.toList_none, List.cons_append, List.nil_append, Nat.reduceLT, Nat.reduceLeDiff, Nat.reduceMul, Nat.reduceAdd, Nat.reduceSub, Nat.reduceEqDiff, not_false_eq_true, not_true_eq_false, false_or, or_false, true_or, or_true, false_imp_iff, true_imp_iff, and_true, true_and, forall_const, false_implies, true_implies, b_t0, b_f0, tg_1, rf_1_0, rf_1_1, rf_1_2, rf_1_3, rf_1_4, rf_1_5, rf_1_6, tg_2, rf_2_0, rf_2_1, rf_2_2, rf_2_3, tg_3, ln_3, tg_4, ln_4, tg_5, rf_5_0, tg_6, ln_6, tg_7, rf_7_0, tg_8, ln_8, tg_123, rf_123_0, rf_123_1, rf_123_2, rf_123_3, rf_123_4, tg_124, ln_124, tg_125, rf_125_0, tg_126, ln_126, tg_127, rf_127_0, tg_128, ln_128, tg_129, ln_129, tg_322, rf_322_0, rf_322_1, rf_322_2, rf_322_3, tg_323, ln_323, tg_324, ln_324, tg_325, rf_325_0, rf_325_1, rf_325_2, tg_326, rf_326_0, tg_327, ln_327, tg_328, rf_328_0, tg_329, ln_329, tg_330, rf_330_0, rf_330_1, rf_330_2, tg_331, rf_331_0, tg_332, ln_332, tg_333, rf_333_0, tg_334, ln_334, tg_335, ln_335, tg_336, rf_336_0, tg_337, ln_337, tg_339, ln_339, tg_346, rf_346_1, rf_346_2, rf_346_4, rf_346_5, rf_346_6, rf_346_7, rf_346_8, rf_346_11, rf_346_13, rf_346_14, rf_346_15, rf_346_17, rf_346_18, rf_346_19, rf_346_20, rf_346_21, rf_346_22, rf_346_26, rf_346_28, rf_346_29, rf_346_32, rf_346_34, rf_346_35, rf_346_36, tg_347, ln_347, tg_348, ln_348, tg_349, ln_349, tg_350, ln_350, tg_351, ln_351, tg_352, ln_352, tg_353, ln_353, tg_354, ln_354, tg_355, ln_355, tg_356, ln_356, tg_357, ln_357, tg_358, ln_358, tg_359, ln_359, tg_360, ln_360, tg_361, ln_361, tg_362, ln_362, tg_363, ln_363, tg_364, ln_364, tg_365, ln_365, tg_366, ln_366, tg_367, ln_367, tg_368, ln_368, tg_369, ln_369, tg_370, ln_370, sp_fu R, hf, oI_s hh64, q1, n_lt (show 500 < 2147483648 by decide) q2, r5, r4, hs]
        · have q3 : s.2.2.1 < 500 := by omega
          have q4 : s.2.2.1 < 2147483648 := by omega
          obtain ⟨I2, R2, S2, E2⟩ := x_work (xs := xs) (L := L) (hM.sw S) hT hmm R hh (by omega)
          have hE : gE 6 (wk lim jc fj tj (fun m f => rFl I m f) (fun j f => rS1 I j f) (fun j f => rS3 I j (tj j) f) s h) (wk lim jc fj tj (fun m f => rFl I0 m f) (fun j f => rS1 I0 j f) (fun j f => rS3 I0 j (tj j) f) s h) := by
            refine wk_congr (mc := 6) ?_ ?_ ?_ (fun j hj => (hM.2.2.2.2.1 j hj).2.2.2.1) ⟨rfl, fun i hi => ⟨(r6 i hi).2.1, rfl, E6.rf, rfl⟩, rfl⟩ hh
            · intro m hm f f' hff
              dsimp only
              rw [rFl_sw S hm]
              exact BE_fl m hm f f' hff
            · intro j hj f f' hff
              dsimp only
              rw [rS1_sw S (by have := hM.2.2.2.1; omega)]
              exact BE_r1 (jc := jc) j hj f f' hff
            · intro j hj f f' hff
              dsimp only
              rw [rS3_sw S (by have := hM.2.2.2.1; omega) (hM.2.2.2.2.1 j hj).2.2.2.1]
              exact BE_r3 (jc := jc) (tj := tj) j hj f f' hff
          have hmm' : ∀ i, i < (wk lim jc fj tj (fun m f => rFl I0 m f) (fun j f => rS1 I0 j f) (fun j f => rS3 I0 j (tj j) f) s h).1 → ((wk lim jc fj tj (fun m f => rFl I0 m f) (fun j f => rS1 I0 j f) (fun j f => rS3 I0 j (tj j) f) s h).2.1 i).1 < mc := fun i hi => ((wk_congr (mc := mc) (lim := lim) (jc := jc) (fj := fj) (tj := tj) (BE_fl (I := I0)) (BE_r1 (I := I0)) (BE_r3 (I := I0) (tj := tj)) hT (s := s) (s' := s) ⟨rfl, fun i hi => ⟨hmm i hi, rfl, E6.rf, rfl⟩, rfl⟩ hh).2.1 i hi).1
          obtain ⟨I', R', S', E'⟩ := ih (t + 1) _ I2 (some (.int (oI (some h)))) hmm' (by omega) (by rw [wk_works, hs]) (RX_gE R2 hE) (S.tr S2)
          refine ⟨I', ?_, S', fun d Q => ?_⟩
          · unfold wa; rw [hf]; dsimp only; rw [if_neg hns, if_neg (by omega)]
            exact R'
          · rw [w39_2, ← E' d Q]
            simp only [w39_0, w39_1, w39_3, w39_6, w39_9, w39_10, w39_13, w39_14, w39_15, w39_17, w39_20, w39_21, w39_24, w39_27, w39_28, w39_29, w39_32, w39_35, w39_38, w39_39, w39_40, w39_43, w39_44, w39_45, w39_46, w39_49, w39_52, w39_55, eq_self, Nat.zero_le, n_lt, n_le, n_eq, n_neg, n_cl, n_mul, n_add, z_0, z_1, z_2, sc_0, sc_i, sc_r, sc_l, sc_n, jc_n, jc_i, jc_r, jc_l, Option.toList_some, Option.toList_none, List.cons_append, List.nil_append, Nat.reduceLT, Nat.reduceLeDiff, Nat.reduceMul, Nat.reduceAdd, Nat.reduceSub, Nat.reduceEqDiff, not_false_eq_true, not_true_eq_false, false_or, or_false, true_or, or_true, false_imp_iff, true_imp_iff, and_true, true_and, forall_const, false_implies, true_implies, b_t0, b_f0, tg_1, rf_1_0, rf_1_1, rf_1_2, rf_1_3, rf_1_4, rf_1_5, rf_1_6, tg_2, rf_2_0, rf_2_1, rf_2_2, rf_2_3, tg_3, ln_3, tg_4, ln_4, tg_5, rf_5_0, tg_6, ln_6, tg_7, rf_7_0, tg_8, ln_8, tg_123, rf_123_0, rf_123_1, rf_123_2, rf_123_3, rf_123_4, tg_124, ln_124, tg_125, rf_125_0, tg_126, ln_126, tg_127, rf_127_0, tg_128, ln_128, tg_129, ln_129, tg_322, rf_322_0, rf_322_1, rf_322_2, rf_322_3, tg_323, ln_323, tg_324, ln_324, tg_325, rf_325_0, rf_325_1, rf_325_2, tg_326, rf_326_0, tg_327, ln_327, tg_328, rf_328_0, tg_329, ln_329, tg_330, rf_330_0, rf_330_1, rf_330_2, tg_331, rf_331_0, tg_332, ln_332, tg_333, rf_333_0, tg_334, ln_334, tg_335, ln_335, tg_336, rf_336_0, tg_337, ln_337, tg_339, ln_339, tg_346, rf_346_1, rf_346_2, rf_346_4, rf_346_5, rf_346_6, rf_346_7, rf_346_8, rf_346_11, rf_346_13, rf_346_14, rf_346_15, rf_346_17, rf_346_18, rf_346_19, rf_346_20, rf_346_21, rf_346_22, rf_346_26, rf_346_28, rf_346_29, rf_346_32, rf_346_34, rf_346_35, rf_346_36, tg_347, ln_347, tg_348, ln_348, tg_349, ln_349, tg_350, ln_350, tg_351, ln_351, tg_352, ln_352, tg_353, ln_353, tg_354, ln_354, tg_355, ln_355, tg_356, ln_356, tg_357, ln_357, tg_358, ln_358, tg_359, ln_359, tg_360, ln_360, tg_361, ln_361, tg_362, ln_362, tg_363, ln_363, tg_364, ln_364, tg_365, ln_365, tg_366, ln_366, tg_367, ln_367, tg_368, ln_368, tg_369, ln_369, tg_370, ln_370, sp_fu R, hf, oI_s hh64, q1, n_lt (show 500 < 2147483648 by decide) q2, r5, r4, hs, n_lt q2 (show 500 < 2147483648 by decide), (show t < 500 by omega)]
            simp only [oI_v, E2, eq_self, Nat.zero_le, n_lt, n_le, n_eq, n_neg, n_cl, n_mul, n_add, z_0, z_1, z_2, sc_0, sc_i, sc_r, sc_l, sc_n, jc_n, jc_i, jc_r, jc_l, Option.toList_some, Option.toList_none, List.cons_append, List.nil_append, Nat.reduceLT, Nat.reduceLeDiff, Nat.reduceMul, Nat.reduceAdd, Nat.reduceSub, Nat.reduceEqDiff, not_false_eq_true, not_true_eq_false, false_or, or_false, true_or, or_true, false_imp_iff, true_imp_iff, and_true, true_and, forall_const, false_implies, true_implies, b_t0, b_f0]
theorem x_workAll {lim mc jc : Nat} {fj tj : Nat → Nat} {s : gS} {I : fI} (hM : MI I mc jc fj tj lim) (hT : ∀ j, j < jc → tj j < mc) (hmm : ∀ i, i < s.1 → (s.2.1 i).1 < mc) (R : RX I s) (hs : s.2.2.1 = 0) : ∃ I', RX I' (wa lim jc fj tj (fun m f => rFl I m f) (fun j f => rS1 I j f) (fun j f => rS3 I j (tj j) f) 501 s) ∧ SW I I' ∧ ∀ (d : Nat) (Q : Option Value × jW → Prop), Wp (d + 4) 39 0 [some (.ref 123), none, none] [] (f_W xs I L) Q = Q (none, f_W xs I' L) := by
  obtain ⟨I', R', S', E'⟩ := x_waloop (xs := xs) (L := L) hM hT 501 0 s I none hmm (by omega) hs R SW.rf
  refine ⟨I', R', S', fun d Q => ?_⟩
  rw [← E' d Q]
  simp only [w39_0, w39_1, w39_3, w39_6, w39_9, w39_10, w39_13, w39_14, w39_15, w39_17, w39_20, w39_21, w39_24, w39_27, w39_28, w39_29, w39_32, w39_35, w39_38, w39_39, w39_40, w39_43, w39_44, w39_45, w39_46, w39_49, w39_52, w39_55, eq_self, Nat.zero_le, n_lt, n_le, n_eq, n_neg, n_cl, n_mul, n_add, z_0, z_1, z_2, sc_0, sc_i, sc_r, sc_l, sc_n, jc_n, jc_i, jc_r, jc_l, Option.toList_some, Option.toList_none, List.cons_append, List.nil_append, Nat.reduceLT, Nat.reduceLeDiff, Nat.reduceMul, Nat.reduceAdd, Nat.reduceSub, Nat.reduceEqDiff, not_false_eq_true, not_true_eq_false, false_or, or_false, true_or, or_true, false_imp_iff, true_imp_iff, and_true, true_and, forall_const, false_implies, true_implies, b_t0, b_f0, tg_1, rf_1_0, rf_1_1, rf_1_2, rf_1_3, rf_1_4, rf_1_5, rf_1_6, tg_2, rf_2_0, rf_2_1, rf_2_2, rf_2_3, tg_3, ln_3, tg_4, ln_4, tg_5, rf_5_0, tg_6, ln_6, tg_7, rf_7_0, tg_8, ln_8, tg_123, rf_123_0, rf_123_1, rf_123_2, rf_123_3, rf_123_4, tg_124, ln_124, tg_125, rf_125_0, tg_126, ln_126, tg_127, rf_127_0, tg_128, ln_128, tg_129, ln_129, tg_322, rf_322_0, rf_322_1, rf_322_2, rf_322_3, tg_323, ln_323, tg_324, ln_324, tg_325, rf_325_0, rf_325_1, rf_325_2, tg_326, rf_326_0, tg_327, ln_327, tg_328, rf_328_0, tg_329, ln_329, tg_330, rf_330_0, rf_330_1, rf_330_2, tg_331, rf_331_0, tg_332, ln_332, tg_333, rf_333_0, tg_334, ln_334, tg_335, ln_335, tg_336, rf_336_0, tg_337, ln_337, tg_339, ln_339, tg_346, rf_346_1, rf_346_2, rf_346_4, rf_346_5, rf_346_6, rf_346_7, rf_346_8, rf_346_11, rf_346_13, rf_346_14, rf_346_15, rf_346_17, rf_346_18, rf_346_19, rf_346_20, rf_346_21, rf_346_22, rf_346_26, rf_346_28, rf_346_29, rf_346_32, rf_346_34, rf_346_35, rf_346_36, tg_347, ln_347, tg_348, ln_348, tg_349, ln_349, tg_350, ln_350, tg_351, ln_351, tg_352, ln_352, tg_353, ln_353, tg_354, ln_354, tg_355, ln_355, tg_356, ln_356, tg_357, ln_357, tg_358, ln_358, tg_359, ln_359, tg_360, ln_360, tg_361, ln_361, tg_362, ln_362, tg_363, ln_363, tg_364, ln_364, tg_365, ln_365, tg_366, ln_366, tg_367, ln_367, tg_368, ln_368, tg_369, ln_369, tg_370, ln_370]
end ALLS
