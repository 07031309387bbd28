/-! many: the class -/
theorem nI_127 (x : Nat) : nI x &&& nI 127 = nI (x % 128) := by
  apply Int32.toBitVec_inj.mp
  rw [Int32.toBitVec_and]
  show BitVec.ofNat 32 x &&& BitVec.ofNat 32 127 = BitVec.ofNat 32 (x % 128)
  apply BitVec.eq_of_toNat_eq
  rw [BitVec.toNat_and, BitVec.toNat_ofNat, BitVec.toNat_ofNat, BitVec.toNat_ofNat, show 127 % 2 ^ 32 = 2 ^ 7 - 1 by decide, Nat.and_two_pow_sub_one_eq_mod]
  omega
theorem nI_and1 (x : Nat) : nI x &&& nI 1 = nI (x % 2) := by
  apply Int32.toBitVec_inj.mp
  rw [Int32.toBitVec_and]
  show BitVec.ofNat 32 x &&& BitVec.ofNat 32 1 = BitVec.ofNat 32 (x % 2)
  apply BitVec.eq_of_toNat_eq
  rw [BitVec.toNat_and, BitVec.toNat_ofNat, BitVec.toNat_ofNat, BitVec.toNat_ofNat, show 1 % 2 ^ 32 = 2 ^ 1 - 1 by decide, Nat.and_two_pow_sub_one_eq_mod]
  omega
/-- numbers from -20 on -/
theorem v_ex {x : Int32} (h1 : -20 ≤ x.toInt) (h2 : x.toInt ≤ 20) : x = nI (x.toInt + 20).toNat - nI 20 ∧ (x.toInt + 20).toNat ≤ 40 := by
  have hd : ∀ a, a < 41 → (nI a - nI 20).toInt = (a : Int) - 20 := by decide +kernel
  refine ⟨?_, by omega⟩
  apply Int32.toInt_inj.mp
  rw [hd _ (by omega)]
  omega
theorem v_w : ∀ b, b < 41 → ∀ a, a ≤ b → (nI b - nI 20) - (nI a - nI 20) + nI 1 = nI (b - a + 1) := by
  have hd : ∀ b, b < 41 → ∀ a, a < 41 → a ≤ b → (nI b - nI 20) - (nI a - nI 20) + nI 1 = nI (b - a + 1) := by decide +kernel
  exact fun b hb a ha => hd b hb a (by omega) ha
theorem v_a : ∀ a, a < 42 → nI a - nI 20 + nI 20 = nI a := by decide +kernel
theorem v_s : ∀ a, a < 42 → nI a - nI 20 + nI 1 = nI (a + 1) - nI 20 := by decide +kernel
theorem v_gt : ∀ a, a < 42 → ((nI 20 < nI a - nI 20) = (40 < a)) := by
  have hd : ∀ a, a < 42 → (decide (nI 20 < nI a - nI 20) = decide (40 < a)) := by decide +kernel
  exact fun a h => propext (by simpa using hd a h)
theorem v_0 : (-20 : Int32) = nI 0 - nI 20 := by decide
def mkN (a b : Nat) : Nat := 2 ^ (b + 1) - 2 ^ a
theorem mkN_lt {a b : Nat} (h : b ≤ 40) : mkN a b < 2 ^ 41 := by
  unfold mkN
  have h1 : 2 ^ (b + 1) ≤ 2 ^ 41 := Nat.pow_le_pow_right (by decide) (by omega)
  have h2 : 0 < 2 ^ a := Nat.pow_pos (by decide)
  omega
theorem mkN_X {a b : Nat} (h : a ≤ b) (h2 : b ≤ 40) : (lN 1 <<< ((nI (b - a + 1)).toInt64 &&& 63) - lN 1) <<< ((nI a).toInt64 &&& 63) = lN (mkN a b) := by
  have e : (1 * 2 ^ (b - a + 1) - 1) * 2 ^ a = mkN a b := by
    unfold mkN
    rw [Nat.sub_mul, Nat.one_mul, Nat.one_mul, ← Nat.pow_add, show b - a + 1 + a = b + 1 by omega]
  rw [wb_shl 1 (by omega), lN_sub (by rw [Nat.one_mul]; exact Nat.one_le_two_pow), wb_shl _ (by omega), e]
theorem mkN_M {a b : Nat} (h : a ≤ b) (h2 : b ≤ 40) : lN 1 <<< ((nI (b + 1)).toInt64 &&& 63) - lN 1 <<< ((nI a).toInt64 &&& 63) = lN (mkN a b) := by
  rw [wb_shl 1 (by omega), wb_shl 1 (by omega), lN_sub (by rw [Nat.one_mul, Nat.one_mul]; exact Nat.pow_le_pow_right (by decide) (by omega))]
  unfold mkN
  rw [Nat.one_mul, Nat.one_mul]
def cH (e : gH) (m : Nat) (x y : Int32) : Bool := decide (e.1 = m) && (bHas e.2.1 0 x && bHas e.2.1 1 y)
def mkH (e : gH) : Nat := mkN ((e.2.1 4).toInt + 20).toNat ((e.2.1 5).toInt + 20).toNat
def colN (f : Nat → gH) (m : Nat) (x y : Int32) : Nat → Nat
  | 0 => 0
  | n + 1 => if cH (f n) m x y = true then colN f m x y n ||| mkH (f n) else colN f m x y n
/-- a heap as many wants it -/
def gdH (e : gH) : Prop := RG e.2.1 ∧ bEmp e.2.1 = false
theorem gdH_ab {e : gH} (h : gdH e) : e.2.1 4 = nI ((e.2.1 4).toInt + 20).toNat - nI 20 ∧ e.2.1 5 = nI ((e.2.1 5).toInt + 20).toNat - nI 20 ∧ ((e.2.1 4).toInt + 20).toNat ≤ ((e.2.1 5).toInt + 20).toNat ∧ ((e.2.1 5).toInt + 20).toNat ≤ 40 := by
  obtain ⟨h1, h2⟩ := h
  have a4 := h1 4 (by omega)
  have a5 := h1 5 (by omega)
  unfold bEmp at h2
  simp only [Bool.or_eq_false_iff, decide_eq_false_iff_not] at h2
  have h3 := h2.2
  rw [i_lt] at h3
  exact ⟨(v_ex a4.1 a4.2).1, (v_ex a5.1 a5.2).1, by omega, by omega⟩
theorem mkH_lt {e : gH} (h : gdH e) : mkH e < 2 ^ 41 := mkN_lt (gdH_ab h).2.2.2
theorem colN_lt {f : Nat → gH} {m : Nat} {x y : Int32} : ∀ n, (∀ i, i < n → gdH (f i)) → colN f m x y n < 2 ^ 41 := by
  intro n
  induction n with
  | zero => intro _; exact Nat.pow_pos (by decide)
  | succ n ih =>
    intro h
    unfold colN
    have := ih (fun i hi => h i (by omega))
    split
    · exact Nat.or_lt_two_pow this (mkH_lt (h n (by omega)))
    · exact this
theorem colN_congr {f f' : Nat → gH} {mc m : Nat} {x y : Int32} : ∀ n, (∀ i, i < n → hE mc (f i) (f' i)) → colN f m x y n = colN f' m x y n := by
  intro n
  induction n with
  | zero => intro _; rfl
  | succ n ih =>
    intro h
    obtain ⟨g1, g2, g3, g4⟩ := h n (by omega)
    unfold colN cH mkH
    rw [ih (fun i hi => h i (by omega)), g2, bHas_E g3 (by omega), bHas_E g3 (by omega), g3 4 (by omega), g3 5 (by omega)]
section MANY
variable {xs : List Value} {I : fI} {mc jc lim sm : Nat} {fj tj : Nat → Nat} {s : gS}
set_option maxHeartbeats 4000000 in
theorem sp_bitCount {d n : Nat} {Q : Option Value × jW → Prop} {w : jW} (h : n < 2 ^ 41) : Wp d 67 0 [some (.long (lN n)), none] [] w Q = Q (some (.int (nI (sumB n 41))), w) := by
  have p41 : (2 : Nat) ^ 41 = 2199023255552 := by decide
  have p64 : (2 : Nat) ^ 64 = 18446744073709551616 := by decide
  have c5 : mk5 8 = 6148914691236517205 := by decide
  have c3 : mk3 8 = 3689348814741910323 := by decide
  have cf : mkf 8 = 1085102592571150095 := by decide
  have b1 : bw1 (mk5 8) n ≤ n := Nat.sub_le _ _
  have b2 : bw2 (mk3 8) (bw1 (mk5 8) n) ≤ 2 * bw1 (mk5 8) n := by
    have a1 : bw1 (mk5 8) n &&& mk3 8 ≤ bw1 (mk5 8) n := Nat.and_le_left
    have a2 : (bw1 (mk5 8) n / 4) &&& mk3 8 ≤ bw1 (mk5 8) n / 4 := Nat.and_le_left
    unfold bw2
    omega
  obtain ⟨-, e3⟩ := bw_all 8 n
  obtain ⟨q1, q2⟩ := pcs_sum h
  generalize hx1 : bw1 (mk5 8) n = x1 at b1 b2 e3
  generalize hx2 : bw2 (mk3 8) x1 = x2 at b2 e3
  generalize hx3 : pcs 8 n = x3 at e3 q1 q2
  have l1 : x1 < 2 ^ 64 := by omega
  have l2 : x2 < 2 ^ 64 := by omega
  have f1 : ((lN n).toUInt64 >>> ((nI 1).toInt64.toUInt64 &&& Int64.toUInt64 63)).toInt64 = lN (n / 2) := wb_shr (k := 1) (by omega) (by omega)
  have f2 : lN (n / 2) &&& lN 6148914691236517205 = lN ((n / 2) &&& mk5 8) := by rw [← c5]; exact wb_and (by omega) (by rw [c5]; decide)
  have f3 : lN n - lN ((n / 2) &&& mk5 8) = lN x1 := by
    rw [lN_sub (Nat.le_trans Nat.and_le_left (Nat.div_le_self _ _)), ← hx1]
    rfl
  have f4 : lN x1 &&& lN 3689348814741910323 = lN (x1 &&& mk3 8) := by rw [← c3]; exact wb_and l1 (by rw [c3]; decide)
  have f5 : ((lN x1).toUInt64 >>> ((nI 2).toInt64.toUInt64 &&& Int64.toUInt64 63)).toInt64 = lN (x1 / 4) := wb_shr (k := 2) l1 (by omega)
  have f6 : lN (x1 / 4) &&& lN 3689348814741910323 = lN ((x1 / 4) &&& mk3 8) := by rw [← c3]; exact wb_and (by omega) (by rw [c3]; decide)
  have f7 : lN (x1 &&& mk3 8) + lN ((x1 / 4) &&& mk3 8) = lN x2 := by rw [lN_add, ← hx2]; rfl
  have f8 : ((lN x2).toUInt64 >>> ((nI 4).toInt64.toUInt64 &&& Int64.toUInt64 63)).toInt64 = lN (x2 / 16) := wb_shr (k := 4) l2 (by omega)
  have f9 : lN x2 + lN (x2 / 16) = lN (x2 + x2 / 16) := lN_add _ _
  have f10 : lN (x2 + x2 / 16) &&& lN 1085102592571150095 = lN x3 := by
    rw [← e3]
    unfold bw3
    rw [← cf]
    exact wb_and (by omega) (by rw [cf]; decide)
  have l3 : x3 < 2 ^ 64 := by omega
  have f11 : ((lN x3).toUInt64 >>> ((nI 8).toInt64.toUInt64 &&& Int64.toUInt64 63)).toInt64 = lN (x3 / 256) := wb_shr (k := 8) l3 (by omega)
  have f12 : lN x3 + lN (x3 / 256) = lN (x3 + x3 / 256) := lN_add _ _
  have l4 : x3 + x3 / 256 < 2305843009213693952 := by omega
  generalize hx4 : x3 + x3 / 256 = x4 at f12 l4 q2
  have f13 : ((lN x4).toUInt64 >>> ((nI 16).toInt64.toUInt64 &&& Int64.toUInt64 63)).toInt64 = lN (x4 / 65536) := wb_shr (k := 16) (by omega) (by omega)
  have f14 : lN x4 + lN (x4 / 65536) = lN (x4 + x4 / 65536) := lN_add _ _
  have l5 : x4 + x4 / 65536 < 4611686018427387904 := by omega
  generalize hx5 : x4 + x4 / 65536 = x5 at f14 l5 q2
  have f15 : ((lN x5).toUInt64 >>> ((nI 32).toInt64.toUInt64 &&& Int64.toUInt64 63)).toInt64 = lN (x5 / 4294967296) := wb_shr (k := 32) (by omega) (by omega)
  have f16 : lN x5 + lN (x5 / 4294967296) = lN (x5 + x5 / 4294967296) := lN_add _ _
  simp only [w67_0, w67_1, w67_2, w67_3, w67_4, w67_7, w67_8, w67_9, w67_10, w67_11, w67_14, w67_15, w67_16, w67_17, w67_18, w67_21, w67_22, w67_23, w67_24, w67_25, w67_26, w67_27, w67_28, w67_29, w67_32, w67_33, w67_34, w67_35, w67_36, w67_38, w67_39, w67_40, w67_41, w67_42, w67_43, w67_45, w67_46, w67_47, w67_48, w67_49, w67_50, w67_52, w67_53, w67_54, w67_55, w67_56, w67_57, w67_59, w67_60, eq_self, Nat.zero_le, n_lt, n_le, n_eq, n_neg, n_cl, n_mul, n_add, z_0, z_1, z_2, sc_0, sc_i, sc_r, sc_l, sc_n, jc_n, jc_i, jc_r, jc_l, Option.toList_some, Option.toList_none, List.cons_append, List.nil_append, Nat.reduceLT, Nat.reduceLeDiff, Nat.reduceMul, Nat.reduceAdd, Nat.reduceSub, Nat.reduceEqDiff, not_false_eq_true, not_true_eq_false, false_or, or_false, true_or, or_true, false_imp_iff, true_imp_iff, and_true, true_and, forall_const, false_implies, true_implies, b_t0, b_f0, f1, f2, f3, f4, f5, f6, f7, f8, f9, f10, f11, f12, f13, f14, f15, f16, lN_i, nI_127, q2]
/-- mark -/
theorem x_mark {h a b : Nat} {bits : Nat} {w : Int32} (hh : h < 64) : ∀ (k i : Nat) (L : fL), i + k = 41 → ∃ L' : fL, (∀ j, j < 41 → L' j = if i ≤ j ∧ bHas (I (132 + 3 * h)) 1 (nI j - nI 20) = true then L j ||| lN bits else L j) ∧ ∀ (d : Nat) (Q : Option Value × jW → Prop), Wp (d + 2) 66 32 [some (.ref 123), some (.ref (131 + 3 * h)), some (.int w), some (.long (lN bits)), none, some (.int (nI i))] [] (f_W xs I L) Q = Q (none, f_W xs I L') := by
  have hb := bx_hp hh
  intro k
  induction k with
  | zero =>
    intro i L hi
    have hi : i = 41 := by omega
    subst hi
    refine ⟨L, fun j hj => by rw [if_neg (fun r => by omega)], fun d Q => ?_⟩
    rw [w66_32]
    simp only [w66_0, w66_1, w66_2, w66_5, w66_6, w66_7, w66_10, w66_11, w66_12, w66_13, w66_14, w66_15, w66_16, w66_17, w66_18, w66_19, w66_20, w66_21, w66_24, w66_26, w66_27, w66_28, w66_29, w66_30, w66_34, w66_35, w66_38, w66_39, w66_42, w66_43, w66_44, w66_46, w66_48, w66_49, w66_52, w66_55, w66_56, w66_59, w66_61, w66_62, w66_63, w66_64, w66_65, w66_66, w66_69, w66_72, eq_self, Nat.zero_le, n_lt, n_le, n_eq, n_neg, n_cl, n_mul, n_add, z_0, z_1, z_2, sc_0, sc_i, sc_r, sc_l, sc_n, jc_n, jc_i, jc_r, jc_l, Option.toList_some, Option.toList_none, List.cons_append, List.nil_append, Nat.reduceLT, Nat.reduceLeDiff, Nat.reduceMul, Nat.reduceAdd, Nat.reduceSub, Nat.reduceEqDiff, not_false_eq_true, not_true_eq_false, false_or, or_false, true_or, or_true, false_imp_iff, true_imp_iff, and_true, true_and, forall_const, false_implies, true_implies, b_t0, b_f0, tg_1, rf_1_0, rf_1_1, rf_1_2, rf_1_3, rf_1_4, rf_1_5, rf_1_6, tg_2, rf_2_0, rf_2_1, rf_2_2, rf_2_3, tg_3, ln_3, tg_4, ln_4, tg_5, rf_5_0, tg_6, ln_6, tg_7, rf_7_0, tg_8, ln_8, tg_123, rf_123_0, rf_123_1, rf_123_2, rf_123_3, rf_123_4, tg_124, ln_124, tg_125, rf_125_0, tg_126, ln_126, tg_127, rf_127_0, tg_128, ln_128, tg_129, ln_129, tg_322, rf_322_0, rf_322_1, rf_322_2, rf_322_3, tg_323, ln_323, tg_324, ln_324, tg_325, rf_325_0, rf_325_1, rf_325_2, tg_326, rf_326_0, tg_327, ln_327, tg_328, rf_328_0, tg_329, ln_329, tg_330, rf_330_0, rf_330_1, rf_330_2, tg_331, rf_331_0, tg_332, ln_332, tg_333, rf_333_0, tg_334, ln_334, tg_335, ln_335, tg_336, rf_336_0, tg_337, ln_337, tg_339, ln_339, tg_346, rf_346_1, rf_346_2, rf_346_4, rf_346_5, rf_346_6, rf_346_7, rf_346_8, rf_346_11, rf_346_13, rf_346_14, rf_346_15, rf_346_17, rf_346_18, rf_346_19, rf_346_20, rf_346_21, rf_346_22, rf_346_26, rf_346_28, rf_346_29, rf_346_32, rf_346_34, rf_346_35, rf_346_36, tg_347, ln_347, tg_348, ln_348, tg_349, ln_349, tg_350, ln_350, tg_351, ln_351, tg_352, ln_352, tg_353, ln_353, tg_354, ln_354, tg_355, ln_355, tg_356, ln_356, tg_357, ln_357, tg_358, ln_358, tg_359, ln_359, tg_360, ln_360, tg_361, ln_361, tg_362, ln_362, tg_363, ln_363, tg_364, ln_364, tg_365, ln_365, tg_366, ln_366, tg_367, ln_367, tg_368, ln_368, tg_369, ln_369, tg_370, ln_370, Nat.le_refl]
  | succ k ih =>
    intro i L hi
    have s1 : i < 2147483648 := by omega
    have s2 : ¬ 41 ≤ i := by omega
    have ha := fun (d : Nat) (Q : Option Value × jW → Prop) (L : fL) => sp_has (d := d) (Q := Q) (xs := xs) (I := I) (L := L) (v := nI i - nI 20) hb (show 1 < 3 by omega)
    simp only [show 131 + 3 * h + 1 = 132 + 3 * h by omega] at ha
    cases hc : bHas (I (132 + 3 * h)) 1 (nI i - nI 20) with
    | false =>
      simp only [hc] at ha
      obtain ⟨L', h1, E⟩ := ih (i + 1) L (by omega)
      refine ⟨L', fun j hj => ?_, fun d Q => ?_⟩
      · rw [h1 j hj]
        by_cases q : j = i
        · subst q
          rw [if_neg (fun r => by omega), if_neg (fun r => by rw [hc] at r; exact absurd r.2 (by decide))]
        · by_cases q2 : i ≤ j
          · have : i + 1 ≤ j := by omega
            simp [q2, this]
          · have : ¬ i + 1 ≤ j := by omega
            simp [q2, this]
      · rw [← E d Q, w66_32]
        simp only [w66_0, w66_1, w66_2, w66_5, w66_6, w66_7, w66_10, w66_11, w66_12, w66_13, w66_14, w66_15, w66_16, w66_17, w66_18, w66_19, w66_20, w66_21, w66_24, w66_26, w66_27, w66_28, w66_29, w66_30, w66_34, w66_35, w66_38, w66_39, w66_42, w66_43, w66_44, w66_46, w66_48, w66_49, w66_52, w66_55, w66_56, w66_59, w66_61, w66_62, w66_63, w66_64, w66_65, w66_66, w66_69, w66_72, eq_self, Nat.zero_le, n_lt, n_le, n_eq, n_neg, n_cl, n_mul, n_add, z_0, z_1, z_2, sc_0, sc_i, sc_r, sc_l, sc_n, jc_n, jc_i, jc_r, jc_l, Option.toList_some, Option.toList_none, List.cons_append, List.nil_append, Nat.reduceLT, Nat.reduceLeDiff, Nat.reduceMul, Nat.reduceAdd, Nat.reduceSub, Nat.reduceEqDiff, not_false_eq_true, not_true_eq_false, false_or, or_false, true_or, or_true, false_imp_iff, true_imp_iff, and_true, true_and, forall_const, false_implies, true_implies, b_t0, b_f0, tg_1, rf_1_0, rf_1_1, rf_1_2, rf_1_3, rf_1_4, rf_1_5, rf_1_6, tg_2, rf_2_0, rf_2_1, rf_2_2, rf_2_3, tg_3, ln_3, tg_4, ln_4, tg_5, rf_5_0, tg_6, ln_6, tg_7, rf_7_0, tg_8, ln_8, tg_123, rf_123_0, rf_123_1, rf_123_2, rf_123_3, rf_123_4, tg_124, ln_124, tg_125, rf_125_0, tg_126, ln_126, tg_127, rf_127_0, tg_128, ln_128, tg_129, ln_129, tg_322, rf_322_0, rf_322_1, rf_322_2, rf_322_3, tg_323, ln_323, tg_324, ln_324, tg_325, rf_325_0, rf_325_1, rf_325_2, tg_326, rf_326_0, tg_327, ln_327, tg_328, rf_328_0, tg_329, ln_329, tg_330, rf_330_0, rf_330_1, rf_330_2, tg_331, rf_331_0, tg_332, ln_332, tg_333, rf_333_0, tg_334, ln_334, tg_335, ln_335, tg_336, rf_336_0, tg_337, ln_337, tg_339, ln_339, tg_346, rf_346_1, rf_346_2, rf_346_4, rf_346_5, rf_346_6, rf_346_7, rf_346_8, rf_346_11, rf_346_13, rf_346_14, rf_346_15, rf_346_17, rf_346_18, rf_346_19, rf_346_20, rf_346_21, rf_346_22, rf_346_26, rf_346_28, rf_346_29, rf_346_32, rf_346_34, rf_346_35, rf_346_36, tg_347, ln_347, tg_348, ln_348, tg_349, ln_349, tg_350, ln_350, tg_351, ln_351, tg_352, ln_352, tg_353, ln_353, tg_354, ln_354, tg_355, ln_355, tg_356, ln_356, tg_357, ln_357, tg_358, ln_358, tg_359, ln_359, tg_360, ln_360, tg_361, ln_361, tg_362, ln_362, tg_363, ln_363, tg_364, ln_364, tg_365, ln_365, tg_366, ln_366, tg_367, ln_367, tg_368, ln_368, tg_369, ln_369, tg_370, ln_370, n_le (show 41 < 2147483648 by decide) s1, s2, hb.1, ha, b2_f]
    | true =>
      simp only [hc] at ha
      obtain ⟨L', h1, E⟩ := ih (i + 1) (f_uL L i (L i ||| lN bits)) (by omega)
      refine ⟨L', fun j hj => ?_, fun d Q => ?_⟩
      · rw [h1 j hj]
        by_cases q : j = i
        · subst q
          rw [if_neg (fun r => by omega), if_pos ⟨Nat.le_refl _, hc⟩]
          simp [f_uL]
        · have e : f_uL L i (L i ||| lN bits) j = L j := by simp [f_uL, q]
          rw [e]
          by_cases q2 : i ≤ j
          · have : i + 1 ≤ j := by omega
            simp [q2, this]
          · have : ¬ i + 1 ≤ j := by omega
            simp [q2, this]
      · rw [← E d Q, w66_32]
        simp only [w66_0, w66_1, w66_2, w66_5, w66_6, w66_7, w66_10, w66_11, w66_12, w66_13, w66_14, w66_15, w66_16, w66_17, w66_18, w66_19, w66_20, w66_21, w66_24, w66_26, w66_27, w66_28, w66_29, w66_30, w66_34, w66_35, w66_38, w66_39, w66_42, w66_43, w66_44, w66_46, w66_48, w66_49, w66_52, w66_55, w66_56, w66_59, w66_61, w66_62, w66_63, w66_64, w66_65, w66_66, w66_69, w66_72, eq_self, Nat.zero_le, n_lt, n_le, n_eq, n_neg, n_cl, n_mul, n_add, z_0, z_1, z_2, sc_0, sc_i, sc_r, sc_l, sc_n, jc_n, jc_i, jc_r, jc_l, Option.toList_some, Option.toList_none, List.cons_append, List.nil_append, Nat.reduceLT, Nat.reduceLeDiff, Nat.reduceMul, Nat.reduceAdd, Nat.reduceSub, Nat.reduceEqDiff, not_false_eq_true, not_true_eq_false, false_or, or_false, true_or, or_true, false_imp_iff, true_imp_iff, and_true, true_and, forall_const, false_implies, true_implies, b_t0, b_f0, tg_1, rf_1_0, rf_1_1, rf_1_2, rf_1_3, rf_1_4, rf_1_5, rf_1_6, tg_2, rf_2_0, rf_2_1, rf_2_2, rf_2_3, tg_3, ln_3, tg_4, ln_4, tg_5, rf_5_0, tg_6, ln_6, tg_7, rf_7_0, tg_8, ln_8, tg_123, rf_123_0, rf_123_1, rf_123_2, rf_123_3, rf_123_4, tg_124, ln_124, tg_125, rf_125_0, tg_126, ln_126, tg_127, rf_127_0, tg_128, ln_128, tg_129, ln_129, tg_322, rf_322_0, rf_322_1, rf_322_2, rf_322_3, tg_323, ln_323, tg_324, ln_324, tg_325, rf_325_0, rf_325_1, rf_325_2, tg_326, rf_326_0, tg_327, ln_327, tg_328, rf_328_0, tg_329, ln_329, tg_330, rf_330_0, rf_330_1, rf_330_2, tg_331, rf_331_0, tg_332, ln_332, tg_333, rf_333_0, tg_334, ln_334, tg_335, ln_335, tg_336, rf_336_0, tg_337, ln_337, tg_339, ln_339, tg_346, rf_346_1, rf_346_2, rf_346_4, rf_346_5, rf_346_6, rf_346_7, rf_346_8, rf_346_11, rf_346_13, rf_346_14, rf_346_15, rf_346_17, rf_346_18, rf_346_19, rf_346_20, rf_346_21, rf_346_22, rf_346_26, rf_346_28, rf_346_29, rf_346_32, rf_346_34, rf_346_35, rf_346_36, tg_347, ln_347, tg_348, ln_348, tg_349, ln_349, tg_350, ln_350, tg_351, ln_351, tg_352, ln_352, tg_353, ln_353, tg_354, ln_354, tg_355, ln_355, tg_356, ln_356, tg_357, ln_357, tg_358, ln_358, tg_359, ln_359, tg_360, ln_360, tg_361, ln_361, tg_362, ln_362, tg_363, ln_363, tg_364, ln_364, tg_365, ln_365, tg_366, ln_366, tg_367, ln_367, tg_368, ln_368, tg_369, ln_369, tg_370, ln_370, n_le (show 41 < 2147483648 by decide) s1, s2, hb.1, ha, b2_t, n_cl s1, n_neg s1]
theorem sp_mark {h a b : Nat} (hh : h < 64) (ha : I (132 + 3 * h) 4 = nI a - nI 20) (hb : I (132 + 3 * h) 5 = nI b - nI 20) (hab : a ≤ b) (h40 : b ≤ 40) (L : fL) : ∃ L' : fL, (∀ j, j < 41 → L' j = if bHas (I (132 + 3 * h)) 1 (nI j - nI 20) = true then L j ||| lN (mkN a b) else L j) ∧ ∀ (d : Nat) (Q : Option Value × jW → Prop), Wp (d + 2) 66 0 [some (.ref 123), some (.ref (131 + 3 * h)), none, none, none, none] [] (f_W xs I L) Q = Q (none, f_W xs I L') := by
  have hx := bx_hp hh
  obtain ⟨L', h1, E⟩ := x_mark (xs := xs) (I := I) (h := h) (a := a) (b := b) (bits := mkN a b) (w := nI (b - a + 1)) hh 41 0 L (by omega)
  refine ⟨L', fun j hj => by rw [h1 j hj]; simp, fun d Q => ?_⟩
  have g5 := fun (d : Nat) (Q : Option Value × jW → Prop) => sp_greatest (d := d) (Q := Q) (xs := xs) (I := I) (L := L) hx (show 2 < 3 by omega)
  have g4 := fun (d : Nat) (Q : Option Value × jW → Prop) => sp_least (d := d) (Q := Q) (xs := xs) (I := I) (L := L) hx (show 2 < 3 by omega)
  simp only [show 131 + 3 * h + 1 = 132 + 3 * h by omega, Nat.reduceMul, Nat.reduceAdd, ha, hb] at g4 g5
  rw [← E d Q]
  simp only [w66_0, w66_1, w66_2, w66_5, w66_6, w66_7, w66_10, w66_11, w66_12, w66_13, w66_14, w66_15, w66_16, w66_17, w66_18, w66_19, w66_20, w66_21, w66_24, w66_26, w66_27, w66_28, w66_29, w66_30, w66_34, w66_35, w66_38, w66_39, w66_42, w66_43, w66_44, w66_46, w66_48, w66_49, w66_52, w66_55, w66_56, w66_59, w66_61, w66_62, w66_63, w66_64, w66_65, w66_66, w66_69, w66_72, eq_self, Nat.zero_le, n_lt, n_le, n_eq, n_neg, n_cl, n_mul, n_add, z_0, z_1, z_2, sc_0, sc_i, sc_r, sc_l, sc_n, jc_n, jc_i, jc_r, jc_l, Option.toList_some, Option.toList_none, List.cons_append, List.nil_append, Nat.reduceLT, Nat.reduceLeDiff, Nat.reduceMul, Nat.reduceAdd, Nat.reduceSub, Nat.reduceEqDiff, not_false_eq_true, not_true_eq_false, false_or, or_false, true_or, or_true, false_imp_iff, true_imp_iff, and_true, true_and, forall_const, false_implies, true_implies, b_t0, b_f0, tg_1, rf_1_0, rf_1_1, rf_1_2, rf_1_3, rf_1_4, rf_1_5, rf_1_6, tg_2, rf_2_0, rf_2_1, rf_2_2, rf_2_3, tg_3, ln_3, tg_4, ln_4, tg_5, rf_5_0, tg_6, ln_6, tg_7, rf_7_0, tg_8, ln_8, tg_123, rf_123_0, rf_123_1, rf_123_2, rf_123_3, rf_123_4, tg_124, ln_124, tg_125, rf_125_0, tg_126, ln_126, tg_127, rf_127_0, tg_128, ln_128, tg_129, ln_129, tg_322, rf_322_0, rf_322_1, rf_322_2, rf_322_3, tg_323, ln_323, tg_324, ln_324, tg_325, rf_325_0, rf_325_1, rf_325_2, tg_326, rf_326_0, tg_327, ln_327, tg_328, rf_328_0, tg_329, ln_329, tg_330, rf_330_0, rf_330_1, rf_330_2, tg_331, rf_331_0, tg_332, ln_332, tg_333, rf_333_0, tg_334, ln_334, tg_335, ln_335, tg_336, rf_336_0, tg_337, ln_337, tg_339, ln_339, tg_346, rf_346_1, rf_346_2, rf_346_4, rf_346_5, rf_346_6, rf_346_7, rf_346_8, rf_346_11, rf_346_13, rf_346_14, rf_346_15, rf_346_17, rf_346_18, rf_346_19, rf_346_20, rf_346_21, rf_346_22, rf_346_26, rf_346_28, rf_346_29, rf_346_32, rf_346_34, rf_346_35, rf_346_36, tg_347, ln_347, tg_348, ln_348, tg_349, ln_349, tg_350, ln_350, tg_351, ln_351, tg_352, ln_352, tg_353, ln_353, tg_354, ln_354, tg_355, ln_355, tg_356, ln_356, tg_357, ln_357, tg_358, ln_358, tg_359, ln_359, tg_360, ln_360, tg_361, ln_361, tg_362, ln_362, tg_363, ln_363, tg_364, ln_364, tg_365, ln_365, tg_366, ln_366, tg_367, ln_367, tg_368, ln_368, tg_369, ln_369, tg_370, ln_370, hx.1, g5, g4, v_w b (by omega) a hab, v_a a (by omega), mkN_X hab h40]
/-- the columns made 0 -/
theorem x_zero {m x : Int32} : ∀ (k i : Nat) (L : fL), i + k = 41 → ∃ L' : fL, (∀ j, j < 41 → L' j = if i ≤ j then lN 0 else L j) ∧ ∀ (d : Nat) (Q : Option Value × jW → Prop), Wp d 65 2 [some (.ref 123), some (.int m), some (.int x), some (.int (nI i)), none] [] (f_W xs I L) Q = Wp d 65 24 [some (.ref 123), some (.int m), some (.int x), some (.int (nI 41)), none] [] (f_W xs I L') Q := by
  intro k
  induction k with
  | zero =>
    intro i L hi
    have hi : i = 41 := by omega
    subst hi
    refine ⟨L, fun j hj => by rw [if_neg (by omega)], fun d Q => ?_⟩
    rw [w65_2]
    simp only [w65_3, w65_4, w65_7, w65_8, eq_self, Nat.zero_le, n_lt, n_le, n_eq, n_neg, n_cl, n_mul, n_add, z_0, z_1, z_2, sc_0, sc_i, sc_r, sc_l, sc_n, jc_n, jc_i, jc_r, jc_l, Option.toList_some, Option.toList_none, List.cons_append, List.nil_append, Nat.reduceLT, Nat.reduceLeDiff, Nat.reduceMul, Nat.reduceAdd, Nat.reduceSub, Nat.reduceEqDiff, not_false_eq_true, not_true_eq_false, false_or, or_false, true_or, or_true, false_imp_iff, true_imp_iff, and_true, true_and, forall_const, false_implies, true_implies, b_t0, b_f0, tg_1, rf_1_0, rf_1_1, rf_1_2, rf_1_3, rf_1_4, rf_1_5, rf_1_6, tg_2, rf_2_0, rf_2_1, rf_2_2, rf_2_3, tg_3, ln_3, tg_4, ln_4, tg_5, rf_5_0, tg_6, ln_6, tg_7, rf_7_0, tg_8, ln_8, tg_123, rf_123_0, rf_123_1, rf_123_2, rf_123_3, rf_123_4, tg_124, ln_124, tg_125, rf_125_0, tg_126, ln_126, tg_127, rf_127_0, tg_128, ln_128, tg_129, ln_129, tg_322, rf_322_0, rf_322_1, rf_322_2, rf_322_3, tg_323, ln_323, tg_324, ln_324, tg_325, rf_325_0, rf_325_1, rf_325_2, tg_326, rf_326_0, tg_327, ln_327, tg_328, rf_328_0, tg_329, ln_329, tg_330, rf_330_0, rf_330_1, rf_330_2, tg_331, rf_331_0, tg_332, ln_332, tg_333, rf_333_0, tg_334, ln_334, tg_335, ln_335, tg_336, rf_336_0, tg_337, ln_337, tg_339, ln_339, tg_346, rf_346_1, rf_346_2, rf_346_4, rf_346_5, rf_346_6, rf_346_7, rf_346_8, rf_346_11, rf_346_13, rf_346_14, rf_346_15, rf_346_17, rf_346_18, rf_346_19, rf_346_20, rf_346_21, rf_346_22, rf_346_26, rf_346_28, rf_346_29, rf_346_32, rf_346_34, rf_346_35, rf_346_36, tg_347, ln_347, tg_348, ln_348, tg_349, ln_349, tg_350, ln_350, tg_351, ln_351, tg_352, ln_352, tg_353, ln_353, tg_354, ln_354, tg_355, ln_355, tg_356, ln_356, tg_357, ln_357, tg_358, ln_358, tg_359, ln_359, tg_360, ln_360, tg_361, ln_361, tg_362, ln_362, tg_363, ln_363, tg_364, ln_364, tg_365, ln_365, tg_366, ln_366, tg_367, ln_367, tg_368, ln_368, tg_369, ln_369, tg_370, ln_370, Nat.le_refl]
  | succ k ih =>
    intro i L hi
    have s1 : i < 2147483648 := by omega
    have s2 : ¬ 41 ≤ i := by omega
    obtain ⟨L', h1, E⟩ := ih (i + 1) (f_uL L i (lN 0)) (by omega)
    refine ⟨L', fun j hj => ?_, fun d Q => ?_⟩
    · rw [h1 j hj]
      by_cases q : j = i
      · subst q
        rw [if_neg (by omega), if_pos (Nat.le_refl _)]
        simp [f_uL]
      · have e : f_uL L i (lN 0) j = L j := by simp [f_uL, q]
        rw [e]
        by_cases q2 : i ≤ j
        · have : i + 1 ≤ j := by omega
          rw [if_pos this, if_pos q2]
        · have : ¬ i + 1 ≤ j := by omega
          rw [if_neg this, if_neg q2]
    · rw [← E d Q, w65_2]
      simp only [w65_3, w65_4, w65_7, w65_8, w65_11, w65_12, w65_15, w65_16, w65_17, w65_18, w65_21, eq_self, Nat.zero_le, n_lt, n_le, n_eq, n_neg, n_cl, n_mul, n_add, z_0, z_1, z_2, sc_0, sc_i, sc_r, sc_l, sc_n, jc_n, jc_i, jc_r, jc_l, Option.toList_some, Option.toList_none, List.cons_append, List.nil_append, Nat.reduceLT, Nat.reduceLeDiff, Nat.reduceMul, Nat.reduceAdd, Nat.reduceSub, Nat.reduceEqDiff, not_false_eq_true, not_true_eq_false, false_or, or_false, true_or, or_true, false_imp_iff, true_imp_iff, and_true, true_and, forall_const, false_implies, true_implies, b_t0, b_f0, tg_1, rf_1_0, rf_1_1, rf_1_2, rf_1_3, rf_1_4, rf_1_5, rf_1_6, tg_2, rf_2_0, rf_2_1, rf_2_2, rf_2_3, tg_3, ln_3, tg_4, ln_4, tg_5, rf_5_0, tg_6, ln_6, tg_7, rf_7_0, tg_8, ln_8, tg_123, rf_123_0, rf_123_1, rf_123_2, rf_123_3, rf_123_4, tg_124, ln_124, tg_125, rf_125_0, tg_126, ln_126, tg_127, rf_127_0, tg_128, ln_128, tg_129, ln_129, tg_322, rf_322_0, rf_322_1, rf_322_2, rf_322_3, tg_323, ln_323, tg_324, ln_324, tg_325, rf_325_0, rf_325_1, rf_325_2, tg_326, rf_326_0, tg_327, ln_327, tg_328, rf_328_0, tg_329, ln_329, tg_330, rf_330_0, rf_330_1, rf_330_2, tg_331, rf_331_0, tg_332, ln_332, tg_333, rf_333_0, tg_334, ln_334, tg_335, ln_335, tg_336, rf_336_0, tg_337, ln_337, tg_339, ln_339, tg_346, rf_346_1, rf_346_2, rf_346_4, rf_346_5, rf_346_6, rf_346_7, rf_346_8, rf_346_11, rf_346_13, rf_346_14, rf_346_15, rf_346_17, rf_346_18, rf_346_19, rf_346_20, rf_346_21, rf_346_22, rf_346_26, rf_346_28, rf_346_29, rf_346_32, rf_346_34, rf_346_35, rf_346_36, tg_347, ln_347, tg_348, ln_348, tg_349, ln_349, tg_350, ln_350, tg_351, ln_351, tg_352, ln_352, tg_353, ln_353, tg_354, ln_354, tg_355, ln_355, tg_356, ln_356, tg_357, ln_357, tg_358, ln_358, tg_359, ln_359, tg_360, ln_360, tg_361, ln_361, tg_362, ln_362, tg_363, ln_363, tg_364, ln_364, tg_365, ln_365, tg_366, ln_366, tg_367, ln_367, tg_368, ln_368, tg_369, ln_369, tg_370, ln_370, n_le (show 41 < 2147483648 by decide) s1, s2, n_cl s1, n_neg s1]
/-- a slice's heaps -/
theorem x_slice (R : RX I s) (G : ∀ h, h < s.1 → gdH (s.2.1 h)) {m : Nat} (hm : m < 6) {x : Int32} : ∀ (k h : Nat) (L : fL), h + k = s.1 → (∀ j, j < 41 → L j = lN (colN s.2.1 m x (nI j - nI 20) h)) → ∃ L' : fL, (∀ j, j < 41 → L' j = lN (colN s.2.1 m x (nI j - nI 20) s.1)) ∧ ∀ (d : Nat) (Q : Option Value × jW → Prop), Wp (d + 3) 65 26 [some (.ref 123), some (.int (nI m)), some (.int x), some (.int (nI h)), none] [] (f_W xs I L) Q = Wp (d + 3) 65 83 [some (.ref 123), some (.int (nI m)), some (.int x), some (.int (nI s.1)), none] [] (f_W xs I L') Q := by
  obtain ⟨r1, r2, r3, r4, r5, r6⟩ := id R
  have s1 : s.1 < 2147483648 := by omega
  intro k
  induction k with
  | zero =>
    intro h L hk hL
    have hk : h = s.1 := by omega
    subst hk
    refine ⟨L, hL, fun d Q => ?_⟩
    rw [w65_26]
    simp only [w65_27, w65_28, w65_31, eq_self, Nat.zero_le, n_lt, n_le, n_eq, n_neg, n_cl, n_mul, n_add, z_0, z_1, z_2, sc_0, sc_i, sc_r, sc_l, sc_n, jc_n, jc_i, jc_r, jc_l, Option.toList_some, Option.toList_none, List.cons_append, List.nil_append, Nat.reduceLT, Nat.reduceLeDiff, Nat.reduceMul, Nat.reduceAdd, Nat.reduceSub, Nat.reduceEqDiff, not_false_eq_true, not_true_eq_false, false_or, or_false, true_or, or_true, false_imp_iff, true_imp_iff, and_true, true_and, forall_const, false_implies, true_implies, b_t0, b_f0, tg_1, rf_1_0, rf_1_1, rf_1_2, rf_1_3, rf_1_4, rf_1_5, rf_1_6, tg_2, rf_2_0, rf_2_1, rf_2_2, rf_2_3, tg_3, ln_3, tg_4, ln_4, tg_5, rf_5_0, tg_6, ln_6, tg_7, rf_7_0, tg_8, ln_8, tg_123, rf_123_0, rf_123_1, rf_123_2, rf_123_3, rf_123_4, tg_124, ln_124, tg_125, rf_125_0, tg_126, ln_126, tg_127, rf_127_0, tg_128, ln_128, tg_129, ln_129, tg_322, rf_322_0, rf_322_1, rf_322_2, rf_322_3, tg_323, ln_323, tg_324, ln_324, tg_325, rf_325_0, rf_325_1, rf_325_2, tg_326, rf_326_0, tg_327, ln_327, tg_328, rf_328_0, tg_329, ln_329, tg_330, rf_330_0, rf_330_1, rf_330_2, tg_331, rf_331_0, tg_332, ln_332, tg_333, rf_333_0, tg_334, ln_334, tg_335, ln_335, tg_336, rf_336_0, tg_337, ln_337, tg_339, ln_339, tg_346, rf_346_1, rf_346_2, rf_346_4, rf_346_5, rf_346_6, rf_346_7, rf_346_8, rf_346_11, rf_346_13, rf_346_14, rf_346_15, rf_346_17, rf_346_18, rf_346_19, rf_346_20, rf_346_21, rf_346_22, rf_346_26, rf_346_28, rf_346_29, rf_346_32, rf_346_34, rf_346_35, rf_346_36, tg_347, ln_347, tg_348, ln_348, tg_349, ln_349, tg_350, ln_350, tg_351, ln_351, tg_352, ln_352, tg_353, ln_353, tg_354, ln_354, tg_355, ln_355, tg_356, ln_356, tg_357, ln_357, tg_358, ln_358, tg_359, ln_359, tg_360, ln_360, tg_361, ln_361, tg_362, ln_362, tg_363, ln_363, tg_364, ln_364, tg_365, ln_365, tg_366, ln_366, tg_367, ln_367, tg_368, ln_368, tg_369, ln_369, tg_370, ln_370, r2, n_le s1 s1, Nat.le_refl]
  | succ k ih =>
    intro h L hk hL
    have hh : h < s.1 := by omega
    have h64 : h < 64 := by omega
    obtain ⟨l1, l2, l3⟩ := lay_H h h64
    obtain ⟨g1, g2, g3, g4, g5, g6, g7⟩ := r6 h hh
    have s2 : h < 2147483648 := by omega
    have s3 : ¬ s.1 ≤ h := by omega
    have s4 : ¬ 64 ≤ h := by omega
    have gd := G h hh
    obtain ⟨a1, a2, a3, a4⟩ := gdH_ab gd
    have cl := fun j => colN_lt (f := s.2.1) (m := m) (x := x) (y := nI j - nI 20) h (fun i hi => G i (by omega))
    have ec : ∀ j, colN s.2.1 m x (nI j - nI 20) (h + 1) = if cH (s.2.1 h) m x (nI j - nI 20) = true then colN s.2.1 m x (nI j - nI 20) h ||| mkH (s.2.1 h) else colN s.2.1 m x (nI j - nI 20) h := fun j => rfl
    have hb1 : ∀ y, bHas (I (132 + 3 * h)) 1 y = bHas (s.2.1 h).2.1 1 y := fun y => bHas_E g3 (by omega)
    by_cases q : (s.2.1 h).1 = m
    · have qe : (nI (s.2.1 h).1 = nI m) = True := eq_true (by rw [q])
      have ha := fun (d : Nat) (Q : Option Value × jW → Prop) => sp_has (d := d) (Q := Q) (xs := xs) (I := I) (L := L) (v := x) (bx_hp h64) (show 0 < 3 by omega)
      rw [show 131 + 3 * h + 1 = 132 + 3 * h by omega, bHas_E g3 (show 0 < 3 by omega)] at ha
      cases hx : bHas (s.2.1 h).2.1 0 x with
      | false =>
        simp only [hx] at ha
        obtain ⟨L', h1, E⟩ := ih (h + 1) L (by omega) (fun j hj => by
          rw [hL j hj, ec, if_neg (by unfold cH; rw [hx]; simp)])
        refine ⟨L', h1, fun d Q => ?_⟩
        rw [← E d Q, w65_26]
        simp only [w65_27, w65_28, w65_31, w65_34, w65_35, w65_38, w65_39, w65_40, w65_43, w65_44, w65_47, w65_48, w65_51, w65_52, w65_53, w65_56, w65_57, w65_58, w65_61, w65_64, w65_65, w65_66, w65_69, w65_70, w65_71, w65_74, w65_77, w65_80, eq_self, Nat.zero_le, n_lt, n_le, n_eq, n_neg, n_cl, n_mul, n_add, z_0, z_1, z_2, sc_0, sc_i, sc_r, sc_l, sc_n, jc_n, jc_i, jc_r, jc_l, Option.toList_some, Option.toList_none, List.cons_append, List.nil_append, Nat.reduceLT, Nat.reduceLeDiff, Nat.reduceMul, Nat.reduceAdd, Nat.reduceSub, Nat.reduceEqDiff, not_false_eq_true, not_true_eq_false, false_or, or_false, true_or, or_true, false_imp_iff, true_imp_iff, and_true, true_and, forall_const, false_implies, true_implies, b_t0, b_f0, tg_1, rf_1_0, rf_1_1, rf_1_2, rf_1_3, rf_1_4, rf_1_5, rf_1_6, tg_2, rf_2_0, rf_2_1, rf_2_2, rf_2_3, tg_3, ln_3, tg_4, ln_4, tg_5, rf_5_0, tg_6, ln_6, tg_7, rf_7_0, tg_8, ln_8, tg_123, rf_123_0, rf_123_1, rf_123_2, rf_123_3, rf_123_4, tg_124, ln_124, tg_125, rf_125_0, tg_126, ln_126, tg_127, rf_127_0, tg_128, ln_128, tg_129, ln_129, tg_322, rf_322_0, rf_322_1, rf_322_2, rf_322_3, tg_323, ln_323, tg_324, ln_324, tg_325, rf_325_0, rf_325_1, rf_325_2, tg_326, rf_326_0, tg_327, ln_327, tg_328, rf_328_0, tg_329, ln_329, tg_330, rf_330_0, rf_330_1, rf_330_2, tg_331, rf_331_0, tg_332, ln_332, tg_333, rf_333_0, tg_334, ln_334, tg_335, ln_335, tg_336, rf_336_0, tg_337, ln_337, tg_339, ln_339, tg_346, rf_346_1, rf_346_2, rf_346_4, rf_346_5, rf_346_6, rf_346_7, rf_346_8, rf_346_11, rf_346_13, rf_346_14, rf_346_15, rf_346_17, rf_346_18, rf_346_19, rf_346_20, rf_346_21, rf_346_22, rf_346_26, rf_346_28, rf_346_29, rf_346_32, rf_346_34, rf_346_35, rf_346_36, tg_347, ln_347, tg_348, ln_348, tg_349, ln_349, tg_350, ln_350, tg_351, ln_351, tg_352, ln_352, tg_353, ln_353, tg_354, ln_354, tg_355, ln_355, tg_356, ln_356, tg_357, ln_357, tg_358, ln_358, tg_359, ln_359, tg_360, ln_360, tg_361, ln_361, tg_362, ln_362, tg_363, ln_363, tg_364, ln_364, tg_365, ln_365, tg_366, ln_366, tg_367, ln_367, tg_368, ln_368, tg_369, ln_369, tg_370, ln_370, r2, n_le s1 s2, s3, n_cl s2, n_neg s2, s4, l1, l2, l3, g1, qe, (bx_hp h64).1, ha, b2_f]
      | true =>
        simp only [hx] at ha
        obtain ⟨L1, m1, m2⟩ := sp_mark (xs := xs) (I := I) h64 (by rw [g3 4 (by omega)]; exact a1) (by rw [g3 5 (by omega)]; exact a2) a3 a4 L
        obtain ⟨L', h1, E⟩ := ih (h + 1) L1 (by omega) (fun j hj => by
          rw [m1 j hj, hb1, hL j hj, ec]
          have e1 : cH (s.2.1 h) m x (nI j - nI 20) = bHas (s.2.1 h).2.1 1 (nI j - nI 20) := by unfold cH; rw [hx]; simp [q]
          rw [e1]
          cases bHas (s.2.1 h).2.1 1 (nI j - nI 20) with
          | true =>
            rw [if_pos rfl, if_pos rfl]
            have c1 := cl j
            have c2 := mkH_lt gd
            exact wb_or (by omega) (by unfold mkH at c2; omega)
          | false => rw [if_neg (by decide), if_neg (by decide)])
        refine ⟨L', h1, fun d Q => ?_⟩
        rw [← E d Q, w65_26]
        simp only [w65_27, w65_28, w65_31, w65_34, w65_35, w65_38, w65_39, w65_40, w65_43, w65_44, w65_47, w65_48, w65_51, w65_52, w65_53, w65_56, w65_57, w65_58, w65_61, w65_64, w65_65, w65_66, w65_69, w65_70, w65_71, w65_74, w65_77, w65_80, eq_self, Nat.zero_le, n_lt, n_le, n_eq, n_neg, n_cl, n_mul, n_add, z_0, z_1, z_2, sc_0, sc_i, sc_r, sc_l, sc_n, jc_n, jc_i, jc_r, jc_l, Option.toList_some, Option.toList_none, List.cons_append, List.nil_append, Nat.reduceLT, Nat.reduceLeDiff, Nat.reduceMul, Nat.reduceAdd, Nat.reduceSub, Nat.reduceEqDiff, not_false_eq_true, not_true_eq_false, false_or, or_false, true_or, or_true, false_imp_iff, true_imp_iff, and_true, true_and, forall_const, false_implies, true_implies, b_t0, b_f0, tg_1, rf_1_0, rf_1_1, rf_1_2, rf_1_3, rf_1_4, rf_1_5, rf_1_6, tg_2, rf_2_0, rf_2_1, rf_2_2, rf_2_3, tg_3, ln_3, tg_4, ln_4, tg_5, rf_5_0, tg_6, ln_6, tg_7, rf_7_0, tg_8, ln_8, tg_123, rf_123_0, rf_123_1, rf_123_2, rf_123_3, rf_123_4, tg_124, ln_124, tg_125, rf_125_0, tg_126, ln_126, tg_127, rf_127_0, tg_128, ln_128, tg_129, ln_129, tg_322, rf_322_0, rf_322_1, rf_322_2, rf_322_3, tg_323, ln_323, tg_324, ln_324, tg_325, rf_325_0, rf_325_1, rf_325_2, tg_326, rf_326_0, tg_327, ln_327, tg_328, rf_328_0, tg_329, ln_329, tg_330, rf_330_0, rf_330_1, rf_330_2, tg_331, rf_331_0, tg_332, ln_332, tg_333, rf_333_0, tg_334, ln_334, tg_335, ln_335, tg_336, rf_336_0, tg_337, ln_337, tg_339, ln_339, tg_346, rf_346_1, rf_346_2, rf_346_4, rf_346_5, rf_346_6, rf_346_7, rf_346_8, rf_346_11, rf_346_13, rf_346_14, rf_346_15, rf_346_17, rf_346_18, rf_346_19, rf_346_20, rf_346_21, rf_346_22, rf_346_26, rf_346_28, rf_346_29, rf_346_32, rf_346_34, rf_346_35, rf_346_36, tg_347, ln_347, tg_348, ln_348, tg_349, ln_349, tg_350, ln_350, tg_351, ln_351, tg_352, ln_352, tg_353, ln_353, tg_354, ln_354, tg_355, ln_355, tg_356, ln_356, tg_357, ln_357, tg_358, ln_358, tg_359, ln_359, tg_360, ln_360, tg_361, ln_361, tg_362, ln_362, tg_363, ln_363, tg_364, ln_364, tg_365, ln_365, tg_366, ln_366, tg_367, ln_367, tg_368, ln_368, tg_369, ln_369, tg_370, ln_370, r2, n_le s1 s2, s3, n_cl s2, n_neg s2, s4, l1, l2, l3, g1, qe, (bx_hp h64).1, ha, b2_t, m2]
    · obtain ⟨L', h1, E⟩ := ih (h + 1) L (by omega) (fun j hj => by
        rw [hL j hj, ec, if_neg (by unfold cH; simp [q])])
      refine ⟨L', h1, fun d Q => ?_⟩
      rw [← E d Q, w65_26]
      simp only [w65_27, w65_28, w65_31, w65_34, w65_35, w65_38, w65_39, w65_40, w65_43, w65_44, w65_77, w65_80, eq_self, Nat.zero_le, n_lt, n_le, n_eq, n_neg, n_cl, n_mul, n_add, z_0, z_1, z_2, sc_0, sc_i, sc_r, sc_l, sc_n, jc_n, jc_i, jc_r, jc_l, Option.toList_some, Option.toList_none, List.cons_append, List.nil_append, Nat.reduceLT, Nat.reduceLeDiff, Nat.reduceMul, Nat.reduceAdd, Nat.reduceSub, Nat.reduceEqDiff, not_false_eq_true, not_true_eq_false, false_or, or_false, true_or, or_true, false_imp_iff, true_imp_iff, and_true, true_and, forall_const, false_implies, true_implies, b_t0, b_f0, tg_1, rf_1_0, rf_1_1, rf_1_2, rf_1_3, rf_1_4, rf_1_5, rf_1_6, tg_2, rf_2_0, rf_2_1, rf_2_2, rf_2_3, tg_3, ln_3, tg_4, ln_4, tg_5, rf_5_0, tg_6, ln_6, tg_7, rf_7_0, tg_8, ln_8, tg_123, rf_123_0, rf_123_1, rf_123_2, rf_123_3, rf_123_4, tg_124, ln_124, tg_125, rf_125_0, tg_126, ln_126, tg_127, rf_127_0, tg_128, ln_128, tg_129, ln_129, tg_322, rf_322_0, rf_322_1, rf_322_2, rf_322_3, tg_323, ln_323, tg_324, ln_324, tg_325, rf_325_0, rf_325_1, rf_325_2, tg_326, rf_326_0, tg_327, ln_327, tg_328, rf_328_0, tg_329, ln_329, tg_330, rf_330_0, rf_330_1, rf_330_2, tg_331, rf_331_0, tg_332, ln_332, tg_333, rf_333_0, tg_334, ln_334, tg_335, ln_335, tg_336, rf_336_0, tg_337, ln_337, tg_339, ln_339, tg_346, rf_346_1, rf_346_2, rf_346_4, rf_346_5, rf_346_6, rf_346_7, rf_346_8, rf_346_11, rf_346_13, rf_346_14, rf_346_15, rf_346_17, rf_346_18, rf_346_19, rf_346_20, rf_346_21, rf_346_22, rf_346_26, rf_346_28, rf_346_29, rf_346_32, rf_346_34, rf_346_35, rf_346_36, tg_347, ln_347, tg_348, ln_348, tg_349, ln_349, tg_350, ln_350, tg_351, ln_351, tg_352, ln_352, tg_353, ln_353, tg_354, ln_354, tg_355, ln_355, tg_356, ln_356, tg_357, ln_357, tg_358, ln_358, tg_359, ln_359, tg_360, ln_360, tg_361, ln_361, tg_362, ln_362, tg_363, ln_363, tg_364, ln_364, tg_365, ln_365, tg_366, ln_366, tg_367, ln_367, tg_368, ln_368, tg_369, ln_369, tg_370, ln_370, r2, n_le s1 s2, s3, n_cl s2, n_neg s2, s4, l1, l2, g1, n_eq (show (s.2.1 h).1 < 2147483648 by omega) (show m < 2147483648 by omega), q]
/-- a slice's columns counted -/
theorem x_cols {c : Nat → Nat} {L : fL} {m x : Int32} (hL : ∀ j, j < 41 → L j = lN (c j)) (hc : ∀ j, j < 41 → c j < 2 ^ 41) : ∀ (k i n : Nat), i + k = 41 → ∀ (d : Nat) (Q : Option Value × jW → Prop), Wp (d + 1) 65 88 [some (.ref 123), some (.int m), some (.int x), some (.int (nI (n + sumN (fun j => sumB (c j) 41) i))), some (.int (nI i))] [] (f_W xs I L) Q = Q (some (.int (nI (n + sumN (fun j => sumB (c j) 41) 41))), f_W xs I L) := by
  intro k
  induction k with
  | zero =>
    intro i n hi d Q
    have hi : i = 41 := by omega
    subst hi
    rw [w65_88]
    simp only [w65_90, w65_91, w65_94, w65_95, w65_117, w65_118, eq_self, Nat.zero_le, n_lt, n_le, n_eq, n_neg, n_cl, n_mul, n_add, z_0, z_1, z_2, sc_0, sc_i, sc_r, sc_l, sc_n, jc_n, jc_i, jc_r, jc_l, Option.toList_some, Option.toList_none, List.cons_append, List.nil_append, Nat.reduceLT, Nat.reduceLeDiff, Nat.reduceMul, Nat.reduceAdd, Nat.reduceSub, Nat.reduceEqDiff, not_false_eq_true, not_true_eq_false, false_or, or_false, true_or, or_true, false_imp_iff, true_imp_iff, and_true, true_and, forall_const, false_implies, true_implies, b_t0, b_f0, tg_1, rf_1_0, rf_1_1, rf_1_2, rf_1_3, rf_1_4, rf_1_5, rf_1_6, tg_2, rf_2_0, rf_2_1, rf_2_2, rf_2_3, tg_3, ln_3, tg_4, ln_4, tg_5, rf_5_0, tg_6, ln_6, tg_7, rf_7_0, tg_8, ln_8, tg_123, rf_123_0, rf_123_1, rf_123_2, rf_123_3, rf_123_4, tg_124, ln_124, tg_125, rf_125_0, tg_126, ln_126, tg_127, rf_127_0, tg_128, ln_128, tg_129, ln_129, tg_322, rf_322_0, rf_322_1, rf_322_2, rf_322_3, tg_323, ln_323, tg_324, ln_324, tg_325, rf_325_0, rf_325_1, rf_325_2, tg_326, rf_326_0, tg_327, ln_327, tg_328, rf_328_0, tg_329, ln_329, tg_330, rf_330_0, rf_330_1, rf_330_2, tg_331, rf_331_0, tg_332, ln_332, tg_333, rf_333_0, tg_334, ln_334, tg_335, ln_335, tg_336, rf_336_0, tg_337, ln_337, tg_339, ln_339, tg_346, rf_346_1, rf_346_2, rf_346_4, rf_346_5, rf_346_6, rf_346_7, rf_346_8, rf_346_11, rf_346_13, rf_346_14, rf_346_15, rf_346_17, rf_346_18, rf_346_19, rf_346_20, rf_346_21, rf_346_22, rf_346_26, rf_346_28, rf_346_29, rf_346_32, rf_346_34, rf_346_35, rf_346_36, tg_347, ln_347, tg_348, ln_348, tg_349, ln_349, tg_350, ln_350, tg_351, ln_351, tg_352, ln_352, tg_353, ln_353, tg_354, ln_354, tg_355, ln_355, tg_356, ln_356, tg_357, ln_357, tg_358, ln_358, tg_359, ln_359, tg_360, ln_360, tg_361, ln_361, tg_362, ln_362, tg_363, ln_363, tg_364, ln_364, tg_365, ln_365, tg_366, ln_366, tg_367, ln_367, tg_368, ln_368, tg_369, ln_369, tg_370, ln_370, Nat.le_refl]
  | succ k ih =>
    intro i n hi d Q
    have s1 : i < 2147483648 := by omega
    have s2 : ¬ 41 ≤ i := by omega
    have e := ih (i + 1) n (by omega) d Q
    rw [show n + sumN (fun j => sumB (c j) 41) (i + 1) = n + sumN (fun j => sumB (c j) 41) i + sumB (c i) 41 from (Nat.add_assoc _ _ _).symm] at e
    rw [← e, w65_88]
    simp only [w65_90, w65_91, w65_94, w65_95, w65_98, w65_99, w65_100, w65_103, w65_105, w65_106, w65_109, w65_110, w65_111, w65_114, eq_self, Nat.zero_le, n_lt, n_le, n_eq, n_neg, n_cl, n_mul, n_add, z_0, z_1, z_2, sc_0, sc_i, sc_r, sc_l, sc_n, jc_n, jc_i, jc_r, jc_l, Option.toList_some, Option.toList_none, List.cons_append, List.nil_append, Nat.reduceLT, Nat.reduceLeDiff, Nat.reduceMul, Nat.reduceAdd, Nat.reduceSub, Nat.reduceEqDiff, not_false_eq_true, not_true_eq_false, false_or, or_false, true_or, or_true, false_imp_iff, true_imp_iff, and_true, true_and, forall_const, false_implies, true_implies, b_t0, b_f0, tg_1, rf_1_0, rf_1_1, rf_1_2, rf_1_3, rf_1_4, rf_1_5, rf_1_6, tg_2, rf_2_0, rf_2_1, rf_2_2, rf_2_3, tg_3, ln_3, tg_4, ln_4, tg_5, rf_5_0, tg_6, ln_6, tg_7, rf_7_0, tg_8, ln_8, tg_123, rf_123_0, rf_123_1, rf_123_2, rf_123_3, rf_123_4, tg_124, ln_124, tg_125, rf_125_0, tg_126, ln_126, tg_127, rf_127_0, tg_128, ln_128, tg_129, ln_129, tg_322, rf_322_0, rf_322_1, rf_322_2, rf_322_3, tg_323, ln_323, tg_324, ln_324, tg_325, rf_325_0, rf_325_1, rf_325_2, tg_326, rf_326_0, tg_327, ln_327, tg_328, rf_328_0, tg_329, ln_329, tg_330, rf_330_0, rf_330_1, rf_330_2, tg_331, rf_331_0, tg_332, ln_332, tg_333, rf_333_0, tg_334, ln_334, tg_335, ln_335, tg_336, rf_336_0, tg_337, ln_337, tg_339, ln_339, tg_346, rf_346_1, rf_346_2, rf_346_4, rf_346_5, rf_346_6, rf_346_7, rf_346_8, rf_346_11, rf_346_13, rf_346_14, rf_346_15, rf_346_17, rf_346_18, rf_346_19, rf_346_20, rf_346_21, rf_346_22, rf_346_26, rf_346_28, rf_346_29, rf_346_32, rf_346_34, rf_346_35, rf_346_36, tg_347, ln_347, tg_348, ln_348, tg_349, ln_349, tg_350, ln_350, tg_351, ln_351, tg_352, ln_352, tg_353, ln_353, tg_354, ln_354, tg_355, ln_355, tg_356, ln_356, tg_357, ln_357, tg_358, ln_358, tg_359, ln_359, tg_360, ln_360, tg_361, ln_361, tg_362, ln_362, tg_363, ln_363, tg_364, ln_364, tg_365, ln_365, tg_366, ln_366, tg_367, ln_367, tg_368, ln_368, tg_369, ln_369, tg_370, ln_370, n_le (show 41 < 2147483648 by decide) s1, s2, n_cl s1, n_neg s1, hL i (by omega), sp_bitCount (hc i (by omega))]
/-- a slice -/
def slN (s : gS) (m : Nat) (x : Int32) : Nat := sumN (fun j => sumB (colN s.2.1 m x (nI j - nI 20) s.1) 41) 41
theorem sp_slice (R : RX I s) (G : ∀ h, h < s.1 → gdH (s.2.1 h)) {m : Nat} (hm : m < 6) {x : Int32} (L : fL) : ∃ L' : fL, ∀ (d : Nat) (Q : Option Value × jW → Prop), Wp (d + 3) 65 0 [some (.ref 123), some (.int (nI m)), some (.int x), none, none] [] (f_W xs I L) Q = Q (some (.int (nI (slN s m x))), f_W xs I L') := by
  obtain ⟨L1, z1, E1⟩ := x_zero (xs := xs) (I := I) (m := nI m) (x := x) 41 0 L (by omega)
  obtain ⟨L2, z2, E2⟩ := x_slice (xs := xs) R G hm (x := x) s.1 0 L1 (by omega) (fun j hj => by rw [z1 j hj, if_pos (Nat.zero_le _)]; rfl)
  refine ⟨L2, fun d Q => ?_⟩
  have E3 := x_cols (xs := xs) (I := I) (m := nI m) (x := x) (c := fun j => colN s.2.1 m x (nI j - nI 20) s.1) z2 (fun j hj => colN_lt _ G) 41 0 0 (by omega) (d + 2) Q
  rw [show 0 + sumN (fun j => sumB (colN s.2.1 m x (nI j - nI 20) s.1) 41) 0 = 0 from rfl, Nat.zero_add] at E3
  unfold slN
  rw [← E3]
  simp only [w65_0, w65_1, w65_24, w65_25, w65_83, w65_84, w65_85, w65_86, eq_self, Nat.zero_le, n_lt, n_le, n_eq, n_neg, n_cl, n_mul, n_add, z_0, z_1, z_2, sc_0, sc_i, sc_r, sc_l, sc_n, jc_n, jc_i, jc_r, jc_l, Option.toList_some, Option.toList_none, List.cons_append, List.nil_append, Nat.reduceLT, Nat.reduceLeDiff, Nat.reduceMul, Nat.reduceAdd, Nat.reduceSub, Nat.reduceEqDiff, not_false_eq_true, not_true_eq_false, false_or, or_false, true_or, or_true, false_imp_iff, true_imp_iff, and_true, true_and, forall_const, false_implies, true_implies, b_t0, b_f0, E1, E2]
/-- all slices -/
theorem x_states (R : RX I s) (G : ∀ h, h < s.1 → gdH (s.2.1 h)) {m : Nat} (hm : m < 6) : ∀ (k i n : Nat) (L : fL), i + k = 41 → ∃ L' : fL, ∀ (d : Nat) (Q : Option Value × jW → Prop), Wp (d + 4) 64 5 [some (.ref 123), some (.int (nI m)), some (.int (nI (n + sumN (fun q => slN s m (nI q - nI 20)) i))), some (.int (nI i - nI 20))] [] (f_W xs I L) Q = Q (some (.int (nI (n + sumN (fun q => slN s m (nI q - nI 20)) 41))), f_W xs I L') := by
  intro k
  induction k with
  | zero =>
    intro i n L hi
    have hi : i = 41 := by omega
    subst hi
    refine ⟨L, fun d Q => ?_⟩
    rw [w64_5]
    simp only [w64_6, w64_8, w64_26, w64_27, eq_self, Nat.zero_le, n_lt, n_le, n_eq, n_neg, n_cl, n_mul, n_add, z_0, z_1, z_2, sc_0, sc_i, sc_r, sc_l, sc_n, jc_n, jc_i, jc_r, jc_l, Option.toList_some, Option.toList_none, List.cons_append, List.nil_append, Nat.reduceLT, Nat.reduceLeDiff, Nat.reduceMul, Nat.reduceAdd, Nat.reduceSub, Nat.reduceEqDiff, not_false_eq_true, not_true_eq_false, false_or, or_false, true_or, or_true, false_imp_iff, true_imp_iff, and_true, true_and, forall_const, false_implies, true_implies, b_t0, b_f0, v_gt 41 (by omega)]
  | succ k ih =>
    intro i n L hi
    have s2 : ¬ 40 < i := by omega
    obtain ⟨L1, E1⟩ := sp_slice (xs := xs) R G hm (x := nI i - nI 20) L
    obtain ⟨L', E⟩ := ih (i + 1) n L1 (by omega)
    refine ⟨L', fun d Q => ?_⟩
    have e := E d Q
    rw [show n + sumN (fun q => slN s m (nI q - nI 20)) (i + 1) = n + sumN (fun q => slN s m (nI q - nI 20)) i + slN s m (nI i - nI 20) from (Nat.add_assoc _ _ _).symm] at e
    rw [← e, w64_5]
    simp only [w64_6, w64_8, w64_11, w64_12, w64_13, w64_14, w64_15, w64_18, w64_19, w64_20, w64_23, eq_self, Nat.zero_le, n_lt, n_le, n_eq, n_neg, n_cl, n_mul, n_add, z_0, z_1, z_2, sc_0, sc_i, sc_r, sc_l, sc_n, jc_n, jc_i, jc_r, jc_l, Option.toList_some, Option.toList_none, List.cons_append, List.nil_append, Nat.reduceLT, Nat.reduceLeDiff, Nat.reduceMul, Nat.reduceAdd, Nat.reduceSub, Nat.reduceEqDiff, not_false_eq_true, not_true_eq_false, false_or, or_false, true_or, or_true, false_imp_iff, true_imp_iff, and_true, true_and, forall_const, false_implies, true_implies, b_t0, b_f0, tg_1, rf_1_0, rf_1_1, rf_1_2, rf_1_3, rf_1_4, rf_1_5, rf_1_6, tg_2, rf_2_0, rf_2_1, rf_2_2, rf_2_3, tg_3, ln_3, tg_4, ln_4, tg_5, rf_5_0, tg_6, ln_6, tg_7, rf_7_0, tg_8, ln_8, tg_123, rf_123_0, rf_123_1, rf_123_2, rf_123_3, rf_123_4, tg_124, ln_124, tg_125, rf_125_0, tg_126, ln_126, tg_127, rf_127_0, tg_128, ln_128, tg_129, ln_129, tg_322, rf_322_0, rf_322_1, rf_322_2, rf_322_3, tg_323, ln_323, tg_324, ln_324, tg_325, rf_325_0, rf_325_1, rf_325_2, tg_326, rf_326_0, tg_327, ln_327, tg_328, rf_328_0, tg_329, ln_329, tg_330, rf_330_0, rf_330_1, rf_330_2, tg_331, rf_331_0, tg_332, ln_332, tg_333, rf_333_0, tg_334, ln_334, tg_335, ln_335, tg_336, rf_336_0, tg_337, ln_337, tg_339, ln_339, tg_346, rf_346_1, rf_346_2, rf_346_4, rf_346_5, rf_346_6, rf_346_7, rf_346_8, rf_346_11, rf_346_13, rf_346_14, rf_346_15, rf_346_17, rf_346_18, rf_346_19, rf_346_20, rf_346_21, rf_346_22, rf_346_26, rf_346_28, rf_346_29, rf_346_32, rf_346_34, rf_346_35, rf_346_36, tg_347, ln_347, tg_348, ln_348, tg_349, ln_349, tg_350, ln_350, tg_351, ln_351, tg_352, ln_352, tg_353, ln_353, tg_354, ln_354, tg_355, ln_355, tg_356, ln_356, tg_357, ln_357, tg_358, ln_358, tg_359, ln_359, tg_360, ln_360, tg_361, ln_361, tg_362, ln_362, tg_363, ln_363, tg_364, ln_364, tg_365, ln_365, tg_366, ln_366, tg_367, ln_367, tg_368, ln_368, tg_369, ln_369, tg_370, ln_370, v_gt i (by omega), s2, E1, v_s i (by omega)]
theorem sp_states (R : RX I s) (G : ∀ h, h < s.1 → gdH (s.2.1 h)) {m : Nat} (hm : m < 6) (L : fL) : ∃ L' : fL, ∀ (d : Nat) (Q : Option Value × jW → Prop), Wp (d + 4) 64 0 [some (.ref 123), some (.int (nI m)), none, none] [] (f_W xs I L) Q = Q (some (.int (nI (0 + sumN (fun q => slN s m (nI q - nI 20)) 41))), f_W xs I L') := by
  obtain ⟨L', E⟩ := x_states (xs := xs) R G hm 41 0 0 L (by omega)
  refine ⟨L', fun d Q => ?_⟩
  rw [← E d Q, show 0 + sumN (fun q => slN s m (nI q - nI 20)) 0 = 0 from rfl]
  simp only [w64_0, w64_1, w64_2, w64_4, eq_self, Nat.zero_le, n_lt, n_le, n_eq, n_neg, n_cl, n_mul, n_add, z_0, z_1, z_2, sc_0, sc_i, sc_r, sc_l, sc_n, jc_n, jc_i, jc_r, jc_l, Option.toList_some, Option.toList_none, List.cons_append, List.nil_append, Nat.reduceLT, Nat.reduceLeDiff, Nat.reduceMul, Nat.reduceAdd, Nat.reduceSub, Nat.reduceEqDiff, not_false_eq_true, not_true_eq_false, false_or, or_false, true_or, or_true, false_imp_iff, true_imp_iff, and_true, true_and, forall_const, false_implies, true_implies, b_t0, b_f0, v_0]
end MANY
