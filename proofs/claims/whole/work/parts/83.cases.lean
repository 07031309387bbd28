/-! THE LAW, case by case (wip/whole/gen/law.py) -/
section LAWC
variable {g : List Int32} {I : fI} {L : fL} {Q : Option Value × jW → Prop}
theorem law_0 {t : Nat} (hR : Rel I) (h31 : t + 6 < 2147483648) (h1 : t + 1 < g.length) (h2 : t + 2 < g.length) (h3 : t + 3 < g.length) (h4 : t + 4 < g.length) (h5 : t + 5 < g.length) (K : ∀ (I : fI) (L : fL), Rel I → Wp 9 170 18 [some (.ref 0), some (.ref 1), some (.ref 346), some (.int (nI (t + 6)))] [] (f_W (g.map Value.int) I L) Q) : Wp 9 170 160 [some (.ref 0), some (.ref 1), some (.ref 346), some (.int (nI t))] [] (f_W (g.map Value.int) I L) Q := by
  have b1 : t + 1 < 2147483648 := by omega
  have b2 : t + 2 < 2147483648 := by omega
  have b3 : t + 3 < 2147483648 := by omega
  have b4 : t + 4 < 2147483648 := by omega
  have b5 : t + 5 < 2147483648 := by omega
  obtain ⟨v, I1, I2, L1, X, M, r⟩ := same_mode (xs := g.map Value.int) (L := L) hR
  have X := X 0
  have M := M 0
  simp only [w170_160, w170_161, w170_164, w170_165, w170_168, w170_171, w170_172, w170_1206, w170_1209, eq_self, n_add, sc_0, sc_i, sc_r, jc_i, jc_r, Option.toList_some, List.cons_append, List.nil_append, Nat.reduceLeDiff, Nat.reduceAdd, Nat.reduceEqDiff, not_false_eq_true, not_true_eq_false, false_imp_iff, true_imp_iff, and_true, true_and, forall_const, false_implies, true_implies, tg_1, tg_346, h1, h2, h3, h4, h5, b1, b2, b3, b4, b5, X, M]
  exact K _ _ r
theorem law_1 {t : Nat} (hR : Rel I) (h31 : t + 6 < 2147483648) (h1 : t + 1 < g.length) (h2 : t + 2 < g.length) (h3 : t + 3 < g.length) (h4 : t + 4 < g.length) (h5 : t + 5 < g.length) (K : ∀ (I : fI) (L : fL), Rel I → Wp 9 170 18 [some (.ref 0), some (.ref 1), some (.ref 346), some (.int (nI (t + 6)))] [] (f_W (g.map Value.int) I L) Q) : Wp 9 170 173 [some (.ref 0), some (.ref 1), some (.ref 346), some (.int (nI t))] [] (f_W (g.map Value.int) I L) Q := by
  have b1 : t + 1 < 2147483648 := by omega
  have b2 : t + 2 < 2147483648 := by omega
  have b3 : t + 3 < 2147483648 := by omega
  have b4 : t + 4 < 2147483648 := by omega
  have b5 : t + 5 < 2147483648 := by omega
  obtain ⟨v, I1, I2, L1, X, M, r⟩ := same_room (xs := g.map Value.int) (L := L) hR (m := g.getD (t + 1) 0) (x := g.getD (t + 2) 0) (a := g.getD (t + 3) 0) (b := g.getD (t + 4) 0)
  have X := X 0
  have M := M 0
  simp only [w170_173, w170_174, w170_175, w170_176, w170_177, w170_178, w170_179, w170_180, w170_181, w170_182, w170_183, w170_184, w170_185, w170_186, w170_187, w170_188, w170_189, w170_190, w170_191, w170_192, w170_193, w170_194, w170_197, w170_198, w170_199, w170_200, w170_201, w170_202, w170_203, w170_204, w170_205, w170_206, w170_207, w170_208, w170_209, w170_210, w170_211, w170_212, w170_213, w170_214, w170_215, w170_216, w170_217, w170_218, w170_221, w170_224, w170_225, w170_1206, w170_1209, eq_self, n_add, sc_0, sc_i, sc_r, jc_i, jc_r, Option.toList_some, List.cons_append, List.nil_append, Nat.reduceLeDiff, Nat.reduceAdd, Nat.reduceEqDiff, not_false_eq_true, not_true_eq_false, false_imp_iff, true_imp_iff, and_true, true_and, forall_const, false_implies, true_implies, tg_1, tg_346, h1, h2, h3, h4, h5, b1, b2, b3, b4, b5, X, M]
  exact K _ _ r
theorem law_2 {t : Nat} (hR : Rel I) (h31 : t + 6 < 2147483648) (h1 : t + 1 < g.length) (h2 : t + 2 < g.length) (h3 : t + 3 < g.length) (h4 : t + 4 < g.length) (h5 : t + 5 < g.length) (K : ∀ (I : fI) (L : fL), Rel I → Wp 9 170 18 [some (.ref 0), some (.ref 1), some (.ref 346), some (.int (nI (t + 6)))] [] (f_W (g.map Value.int) I L) Q) : Wp 9 170 226 [some (.ref 0), some (.ref 1), some (.ref 346), some (.int (nI t))] [] (f_W (g.map Value.int) I L) Q := by
  have b1 : t + 1 < 2147483648 := by omega
  have b2 : t + 2 < 2147483648 := by omega
  have b3 : t + 3 < 2147483648 := by omega
  have b4 : t + 4 < 2147483648 := by omega
  have b5 : t + 5 < 2147483648 := by omega
  obtain ⟨v, I1, I2, L1, X, M, r⟩ := same_slope (xs := g.map Value.int) (L := L) hR (m := g.getD (t + 1) 0) (x := g.getD (t + 2) 0) (a := g.getD (t + 3) 0) (b := g.getD (t + 4) 0)
  have X := X 0
  have M := M 0
  simp only [w170_226, w170_227, w170_228, w170_229, w170_230, w170_231, w170_232, w170_233, w170_234, w170_235, w170_236, w170_237, w170_238, w170_239, w170_240, w170_241, w170_242, w170_243, w170_244, w170_245, w170_246, w170_247, w170_250, w170_251, w170_252, w170_253, w170_254, w170_255, w170_256, w170_257, w170_258, w170_259, w170_260, w170_261, w170_262, w170_263, w170_264, w170_265, w170_266, w170_267, w170_268, w170_269, w170_270, w170_271, w170_274, w170_277, w170_278, w170_1206, w170_1209, eq_self, n_add, sc_0, sc_i, sc_r, jc_i, jc_r, Option.toList_some, List.cons_append, List.nil_append, Nat.reduceLeDiff, Nat.reduceAdd, Nat.reduceEqDiff, not_false_eq_true, not_true_eq_false, false_imp_iff, true_imp_iff, and_true, true_and, forall_const, false_implies, true_implies, tg_1, tg_346, h1, h2, h3, h4, h5, b1, b2, b3, b4, b5, X, M]
  exact K _ _ r
theorem law_3 {t : Nat} (hR : Rel I) (h31 : t + 6 < 2147483648) (h1 : t + 1 < g.length) (h2 : t + 2 < g.length) (h3 : t + 3 < g.length) (h4 : t + 4 < g.length) (h5 : t + 5 < g.length) (K : ∀ (I : fI) (L : fL), Rel I → Wp 9 170 18 [some (.ref 0), some (.ref 1), some (.ref 346), some (.int (nI (t + 6)))] [] (f_W (g.map Value.int) I L) Q) : Wp 9 170 279 [some (.ref 0), some (.ref 1), some (.ref 346), some (.int (nI t))] [] (f_W (g.map Value.int) I L) Q := by
  have b1 : t + 1 < 2147483648 := by omega
  have b2 : t + 2 < 2147483648 := by omega
  have b3 : t + 3 < 2147483648 := by omega
  have b4 : t + 4 < 2147483648 := by omega
  have b5 : t + 5 < 2147483648 := by omega
  obtain ⟨v, I1, I2, L1, X, M, r⟩ := same_jump (xs := g.map Value.int) (L := L) hR (a := g.getD (t + 1) 0) (b := g.getD (t + 2) 0)
  have X := X 0
  have M := M 0
  simp only [w170_279, w170_280, w170_281, w170_282, w170_283, w170_284, w170_285, w170_286, w170_287, w170_288, w170_289, w170_290, w170_293, w170_294, w170_295, w170_296, w170_297, w170_298, w170_299, w170_300, w170_301, w170_302, w170_303, w170_304, w170_307, w170_310, w170_311, w170_1206, w170_1209, eq_self, n_add, sc_0, sc_i, sc_r, jc_i, jc_r, Option.toList_some, List.cons_append, List.nil_append, Nat.reduceLeDiff, Nat.reduceAdd, Nat.reduceEqDiff, not_false_eq_true, not_true_eq_false, false_imp_iff, true_imp_iff, and_true, true_and, forall_const, false_implies, true_implies, tg_1, tg_346, h1, h2, h3, h4, h5, b1, b2, b3, b4, b5, X, M]
  exact K _ _ r
theorem law_4 {t : Nat} (hR : Rel I) (h31 : t + 6 < 2147483648) (h1 : t + 1 < g.length) (h2 : t + 2 < g.length) (h3 : t + 3 < g.length) (h4 : t + 4 < g.length) (h5 : t + 5 < g.length) (K : ∀ (I : fI) (L : fL), Rel I → Wp 9 170 18 [some (.ref 0), some (.ref 1), some (.ref 346), some (.int (nI (t + 6)))] [] (f_W (g.map Value.int) I L) Q) : Wp 9 170 312 [some (.ref 0), some (.ref 1), some (.ref 346), some (.int (nI t))] [] (f_W (g.map Value.int) I L) Q := by
  have b1 : t + 1 < 2147483648 := by omega
  have b2 : t + 2 < 2147483648 := by omega
  have b3 : t + 3 < 2147483648 := by omega
  have b4 : t + 4 < 2147483648 := by omega
  have b5 : t + 5 < 2147483648 := by omega
  obtain ⟨v, I1, I2, L1, X, M, r⟩ := same_guard (xs := g.map Value.int) (L := L) hR (m := g.getD (t + 1) 0) (x := g.getD (t + 2) 0) (a := g.getD (t + 3) 0) (b := g.getD (t + 4) 0)
  have X := X 0
  have M := M 0
  simp only [w170_312, w170_313, w170_314, w170_315, w170_316, w170_317, w170_318, w170_319, w170_320, w170_321, w170_322, w170_323, w170_324, w170_325, w170_326, w170_327, w170_328, w170_329, w170_330, w170_331, w170_332, w170_333, w170_336, w170_337, w170_338, w170_339, w170_340, w170_341, w170_342, w170_343, w170_344, w170_345, w170_346, w170_347, w170_348, w170_349, w170_350, w170_351, w170_352, w170_353, w170_354, w170_355, w170_356, w170_357, w170_360, w170_363, w170_364, w170_1206, w170_1209, eq_self, n_add, sc_0, sc_i, sc_r, jc_i, jc_r, Option.toList_some, List.cons_append, List.nil_append, Nat.reduceLeDiff, Nat.reduceAdd, Nat.reduceEqDiff, not_false_eq_true, not_true_eq_false, false_imp_iff, true_imp_iff, and_true, true_and, forall_const, false_implies, true_implies, tg_1, tg_346, h1, h2, h3, h4, h5, b1, b2, b3, b4, b5, X, M]
  exact K _ _ r
theorem law_5 {t : Nat} (hR : Rel I) (h31 : t + 6 < 2147483648) (h1 : t + 1 < g.length) (h2 : t + 2 < g.length) (h3 : t + 3 < g.length) (h4 : t + 4 < g.length) (h5 : t + 5 < g.length) (K : ∀ (I : fI) (L : fL), Rel I → Wp 9 170 18 [some (.ref 0), some (.ref 1), some (.ref 346), some (.int (nI (t + 6)))] [] (f_W (g.map Value.int) I L) Q) : Wp 9 170 365 [some (.ref 0), some (.ref 1), some (.ref 346), some (.int (nI t))] [] (f_W (g.map Value.int) I L) Q := by
  have b1 : t + 1 < 2147483648 := by omega
  have b2 : t + 2 < 2147483648 := by omega
  have b3 : t + 3 < 2147483648 := by omega
  have b4 : t + 4 < 2147483648 := by omega
  have b5 : t + 5 < 2147483648 := by omega
  by_cases q : g.getD (t + 3) 0 = nI 0
  · obtain ⟨v, I1, I2, L1, X, M, r⟩ := same_set (xs := g.map Value.int) (L := L) hR (m := g.getD (t + 1) 0) (x := g.getD (t + 2) 0) (kp := false) (a := g.getD (t + 4) 0) (b := g.getD (t + 5) 0)
    have X := X 0
    have M := M 0
    simp only [b2_t, b2_f] at X M
    simp only [w170_365, w170_366, w170_367, w170_368, w170_369, w170_370, w170_371, w170_372, w170_373, w170_374, w170_375, w170_376, w170_377, w170_378, w170_379, w170_380, w170_381, w170_384, w170_385, w170_388, w170_389, w170_390, w170_391, w170_392, w170_393, w170_394, w170_395, w170_396, w170_397, w170_398, w170_399, w170_402, w170_403, w170_404, w170_405, w170_406, w170_407, w170_408, w170_409, w170_410, w170_411, w170_412, w170_413, w170_414, w170_415, w170_416, w170_417, w170_418, w170_421, w170_422, w170_425, w170_426, w170_427, w170_428, w170_429, w170_430, w170_431, w170_432, w170_433, w170_434, w170_435, w170_436, w170_439, w170_442, w170_443, w170_1206, w170_1209, eq_self, n_add, sc_0, sc_i, sc_r, jc_i, jc_r, Option.toList_some, List.cons_append, List.nil_append, Nat.reduceLeDiff, Nat.reduceAdd, Nat.reduceEqDiff, not_false_eq_true, not_true_eq_false, false_imp_iff, true_imp_iff, and_true, true_and, forall_const, false_implies, true_implies, tg_1, tg_346, h1, h2, h3, h4, h5, b1, b2, b3, b4, b5, X, M, q]
    exact K _ _ r
  · obtain ⟨v, I1, I2, L1, X, M, r⟩ := same_set (xs := g.map Value.int) (L := L) hR (m := g.getD (t + 1) 0) (x := g.getD (t + 2) 0) (kp := true) (a := g.getD (t + 4) 0) (b := g.getD (t + 5) 0)
    have X := X 0
    have M := M 0
    simp only [b2_t, b2_f] at X M
    simp only [w170_365, w170_366, w170_367, w170_368, w170_369, w170_370, w170_371, w170_372, w170_373, w170_374, w170_375, w170_376, w170_377, w170_378, w170_379, w170_380, w170_381, w170_384, w170_385, w170_388, w170_389, w170_390, w170_391, w170_392, w170_393, w170_394, w170_395, w170_396, w170_397, w170_398, w170_399, w170_402, w170_403, w170_404, w170_405, w170_406, w170_407, w170_408, w170_409, w170_410, w170_411, w170_412, w170_413, w170_414, w170_415, w170_416, w170_417, w170_418, w170_421, w170_422, w170_425, w170_426, w170_427, w170_428, w170_429, w170_430, w170_431, w170_432, w170_433, w170_434, w170_435, w170_436, w170_439, w170_442, w170_443, w170_1206, w170_1209, eq_self, n_add, sc_0, sc_i, sc_r, jc_i, jc_r, Option.toList_some, List.cons_append, List.nil_append, Nat.reduceLeDiff, Nat.reduceAdd, Nat.reduceEqDiff, not_false_eq_true, not_true_eq_false, false_imp_iff, true_imp_iff, and_true, true_and, forall_const, false_implies, true_implies, tg_1, tg_346, h1, h2, h3, h4, h5, b1, b2, b3, b4, b5, X, M, q]
    exact K _ _ r
theorem law_6 {t : Nat} (hR : Rel I) (h31 : t + 6 < 2147483648) (h1 : t + 1 < g.length) (h2 : t + 2 < g.length) (h3 : t + 3 < g.length) (h4 : t + 4 < g.length) (h5 : t + 5 < g.length) (K : ∀ (I : fI) (L : fL), Rel I → Wp 9 170 18 [some (.ref 0), some (.ref 1), some (.ref 346), some (.int (nI (t + 6)))] [] (f_W (g.map Value.int) I L) Q) : Wp 9 170 444 [some (.ref 0), some (.ref 1), some (.ref 346), some (.int (nI t))] [] (f_W (g.map Value.int) I L) Q := by
  have b1 : t + 1 < 2147483648 := by omega
  have b2 : t + 2 < 2147483648 := by omega
  have b3 : t + 3 < 2147483648 := by omega
  have b4 : t + 4 < 2147483648 := by omega
  have b5 : t + 5 < 2147483648 := by omega
  obtain ⟨v, I1, I2, L1, X, M, r⟩ := same_start (xs := g.map Value.int) (L := L) hR (m := g.getD (t + 1) 0)
  have X := X 0
  have M := M 0
  simp only [w170_444, w170_445, w170_446, w170_447, w170_448, w170_449, w170_450, w170_453, w170_454, w170_455, w170_456, w170_457, w170_458, w170_459, w170_462, w170_465, w170_466, w170_1206, w170_1209, eq_self, n_add, sc_0, sc_i, sc_r, jc_i, jc_r, Option.toList_some, List.cons_append, List.nil_append, Nat.reduceLeDiff, Nat.reduceAdd, Nat.reduceEqDiff, not_false_eq_true, not_true_eq_false, false_imp_iff, true_imp_iff, and_true, true_and, forall_const, false_implies, true_implies, tg_1, tg_346, h1, h2, h3, h4, h5, b1, b2, b3, b4, b5, X, M]
  exact K _ _ r
theorem law_7 {t : Nat} (hR : Rel I) (h31 : t + 6 < 2147483648) (h1 : t + 1 < g.length) (h2 : t + 2 < g.length) (h3 : t + 3 < g.length) (h4 : t + 4 < g.length) (h5 : t + 5 < g.length) (K : ∀ (I : fI) (L : fL), Rel I → Wp 9 170 18 [some (.ref 0), some (.ref 1), some (.ref 346), some (.int (nI (t + 6)))] [] (f_W (g.map Value.int) I L) Q) : Wp 9 170 467 [some (.ref 0), some (.ref 1), some (.ref 346), some (.int (nI t))] [] (f_W (g.map Value.int) I L) Q := by
  have b1 : t + 1 < 2147483648 := by omega
  have b2 : t + 2 < 2147483648 := by omega
  have b3 : t + 3 < 2147483648 := by omega
  have b4 : t + 4 < 2147483648 := by omega
  have b5 : t + 5 < 2147483648 := by omega
  obtain ⟨v, I1, I2, L1, X, M, r⟩ := same_box (xs := g.map Value.int) (L := L) hR (m := g.getD (t + 1) 0) (x := g.getD (t + 2) 0) (a := g.getD (t + 3) 0) (b := g.getD (t + 4) 0)
  have X := X 0
  have M := M 0
  simp only [w170_467, w170_468, w170_469, w170_470, w170_471, w170_472, w170_473, w170_474, w170_475, w170_476, w170_477, w170_478, w170_479, w170_480, w170_481, w170_482, w170_483, w170_484, w170_485, w170_486, w170_487, w170_488, w170_491, w170_492, w170_493, w170_494, w170_495, w170_496, w170_497, w170_498, w170_499, w170_500, w170_501, w170_502, w170_503, w170_504, w170_505, w170_506, w170_507, w170_508, w170_509, w170_510, w170_511, w170_512, w170_515, w170_518, w170_519, w170_1206, w170_1209, eq_self, n_add, sc_0, sc_i, sc_r, jc_i, jc_r, Option.toList_some, List.cons_append, List.nil_append, Nat.reduceLeDiff, Nat.reduceAdd, Nat.reduceEqDiff, not_false_eq_true, not_true_eq_false, false_imp_iff, true_imp_iff, and_true, true_and, forall_const, false_implies, true_implies, tg_1, tg_346, h1, h2, h3, h4, h5, b1, b2, b3, b4, b5, X, M]
  exact K _ _ r
theorem law_8 {t : Nat} (hR : Rel I) (h31 : t + 6 < 2147483648) (h1 : t + 1 < g.length) (h2 : t + 2 < g.length) (h3 : t + 3 < g.length) (h4 : t + 4 < g.length) (h5 : t + 5 < g.length) (K : ∀ (I : fI) (L : fL), Rel I → Wp 9 170 18 [some (.ref 0), some (.ref 1), some (.ref 346), some (.int (nI (t + 6)))] [] (f_W (g.map Value.int) I L) Q) : Wp 9 170 520 [some (.ref 0), some (.ref 1), some (.ref 346), some (.int (nI t))] [] (f_W (g.map Value.int) I L) Q := by
  have b1 : t + 1 < 2147483648 := by omega
  have b2 : t + 2 < 2147483648 := by omega
  have b3 : t + 3 < 2147483648 := by omega
  have b4 : t + 4 < 2147483648 := by omega
  have b5 : t + 5 < 2147483648 := by omega
  obtain ⟨v, I1, I2, L1, X, M, r⟩ := same_wrong (xs := g.map Value.int) (L := L) hR (m := g.getD (t + 1) 0)
  have X := X 0
  have M := M 0
  simp only [w170_520, w170_521, w170_522, w170_523, w170_524, w170_525, w170_526, w170_529, w170_530, w170_531, w170_532, w170_533, w170_534, w170_535, w170_538, w170_541, w170_542, w170_1206, w170_1209, eq_self, n_add, sc_0, sc_i, sc_r, jc_i, jc_r, Option.toList_some, List.cons_append, List.nil_append, Nat.reduceLeDiff, Nat.reduceAdd, Nat.reduceEqDiff, not_false_eq_true, not_true_eq_false, false_imp_iff, true_imp_iff, and_true, true_and, forall_const, false_implies, true_implies, tg_1, tg_346, h1, h2, h3, h4, h5, b1, b2, b3, b4, b5, X, M]
  exact K _ _ r
theorem law_9 {t : Nat} (hR : Rel I) (h31 : t + 6 < 2147483648) (h1 : t + 1 < g.length) (h2 : t + 2 < g.length) (h3 : t + 3 < g.length) (h4 : t + 4 < g.length) (h5 : t + 5 < g.length) (K : ∀ (I : fI) (L : fL), Rel I → Wp 9 170 18 [some (.ref 0), some (.ref 1), some (.ref 346), some (.int (nI (t + 6)))] [] (f_W (g.map Value.int) I L) Q) : Wp 9 170 543 [some (.ref 0), some (.ref 1), some (.ref 346), some (.int (nI t))] [] (f_W (g.map Value.int) I L) Q := by
  have b1 : t + 1 < 2147483648 := by omega
  have b2 : t + 2 < 2147483648 := by omega
  have b3 : t + 3 < 2147483648 := by omega
  have b4 : t + 4 < 2147483648 := by omega
  have b5 : t + 5 < 2147483648 := by omega
  obtain ⟨v, I1, I2, L1, X, M, r⟩ := same_most (xs := g.map Value.int) (L := L) hR (m := g.getD (t + 1) 0)
  have X := X 0
  have M := M 0
  simp only [w170_543, w170_544, w170_545, w170_546, w170_547, w170_548, w170_549, w170_552, w170_553, w170_554, w170_555, w170_556, w170_557, w170_558, w170_561, w170_564, w170_565, w170_1206, w170_1209, eq_self, n_add, sc_0, sc_i, sc_r, jc_i, jc_r, Option.toList_some, List.cons_append, List.nil_append, Nat.reduceLeDiff, Nat.reduceAdd, Nat.reduceEqDiff, not_false_eq_true, not_true_eq_false, false_imp_iff, true_imp_iff, and_true, true_and, forall_const, false_implies, true_implies, tg_1, tg_346, h1, h2, h3, h4, h5, b1, b2, b3, b4, b5, X, M]
  exact K _ _ r
theorem law_10 {t : Nat} (hR : Rel I) (h31 : t + 6 < 2147483648) (h1 : t + 1 < g.length) (h2 : t + 2 < g.length) (h3 : t + 3 < g.length) (h4 : t + 4 < g.length) (h5 : t + 5 < g.length) (K : ∀ (I : fI) (L : fL), Rel I → Wp 9 170 18 [some (.ref 0), some (.ref 1), some (.ref 346), some (.int (nI (t + 6)))] [] (f_W (g.map Value.int) I L) Q) : Wp 9 170 566 [some (.ref 0), some (.ref 1), some (.ref 346), some (.int (nI t))] [] (f_W (g.map Value.int) I L) Q := by
  have b1 : t + 1 < 2147483648 := by omega
  have b2 : t + 2 < 2147483648 := by omega
  have b3 : t + 3 < 2147483648 := by omega
  have b4 : t + 4 < 2147483648 := by omega
  have b5 : t + 5 < 2147483648 := by omega
  obtain ⟨v, I1, I2, L1, X, M, r⟩ := same_safe (xs := g.map Value.int) (L := L) hR
  have X := X 0
  have M := M 0
  simp only [w170_566, w170_567, w170_570, w170_571, w170_574, w170_577, w170_578, w170_1206, w170_1209, eq_self, n_add, sc_0, sc_i, sc_r, jc_i, jc_r, Option.toList_some, List.cons_append, List.nil_append, Nat.reduceLeDiff, Nat.reduceAdd, Nat.reduceEqDiff, not_false_eq_true, not_true_eq_false, false_imp_iff, true_imp_iff, and_true, true_and, forall_const, false_implies, true_implies, tg_1, tg_346, h1, h2, h3, h4, h5, b1, b2, b3, b4, b5, X, M]
  exact K _ _ r
theorem law_11 {t : Nat} (hR : Rel I) (h31 : t + 6 < 2147483648) (h1 : t + 1 < g.length) (h2 : t + 2 < g.length) (h3 : t + 3 < g.length) (h4 : t + 4 < g.length) (h5 : t + 5 < g.length) (K : ∀ (I : fI) (L : fL), Rel I → Wp 9 170 18 [some (.ref 0), some (.ref 1), some (.ref 346), some (.int (nI (t + 6)))] [] (f_W (g.map Value.int) I L) Q) : Wp 9 170 579 [some (.ref 0), some (.ref 1), some (.ref 346), some (.int (nI t))] [] (f_W (g.map Value.int) I L) Q := by
  have b1 : t + 1 < 2147483648 := by omega
  have b2 : t + 2 < 2147483648 := by omega
  have b3 : t + 3 < 2147483648 := by omega
  have b4 : t + 4 < 2147483648 := by omega
  have b5 : t + 5 < 2147483648 := by omega
  obtain ⟨v, I1, I2, L1, X, M, r⟩ := same_heap (xs := g.map Value.int) (L := L) hR (h := g.getD (t + 1) 0) (m := g.getD (t + 2) 0)
  have X := X 0
  have M := M 0
  simp only [w170_579, w170_580, w170_581, w170_582, w170_583, w170_584, w170_585, w170_586, w170_587, w170_588, w170_589, w170_590, w170_593, w170_594, w170_595, w170_596, w170_597, w170_598, w170_599, w170_600, w170_601, w170_602, w170_603, w170_604, w170_607, w170_610, w170_611, w170_1206, w170_1209, eq_self, n_add, sc_0, sc_i, sc_r, jc_i, jc_r, Option.toList_some, List.cons_append, List.nil_append, Nat.reduceLeDiff, Nat.reduceAdd, Nat.reduceEqDiff, not_false_eq_true, not_true_eq_false, false_imp_iff, true_imp_iff, and_true, true_and, forall_const, false_implies, true_implies, tg_1, tg_346, h1, h2, h3, h4, h5, b1, b2, b3, b4, b5, X, M]
  exact K _ _ r
theorem law_12 {t : Nat} (hR : Rel I) (h31 : t + 6 < 2147483648) (h1 : t + 1 < g.length) (h2 : t + 2 < g.length) (h3 : t + 3 < g.length) (h4 : t + 4 < g.length) (h5 : t + 5 < g.length) (K : ∀ (I : fI) (L : fL), Rel I → Wp 9 170 18 [some (.ref 0), some (.ref 1), some (.ref 346), some (.int (nI (t + 6)))] [] (f_W (g.map Value.int) I L) Q) : Wp 9 170 612 [some (.ref 0), some (.ref 1), some (.ref 346), some (.int (nI t))] [] (f_W (g.map Value.int) I L) Q := by
  have b1 : t + 1 < 2147483648 := by omega
  have b2 : t + 2 < 2147483648 := by omega
  have b3 : t + 3 < 2147483648 := by omega
  have b4 : t + 4 < 2147483648 := by omega
  have b5 : t + 5 < 2147483648 := by omega
  by_cases q : g.getD (t + 3) 0 = nI 0
  · obtain ⟨v, I1, I2, L1, X, M, r⟩ := same_side (xs := g.map Value.int) (L := L) hR (h := g.getD (t + 1) 0) (x := g.getD (t + 2) 0) (b := false)
    have X := X 0
    have M := M 0
    simp only [b2_t, b2_f] at X M
    simp only [w170_612, w170_613, w170_614, w170_615, w170_616, w170_617, w170_618, w170_619, w170_620, w170_621, w170_622, w170_623, w170_624, w170_625, w170_626, w170_627, w170_628, w170_631, w170_632, w170_635, w170_636, w170_639, w170_640, w170_641, w170_642, w170_643, w170_644, w170_645, w170_646, w170_647, w170_648, w170_649, w170_650, w170_651, w170_652, w170_653, w170_654, w170_655, w170_658, w170_659, w170_662, w170_663, w170_666, w170_669, w170_670, w170_1206, w170_1209, eq_self, n_add, sc_0, sc_i, sc_r, jc_i, jc_r, Option.toList_some, List.cons_append, List.nil_append, Nat.reduceLeDiff, Nat.reduceAdd, Nat.reduceEqDiff, not_false_eq_true, not_true_eq_false, false_imp_iff, true_imp_iff, and_true, true_and, forall_const, false_implies, true_implies, tg_1, tg_346, h1, h2, h3, h4, h5, b1, b2, b3, b4, b5, X, M, q]
    exact K _ _ r
  · obtain ⟨v, I1, I2, L1, X, M, r⟩ := same_side (xs := g.map Value.int) (L := L) hR (h := g.getD (t + 1) 0) (x := g.getD (t + 2) 0) (b := true)
    have X := X 0
    have M := M 0
    simp only [b2_t, b2_f] at X M
    simp only [w170_612, w170_613, w170_614, w170_615, w170_616, w170_617, w170_618, w170_619, w170_620, w170_621, w170_622, w170_623, w170_624, w170_625, w170_626, w170_627, w170_628, w170_631, w170_632, w170_635, w170_636, w170_639, w170_640, w170_641, w170_642, w170_643, w170_644, w170_645, w170_646, w170_647, w170_648, w170_649, w170_650, w170_651, w170_652, w170_653, w170_654, w170_655, w170_658, w170_659, w170_662, w170_663, w170_666, w170_669, w170_670, w170_1206, w170_1209, eq_self, n_add, sc_0, sc_i, sc_r, jc_i, jc_r, Option.toList_some, List.cons_append, List.nil_append, Nat.reduceLeDiff, Nat.reduceAdd, Nat.reduceEqDiff, not_false_eq_true, not_true_eq_false, false_imp_iff, true_imp_iff, and_true, true_and, forall_const, false_implies, true_implies, tg_1, tg_346, h1, h2, h3, h4, h5, b1, b2, b3, b4, b5, X, M, q]
    exact K _ _ r
theorem law_13 {t : Nat} (hR : Rel I) (h31 : t + 6 < 2147483648) (h1 : t + 1 < g.length) (h2 : t + 2 < g.length) (h3 : t + 3 < g.length) (h4 : t + 4 < g.length) (h5 : t + 5 < g.length) (K : ∀ (I : fI) (L : fL), Rel I → Wp 9 170 18 [some (.ref 0), some (.ref 1), some (.ref 346), some (.int (nI (t + 6)))] [] (f_W (g.map Value.int) I L) Q) : Wp 9 170 671 [some (.ref 0), some (.ref 1), some (.ref 346), some (.int (nI t))] [] (f_W (g.map Value.int) I L) Q := by
  have b1 : t + 1 < 2147483648 := by omega
  have b2 : t + 2 < 2147483648 := by omega
  have b3 : t + 3 < 2147483648 := by omega
  have b4 : t + 4 < 2147483648 := by omega
  have b5 : t + 5 < 2147483648 := by omega
  obtain ⟨v, I1, I2, L1, X, M, r⟩ := same_comes (xs := g.map Value.int) (L := L) hR (m := g.getD (t + 1) 0) (x := g.getD (t + 2) 0) (y := g.getD (t + 3) 0) (z := g.getD (t + 4) 0)
  have X := X 0
  have M := M 0
  simp only [w170_671, w170_672, w170_673, w170_674, w170_675, w170_676, w170_677, w170_678, w170_679, w170_680, w170_681, w170_682, w170_683, w170_684, w170_685, w170_686, w170_687, w170_688, w170_689, w170_690, w170_691, w170_692, w170_695, w170_696, w170_697, w170_698, w170_699, w170_700, w170_701, w170_702, w170_703, w170_704, w170_705, w170_706, w170_707, w170_708, w170_709, w170_710, w170_711, w170_712, w170_713, w170_714, w170_715, w170_716, w170_719, w170_722, w170_723, w170_1206, w170_1209, eq_self, n_add, sc_0, sc_i, sc_r, jc_i, jc_r, Option.toList_some, List.cons_append, List.nil_append, Nat.reduceLeDiff, Nat.reduceAdd, Nat.reduceEqDiff, not_false_eq_true, not_true_eq_false, false_imp_iff, true_imp_iff, and_true, true_and, forall_const, false_implies, true_implies, tg_1, tg_346, h1, h2, h3, h4, h5, b1, b2, b3, b4, b5, X, M]
  exact K _ _ r
theorem law_14 {t : Nat} (hR : Rel I) (h31 : t + 6 < 2147483648) (h1 : t + 1 < g.length) (h2 : t + 2 < g.length) (h3 : t + 3 < g.length) (h4 : t + 4 < g.length) (h5 : t + 5 < g.length) (K : ∀ (I : fI) (L : fL), Rel I → Wp 9 170 18 [some (.ref 0), some (.ref 1), some (.ref 346), some (.int (nI (t + 6)))] [] (f_W (g.map Value.int) I L) Q) : Wp 9 170 724 [some (.ref 0), some (.ref 1), some (.ref 346), some (.int (nI t))] [] (f_W (g.map Value.int) I L) Q := by
  have b1 : t + 1 < 2147483648 := by omega
  have b2 : t + 2 < 2147483648 := by omega
  have b3 : t + 3 < 2147483648 := by omega
  have b4 : t + 4 < 2147483648 := by omega
  have b5 : t + 5 < 2147483648 := by omega
  obtain ⟨v, I1, I2, L1, X, M, r⟩ := same_many (xs := g.map Value.int) (L := L) hR (m := g.getD (t + 1) 0)
  have X := X 0
  have M := M 0
  simp only [w170_724, w170_725, w170_726, w170_727, w170_728, w170_729, w170_730, w170_733, w170_734, w170_735, w170_736, w170_737, w170_738, w170_739, w170_742, w170_745, w170_746, w170_1206, w170_1209, eq_self, n_add, sc_0, sc_i, sc_r, jc_i, jc_r, Option.toList_some, List.cons_append, List.nil_append, Nat.reduceLeDiff, Nat.reduceAdd, Nat.reduceEqDiff, not_false_eq_true, not_true_eq_false, false_imp_iff, true_imp_iff, and_true, true_and, forall_const, false_implies, true_implies, tg_1, tg_346, h1, h2, h3, h4, h5, b1, b2, b3, b4, b5, X, M]
  exact K _ _ r
theorem law_15 {t : Nat} (hR : Rel I) (h31 : t + 6 < 2147483648) (h1 : t + 1 < g.length) (h2 : t + 2 < g.length) (h3 : t + 3 < g.length) (h4 : t + 4 < g.length) (h5 : t + 5 < g.length) (K : ∀ (I : fI) (L : fL), Rel I → Wp 9 170 18 [some (.ref 0), some (.ref 1), some (.ref 346), some (.int (nI (t + 6)))] [] (f_W (g.map Value.int) I L) Q) : Wp 9 170 747 [some (.ref 0), some (.ref 1), some (.ref 346), some (.int (nI t))] [] (f_W (g.map Value.int) I L) Q := by
  have b1 : t + 1 < 2147483648 := by omega
  have b2 : t + 2 < 2147483648 := by omega
  have b3 : t + 3 < 2147483648 := by omega
  have b4 : t + 4 < 2147483648 := by omega
  have b5 : t + 5 < 2147483648 := by omega
  obtain ⟨v, I1, I2, L1, X, M, r⟩ := same_shown (xs := g.map Value.int) (L := L) hR
  have X := X 0
  have M := M 0
  simp only [w170_747, w170_748, w170_751, w170_752, w170_755, w170_758, w170_759, w170_1206, w170_1209, eq_self, n_add, sc_0, sc_i, sc_r, jc_i, jc_r, Option.toList_some, List.cons_append, List.nil_append, Nat.reduceLeDiff, Nat.reduceAdd, Nat.reduceEqDiff, not_false_eq_true, not_true_eq_false, false_imp_iff, true_imp_iff, and_true, true_and, forall_const, false_implies, true_implies, tg_1, tg_346, h1, h2, h3, h4, h5, b1, b2, b3, b4, b5, X, M]
  exact K _ _ r
theorem law_16 {t : Nat} (hR : Rel I) (h31 : t + 6 < 2147483648) (h1 : t + 1 < g.length) (h2 : t + 2 < g.length) (h3 : t + 3 < g.length) (h4 : t + 4 < g.length) (h5 : t + 5 < g.length) (K : ∀ (I : fI) (L : fL), Rel I → Wp 9 170 18 [some (.ref 0), some (.ref 1), some (.ref 346), some (.int (nI (t + 6)))] [] (f_W (g.map Value.int) I L) Q) : Wp 9 170 760 [some (.ref 0), some (.ref 1), some (.ref 346), some (.int (nI t))] [] (f_W (g.map Value.int) I L) Q := by
  have b1 : t + 1 < 2147483648 := by omega
  have b2 : t + 2 < 2147483648 := by omega
  have b3 : t + 3 < 2147483648 := by omega
  have b4 : t + 4 < 2147483648 := by omega
  have b5 : t + 5 < 2147483648 := by omega
  obtain ⟨v, I1, I2, L1, X, M, r⟩ := same_shownAt (xs := g.map Value.int) (L := L) hR (i := g.getD (t + 1) 0) (m := g.getD (t + 2) 0)
  have X := X 0
  have M := M 0
  simp only [w170_760, w170_761, w170_762, w170_763, w170_764, w170_765, w170_766, w170_767, w170_768, w170_769, w170_770, w170_771, w170_774, w170_775, w170_776, w170_777, w170_778, w170_779, w170_780, w170_781, w170_782, w170_783, w170_784, w170_785, w170_788, w170_791, w170_792, w170_1206, w170_1209, eq_self, n_add, sc_0, sc_i, sc_r, jc_i, jc_r, Option.toList_some, List.cons_append, List.nil_append, Nat.reduceLeDiff, Nat.reduceAdd, Nat.reduceEqDiff, not_false_eq_true, not_true_eq_false, false_imp_iff, true_imp_iff, and_true, true_and, forall_const, false_implies, true_implies, tg_1, tg_346, h1, h2, h3, h4, h5, b1, b2, b3, b4, b5, X, M]
  exact K _ _ r
theorem law_17 {t : Nat} (hR : Rel I) (h31 : t + 6 < 2147483648) (h1 : t + 1 < g.length) (h2 : t + 2 < g.length) (h3 : t + 3 < g.length) (h4 : t + 4 < g.length) (h5 : t + 5 < g.length) (K : ∀ (I : fI) (L : fL), Rel I → Wp 9 170 18 [some (.ref 0), some (.ref 1), some (.ref 346), some (.int (nI (t + 6)))] [] (f_W (g.map Value.int) I L) Q) : Wp 9 170 793 [some (.ref 0), some (.ref 1), some (.ref 346), some (.int (nI t))] [] (f_W (g.map Value.int) I L) Q := by
  have b1 : t + 1 < 2147483648 := by omega
  have b2 : t + 2 < 2147483648 := by omega
  have b3 : t + 3 < 2147483648 := by omega
  have b4 : t + 4 < 2147483648 := by omega
  have b5 : t + 5 < 2147483648 := by omega
  obtain ⟨v, I1, I2, L1, X, M, r⟩ := same_fence (xs := g.map Value.int) (L := L) hR (m := g.getD (t + 1) 0) (x := g.getD (t + 2) 0) (a := g.getD (t + 3) 0) (b := g.getD (t + 4) 0)
  have X := X 0
  have M := M 0
  simp only [w170_793, w170_794, w170_795, w170_796, w170_797, w170_798, w170_799, w170_800, w170_801, w170_802, w170_803, w170_804, w170_805, w170_806, w170_807, w170_808, w170_809, w170_810, w170_811, w170_812, w170_813, w170_814, w170_817, w170_818, w170_819, w170_820, w170_821, w170_822, w170_823, w170_824, w170_825, w170_826, w170_827, w170_828, w170_829, w170_830, w170_831, w170_832, w170_833, w170_834, w170_835, w170_836, w170_837, w170_838, w170_841, w170_844, w170_845, w170_1206, w170_1209, eq_self, n_add, sc_0, sc_i, sc_r, jc_i, jc_r, Option.toList_some, List.cons_append, List.nil_append, Nat.reduceLeDiff, Nat.reduceAdd, Nat.reduceEqDiff, not_false_eq_true, not_true_eq_false, false_imp_iff, true_imp_iff, and_true, true_and, forall_const, false_implies, true_implies, tg_1, tg_346, h1, h2, h3, h4, h5, b1, b2, b3, b4, b5, X, M]
  exact K _ _ r
theorem law_18 {t : Nat} (hR : Rel I) (h31 : t + 6 < 2147483648) (h1 : t + 1 < g.length) (h2 : t + 2 < g.length) (h3 : t + 3 < g.length) (h4 : t + 4 < g.length) (h5 : t + 5 < g.length) (K : ∀ (I : fI) (L : fL), Rel I → Wp 9 170 18 [some (.ref 0), some (.ref 1), some (.ref 346), some (.int (nI (t + 6)))] [] (f_W (g.map Value.int) I L) Q) : Wp 9 170 846 [some (.ref 0), some (.ref 1), some (.ref 346), some (.int (nI t))] [] (f_W (g.map Value.int) I L) Q := by
  have b1 : t + 1 < 2147483648 := by omega
  have b2 : t + 2 < 2147483648 := by omega
  have b3 : t + 3 < 2147483648 := by omega
  have b4 : t + 4 < 2147483648 := by omega
  have b5 : t + 5 < 2147483648 := by omega
  obtain ⟨v, I1, I2, L1, X, M, r⟩ := same_open (xs := g.map Value.int) (L := L) hR
  have X := X 0
  have M := M 0
  simp only [w170_846, w170_847, w170_850, w170_851, w170_854, w170_857, w170_858, w170_1206, w170_1209, eq_self, n_add, sc_0, sc_i, sc_r, jc_i, jc_r, Option.toList_some, List.cons_append, List.nil_append, Nat.reduceLeDiff, Nat.reduceAdd, Nat.reduceEqDiff, not_false_eq_true, not_true_eq_false, false_imp_iff, true_imp_iff, and_true, true_and, forall_const, false_implies, true_implies, tg_1, tg_346, h1, h2, h3, h4, h5, b1, b2, b3, b4, b5, X, M]
  exact K _ _ r
theorem law_19 {t : Nat} (hR : Rel I) (h31 : t + 6 < 2147483648) (h1 : t + 1 < g.length) (h2 : t + 2 < g.length) (h3 : t + 3 < g.length) (h4 : t + 4 < g.length) (h5 : t + 5 < g.length) (K : ∀ (I : fI) (L : fL), Rel I → Wp 9 170 18 [some (.ref 0), some (.ref 1), some (.ref 346), some (.int (nI (t + 6)))] [] (f_W (g.map Value.int) I L) Q) : Wp 9 170 859 [some (.ref 0), some (.ref 1), some (.ref 346), some (.int (nI t))] [] (f_W (g.map Value.int) I L) Q := by
  have b1 : t + 1 < 2147483648 := by omega
  have b2 : t + 2 < 2147483648 := by omega
  have b3 : t + 3 < 2147483648 := by omega
  have b4 : t + 4 < 2147483648 := by omega
  have b5 : t + 5 < 2147483648 := by omega
  obtain ⟨v, I1, I2, L1, X, M, r⟩ := same_holds (xs := g.map Value.int) (L := L) hR
  have X := X 0
  have M := M 0
  simp only [w170_859, w170_860, w170_863, w170_864, w170_867, w170_870, w170_871, w170_1206, w170_1209, eq_self, n_add, sc_0, sc_i, sc_r, jc_i, jc_r, Option.toList_some, List.cons_append, List.nil_append, Nat.reduceLeDiff, Nat.reduceAdd, Nat.reduceEqDiff, not_false_eq_true, not_true_eq_false, false_imp_iff, true_imp_iff, and_true, true_and, forall_const, false_implies, true_implies, tg_1, tg_346, h1, h2, h3, h4, h5, b1, b2, b3, b4, b5, X, M]
  exact K _ _ r
theorem law_20 {t : Nat} (hR : Rel I) (h31 : t + 6 < 2147483648) (h1 : t + 1 < g.length) (h2 : t + 2 < g.length) (h3 : t + 3 < g.length) (h4 : t + 4 < g.length) (h5 : t + 5 < g.length) (K : ∀ (I : fI) (L : fL), Rel I → Wp 9 170 18 [some (.ref 0), some (.ref 1), some (.ref 346), some (.int (nI (t + 6)))] [] (f_W (g.map Value.int) I L) Q) : Wp 9 170 872 [some (.ref 0), some (.ref 1), some (.ref 346), some (.int (nI t))] [] (f_W (g.map Value.int) I L) Q := by
  have b1 : t + 1 < 2147483648 := by omega
  have b2 : t + 2 < 2147483648 := by omega
  have b3 : t + 3 < 2147483648 := by omega
  have b4 : t + 4 < 2147483648 := by omega
  have b5 : t + 5 < 2147483648 := by omega
  obtain ⟨v, I1, I2, L1, X, M, r⟩ := same_run (xs := g.map Value.int) (L := L) hR (x := g.getD (t + 1) 0) (y := g.getD (t + 2) 0) (z := g.getD (t + 3) 0)
  have X := X 0
  have M := M 0
  simp only [w170_872, w170_873, w170_874, w170_875, w170_876, w170_877, w170_878, w170_879, w170_880, w170_881, w170_882, w170_883, w170_884, w170_885, w170_886, w170_887, w170_888, w170_891, w170_892, w170_893, w170_894, w170_895, w170_896, w170_897, w170_898, w170_899, w170_900, w170_901, w170_902, w170_903, w170_904, w170_905, w170_906, w170_907, w170_910, w170_913, w170_914, w170_1206, w170_1209, eq_self, n_add, sc_0, sc_i, sc_r, jc_i, jc_r, Option.toList_some, List.cons_append, List.nil_append, Nat.reduceLeDiff, Nat.reduceAdd, Nat.reduceEqDiff, not_false_eq_true, not_true_eq_false, false_imp_iff, true_imp_iff, and_true, true_and, forall_const, false_implies, true_implies, tg_1, tg_346, h1, h2, h3, h4, h5, b1, b2, b3, b4, b5, X, M]
  exact K _ _ r
theorem law_21 {t : Nat} (hR : Rel I) (h31 : t + 6 < 2147483648) (h1 : t + 1 < g.length) (h2 : t + 2 < g.length) (h3 : t + 3 < g.length) (h4 : t + 4 < g.length) (h5 : t + 5 < g.length) (K : ∀ (I : fI) (L : fL), Rel I → Wp 9 170 18 [some (.ref 0), some (.ref 1), some (.ref 346), some (.int (nI (t + 6)))] [] (f_W (g.map Value.int) I L) Q) : Wp 9 170 915 [some (.ref 0), some (.ref 1), some (.ref 346), some (.int (nI t))] [] (f_W (g.map Value.int) I L) Q := by
  have b1 : t + 1 < 2147483648 := by omega
  have b2 : t + 2 < 2147483648 := by omega
  have b3 : t + 3 < 2147483648 := by omega
  have b4 : t + 4 < 2147483648 := by omega
  have b5 : t + 5 < 2147483648 := by omega
  obtain ⟨v, I1, I2, L1, X, M, r⟩ := same_tick (xs := g.map Value.int) (L := L) hR (a := g.getD (t + 1) 0) (b := g.getD (t + 2) 0) (c := g.getD (t + 3) 0)
  have X := X 0
  have M := M 0
  simp only [w170_915, w170_916, w170_917, w170_918, w170_919, w170_920, w170_921, w170_922, w170_923, w170_924, w170_925, w170_926, w170_927, w170_928, w170_929, w170_930, w170_931, w170_934, w170_935, w170_936, w170_937, w170_938, w170_939, w170_940, w170_941, w170_942, w170_943, w170_944, w170_945, w170_946, w170_947, w170_948, w170_949, w170_950, w170_953, w170_956, w170_957, w170_1206, w170_1209, eq_self, n_add, sc_0, sc_i, sc_r, jc_i, jc_r, Option.toList_some, List.cons_append, List.nil_append, Nat.reduceLeDiff, Nat.reduceAdd, Nat.reduceEqDiff, not_false_eq_true, not_true_eq_false, false_imp_iff, true_imp_iff, and_true, true_and, forall_const, false_implies, true_implies, tg_1, tg_346, h1, h2, h3, h4, h5, b1, b2, b3, b4, b5, X, M]
  exact K _ _ r
theorem law_22 {t : Nat} (hR : Rel I) (h31 : t + 6 < 2147483648) (h1 : t + 1 < g.length) (h2 : t + 2 < g.length) (h3 : t + 3 < g.length) (h4 : t + 4 < g.length) (h5 : t + 5 < g.length) (K : ∀ (I : fI) (L : fL), Rel I → Wp 9 170 18 [some (.ref 0), some (.ref 1), some (.ref 346), some (.int (nI (t + 6)))] [] (f_W (g.map Value.int) I L) Q) : Wp 9 170 958 [some (.ref 0), some (.ref 1), some (.ref 346), some (.int (nI t))] [] (f_W (g.map Value.int) I L) Q := by
  have b1 : t + 1 < 2147483648 := by omega
  have b2 : t + 2 < 2147483648 := by omega
  have b3 : t + 3 < 2147483648 := by omega
  have b4 : t + 4 < 2147483648 := by omega
  have b5 : t + 5 < 2147483648 := by omega
  obtain ⟨v, I1, I2, L1, X, M, r⟩ := same_leap (xs := g.map Value.int) (L := L) hR (j := g.getD (t + 1) 0) (x := g.getD (t + 2) 0) (y := g.getD (t + 3) 0) (z := g.getD (t + 4) 0)
  have X := X 0
  have M := M 0
  simp only [w170_958, w170_959, w170_960, w170_961, w170_962, w170_963, w170_964, w170_965, w170_966, w170_967, w170_968, w170_969, w170_970, w170_971, w170_972, w170_973, w170_974, w170_975, w170_976, w170_977, w170_978, w170_979, w170_982, w170_983, w170_984, w170_985, w170_986, w170_987, w170_988, w170_989, w170_990, w170_991, w170_992, w170_993, w170_994, w170_995, w170_996, w170_997, w170_998, w170_999, w170_1000, w170_1001, w170_1002, w170_1003, w170_1006, w170_1009, w170_1010, w170_1206, w170_1209, eq_self, n_add, sc_0, sc_i, sc_r, jc_i, jc_r, Option.toList_some, List.cons_append, List.nil_append, Nat.reduceLeDiff, Nat.reduceAdd, Nat.reduceEqDiff, not_false_eq_true, not_true_eq_false, false_imp_iff, true_imp_iff, and_true, true_and, forall_const, false_implies, true_implies, tg_1, tg_346, h1, h2, h3, h4, h5, b1, b2, b3, b4, b5, X, M]
  exact K _ _ r
theorem law_23 {t : Nat} (hR : Rel I) (h31 : t + 6 < 2147483648) (h1 : t + 1 < g.length) (h2 : t + 2 < g.length) (h3 : t + 3 < g.length) (h4 : t + 4 < g.length) (h5 : t + 5 < g.length) (K : ∀ (I : fI) (L : fL), Rel I → Wp 9 170 18 [some (.ref 0), some (.ref 1), some (.ref 346), some (.int (nI (t + 6)))] [] (f_W (g.map Value.int) I L) Q) : Wp 9 170 1011 [some (.ref 0), some (.ref 1), some (.ref 346), some (.int (nI t))] [] (f_W (g.map Value.int) I L) Q := by
  have b1 : t + 1 < 2147483648 := by omega
  have b2 : t + 2 < 2147483648 := by omega
  have b3 : t + 3 < 2147483648 := by omega
  have b4 : t + 4 < 2147483648 := by omega
  have b5 : t + 5 < 2147483648 := by omega
  obtain ⟨v, I1, I2, L1, X, M, r⟩ := same_now (xs := g.map Value.int) (L := L) hR (m := g.getD (t + 1) 0)
  have X := X 0
  have M := M 0
  simp only [w170_1011, w170_1012, w170_1013, w170_1014, w170_1015, w170_1016, w170_1017, w170_1020, w170_1021, w170_1022, w170_1023, w170_1024, w170_1025, w170_1026, w170_1029, w170_1032, w170_1033, w170_1206, w170_1209, eq_self, n_add, sc_0, sc_i, sc_r, jc_i, jc_r, Option.toList_some, List.cons_append, List.nil_append, Nat.reduceLeDiff, Nat.reduceAdd, Nat.reduceEqDiff, not_false_eq_true, not_true_eq_false, false_imp_iff, true_imp_iff, and_true, true_and, forall_const, false_implies, true_implies, tg_1, tg_346, h1, h2, h3, h4, h5, b1, b2, b3, b4, b5, X, M]
  exact K _ _ r
theorem law_24 {t : Nat} (hR : Rel I) (h31 : t + 6 < 2147483648) (h1 : t + 1 < g.length) (h2 : t + 2 < g.length) (h3 : t + 3 < g.length) (h4 : t + 4 < g.length) (h5 : t + 5 < g.length) (K : ∀ (I : fI) (L : fL), Rel I → Wp 9 170 18 [some (.ref 0), some (.ref 1), some (.ref 346), some (.int (nI (t + 6)))] [] (f_W (g.map Value.int) I L) Q) : Wp 9 170 1034 [some (.ref 0), some (.ref 1), some (.ref 346), some (.int (nI t))] [] (f_W (g.map Value.int) I L) Q := by
  have b1 : t + 1 < 2147483648 := by omega
  have b2 : t + 2 < 2147483648 := by omega
  have b3 : t + 3 < 2147483648 := by omega
  have b4 : t + 4 < 2147483648 := by omega
  have b5 : t + 5 < 2147483648 := by omega
  obtain ⟨v, I1, I2, L1, X, M, r⟩ := same_sheet (xs := g.map Value.int) (L := L) hR (k := g.getD (t + 1) 0) (l := g.getD (t + 2) 0) (n := g.getD (t + 3) 0)
  have X := X 0
  have M := M 0
  simp only [w170_1034, w170_1035, w170_1036, w170_1037, w170_1038, w170_1039, w170_1040, w170_1041, w170_1042, w170_1043, w170_1044, w170_1045, w170_1046, w170_1047, w170_1048, w170_1049, w170_1050, w170_1053, w170_1054, w170_1055, w170_1056, w170_1057, w170_1058, w170_1059, w170_1060, w170_1061, w170_1062, w170_1063, w170_1064, w170_1065, w170_1066, w170_1067, w170_1068, w170_1069, w170_1072, w170_1075, w170_1076, w170_1206, w170_1209, eq_self, n_add, sc_0, sc_i, sc_r, jc_i, jc_r, Option.toList_some, List.cons_append, List.nil_append, Nat.reduceLeDiff, Nat.reduceAdd, Nat.reduceEqDiff, not_false_eq_true, not_true_eq_false, false_imp_iff, true_imp_iff, and_true, true_and, forall_const, false_implies, true_implies, tg_1, tg_346, h1, h2, h3, h4, h5, b1, b2, b3, b4, b5, X, M]
  exact K _ _ r
theorem law_25 {t : Nat} (hR : Rel I) (h31 : t + 6 < 2147483648) (h1 : t + 1 < g.length) (h2 : t + 2 < g.length) (h3 : t + 3 < g.length) (h4 : t + 4 < g.length) (h5 : t + 5 < g.length) (K : ∀ (I : fI) (L : fL), Rel I → Wp 9 170 18 [some (.ref 0), some (.ref 1), some (.ref 346), some (.int (nI (t + 6)))] [] (f_W (g.map Value.int) I L) Q) : Wp 9 170 1077 [some (.ref 0), some (.ref 1), some (.ref 346), some (.int (nI t))] [] (f_W (g.map Value.int) I L) Q := by
  have b1 : t + 1 < 2147483648 := by omega
  have b2 : t + 2 < 2147483648 := by omega
  have b3 : t + 3 < 2147483648 := by omega
  have b4 : t + 4 < 2147483648 := by omega
  have b5 : t + 5 < 2147483648 := by omega
  obtain ⟨v, I1, I2, L1, X, M, r⟩ := same_lay (xs := g.map Value.int) (L := L) hR (k := g.getD (t + 1) 0) (i := g.getD (t + 2) 0) (v := g.getD (t + 3) 0)
  have X := X 0
  have M := M 0
  simp only [w170_1077, w170_1078, w170_1079, w170_1080, w170_1081, w170_1082, w170_1083, w170_1084, w170_1085, w170_1086, w170_1087, w170_1088, w170_1089, w170_1090, w170_1091, w170_1092, w170_1093, w170_1096, w170_1097, w170_1098, w170_1099, w170_1100, w170_1101, w170_1102, w170_1103, w170_1104, w170_1105, w170_1106, w170_1107, w170_1108, w170_1109, w170_1110, w170_1111, w170_1112, w170_1115, w170_1118, w170_1119, w170_1206, w170_1209, eq_self, n_add, sc_0, sc_i, sc_r, jc_i, jc_r, Option.toList_some, List.cons_append, List.nil_append, Nat.reduceLeDiff, Nat.reduceAdd, Nat.reduceEqDiff, not_false_eq_true, not_true_eq_false, false_imp_iff, true_imp_iff, and_true, true_and, forall_const, false_implies, true_implies, tg_1, tg_346, h1, h2, h3, h4, h5, b1, b2, b3, b4, b5, X, M]
  exact K _ _ r
theorem law_26 {t : Nat} (hR : Rel I) (h31 : t + 6 < 2147483648) (h1 : t + 1 < g.length) (h2 : t + 2 < g.length) (h3 : t + 3 < g.length) (h4 : t + 4 < g.length) (h5 : t + 5 < g.length) (K : ∀ (I : fI) (L : fL), Rel I → Wp 9 170 18 [some (.ref 0), some (.ref 1), some (.ref 346), some (.int (nI (t + 6)))] [] (f_W (g.map Value.int) I L) Q) : Wp 9 170 1120 [some (.ref 0), some (.ref 1), some (.ref 346), some (.int (nI t))] [] (f_W (g.map Value.int) I L) Q := by
  have b1 : t + 1 < 2147483648 := by omega
  have b2 : t + 2 < 2147483648 := by omega
  have b3 : t + 3 < 2147483648 := by omega
  have b4 : t + 4 < 2147483648 := by omega
  have b5 : t + 5 < 2147483648 := by omega
  obtain ⟨v, I1, I2, L1, X, M, r⟩ := same_draw (xs := g.map Value.int) (L := L) hR (s := g.getD (t + 1) 0) (n := g.getD (t + 2) 0) (kk := g.getD (t + 3) 0) (l := g.getD (t + 4) 0) (f := g.getD (t + 5) 0)
  have X := X 0
  have M := M 0
  simp only [w170_1120, w170_1121, w170_1122, w170_1123, w170_1124, w170_1125, w170_1126, w170_1127, w170_1128, w170_1129, w170_1130, w170_1131, w170_1132, w170_1133, w170_1134, w170_1135, w170_1136, w170_1137, w170_1138, w170_1139, w170_1140, w170_1141, w170_1142, w170_1143, w170_1144, w170_1145, w170_1146, w170_1149, w170_1150, w170_1151, w170_1152, w170_1153, w170_1154, w170_1155, w170_1156, w170_1157, w170_1158, w170_1159, w170_1160, w170_1161, w170_1162, w170_1163, w170_1164, w170_1165, w170_1166, w170_1167, w170_1168, w170_1169, w170_1170, w170_1171, w170_1172, w170_1173, w170_1174, w170_1175, w170_1178, w170_1181, w170_1182, w170_1206, w170_1209, eq_self, n_add, sc_0, sc_i, sc_r, jc_i, jc_r, Option.toList_some, List.cons_append, List.nil_append, Nat.reduceLeDiff, Nat.reduceAdd, Nat.reduceEqDiff, not_false_eq_true, not_true_eq_false, false_imp_iff, true_imp_iff, and_true, true_and, forall_const, false_implies, true_implies, tg_1, tg_346, h1, h2, h3, h4, h5, b1, b2, b3, b4, b5, X, M]
  exact K _ _ r
theorem law_27 {t : Nat} (hR : Rel I) (h31 : t + 6 < 2147483648) (h1 : t + 1 < g.length) (h2 : t + 2 < g.length) (h3 : t + 3 < g.length) (h4 : t + 4 < g.length) (h5 : t + 5 < g.length) (K : ∀ (I : fI) (L : fL), Rel I → Wp 9 170 18 [some (.ref 0), some (.ref 1), some (.ref 346), some (.int (nI (t + 6)))] [] (f_W (g.map Value.int) I L) Q) : Wp 9 170 1183 [some (.ref 0), some (.ref 1), some (.ref 346), some (.int (nI t))] [] (f_W (g.map Value.int) I L) Q := by
  have b1 : t + 1 < 2147483648 := by omega
  have b2 : t + 2 < 2147483648 := by omega
  have b3 : t + 3 < 2147483648 := by omega
  have b4 : t + 4 < 2147483648 := by omega
  have b5 : t + 5 < 2147483648 := by omega
  obtain ⟨v, I1, I2, L1, X, M, r⟩ := same_count (xs := g.map Value.int) (L := L) hR (m := g.getD (t + 1) 0)
  have X := X 0
  have M := M 0
  simp only [w170_1183, w170_1184, w170_1185, w170_1186, w170_1187, w170_1188, w170_1189, w170_1192, w170_1193, w170_1194, w170_1195, w170_1196, w170_1197, w170_1198, w170_1201, w170_1204, w170_1205, w170_1206, w170_1209, eq_self, n_add, sc_0, sc_i, sc_r, jc_i, jc_r, Option.toList_some, List.cons_append, List.nil_append, Nat.reduceLeDiff, Nat.reduceAdd, Nat.reduceEqDiff, not_false_eq_true, not_true_eq_false, false_imp_iff, true_imp_iff, and_true, true_and, forall_const, false_implies, true_implies, tg_1, tg_346, h1, h2, h3, h4, h5, b1, b2, b3, b4, b5, X, M]
  exact K _ _ r
end LAWC
