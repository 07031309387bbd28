/-! THE LAW, case by case (wip/whole/gen/law.py) -/
section LAWC
variable {g : List Int32} {I : fI} {L : fL} {Q : Option Value × jW → Prop}
theorem law_0 {t : Nat} (hR : Rel I) (h31 : t + 6 < 2147483648) (h1 : t + 1 < g.length) (h2 : t + 2 < g.length) (h3 : t + 3 < g.length) (h4 : t + 4 < g.length) (h5 : t + 5 < g.length) (K : ∀ (I : fI) (L : fL), Rel I → Wp 9 173 18 [some (.ref 0), some (.ref 1), some (.ref 346), some (.int (nI (t + 6)))] [] (f_W (g.map Value.int) I L) Q) : Wp 9 173 160 [some (.ref 0), some (.ref 1), some (.ref 346), some (.int (nI t))] [] (f_W (g.map Value.int) I L) Q := by
  have b1 : t + 1 < 2147483648 := by omega
  have b2 : t + 2 < 2147483648 := by omega
  have b3 : t + 3 < 2147483648 := by omega
  have b4 : t + 4 < 2147483648 := by omega
  have b5 : t + 5 < 2147483648 := by omega
  obtain ⟨v, I1, I2, L1, X, M, r⟩ := same_mode (xs := g.map Value.int) (L := L) hR
  have X := X 0
  have M := M 0
  simp only [w173_160, w173_161, w173_164, w173_165, w173_168, w173_171, w173_172, w173_1206, w173_1209, eq_self, n_add, sc_0, sc_i, sc_r, jc_i, jc_r, Option.toList_some, List.cons_append, List.nil_append, Nat.reduceLeDiff, Nat.reduceAdd, Nat.reduceEqDiff, not_false_eq_true, not_true_eq_false, false_imp_iff, true_imp_iff, and_true, true_and, forall_const, false_implies, true_implies, tg_1, tg_346, h1, h2, h3, h4, h5, b1, b2, b3, b4, b5, X, M]
  exact K _ _ r
theorem law_1 {t : Nat} (hR : Rel I) (h31 : t + 6 < 2147483648) (h1 : t + 1 < g.length) (h2 : t + 2 < g.length) (h3 : t + 3 < g.length) (h4 : t + 4 < g.length) (h5 : t + 5 < g.length) (K : ∀ (I : fI) (L : fL), Rel I → Wp 9 173 18 [some (.ref 0), some (.ref 1), some (.ref 346), some (.int (nI (t + 6)))] [] (f_W (g.map Value.int) I L) Q) : Wp 9 173 173 [some (.ref 0), some (.ref 1), some (.ref 346), some (.int (nI t))] [] (f_W (g.map Value.int) I L) Q := by
  have b1 : t + 1 < 2147483648 := by omega
  have b2 : t + 2 < 2147483648 := by omega
  have b3 : t + 3 < 2147483648 := by omega
  have b4 : t + 4 < 2147483648 := by omega
  have b5 : t + 5 < 2147483648 := by omega
  obtain ⟨v, I1, I2, L1, X, M, r⟩ := same_room (xs := g.map Value.int) (L := L) hR (m := g.getD (t + 1) 0) (x := g.getD (t + 2) 0) (a := g.getD (t + 3) 0) (b := g.getD (t + 4) 0)
  have X := X 0
  have M := M 0
  simp only [w173_173, w173_174, w173_175, w173_176, w173_177, w173_178, w173_179, w173_180, w173_181, w173_182, w173_183, w173_184, w173_185, w173_186, w173_187, w173_188, w173_189, w173_190, w173_191, w173_192, w173_193, w173_194, w173_197, w173_198, w173_199, w173_200, w173_201, w173_202, w173_203, w173_204, w173_205, w173_206, w173_207, w173_208, w173_209, w173_210, w173_211, w173_212, w173_213, w173_214, w173_215, w173_216, w173_217, w173_218, w173_221, w173_224, w173_225, w173_1206, w173_1209, eq_self, n_add, sc_0, sc_i, sc_r, jc_i, jc_r, Option.toList_some, List.cons_append, List.nil_append, Nat.reduceLeDiff, Nat.reduceAdd, Nat.reduceEqDiff, not_false_eq_true, not_true_eq_false, false_imp_iff, true_imp_iff, and_true, true_and, forall_const, false_implies, true_implies, tg_1, tg_346, h1, h2, h3, h4, h5, b1, b2, b3, b4, b5, X, M]
  exact K _ _ r
theorem law_2 {t : Nat} (hR : Rel I) (h31 : t + 6 < 2147483648) (h1 : t + 1 < g.length) (h2 : t + 2 < g.length) (h3 : t + 3 < g.length) (h4 : t + 4 < g.length) (h5 : t + 5 < g.length) (K : ∀ (I : fI) (L : fL), Rel I → Wp 9 173 18 [some (.ref 0), some (.ref 1), some (.ref 346), some (.int (nI (t + 6)))] [] (f_W (g.map Value.int) I L) Q) : Wp 9 173 226 [some (.ref 0), some (.ref 1), some (.ref 346), some (.int (nI t))] [] (f_W (g.map Value.int) I L) Q := by
  have b1 : t + 1 < 2147483648 := by omega
  have b2 : t + 2 < 2147483648 := by omega
  have b3 : t + 3 < 2147483648 := by omega
  have b4 : t + 4 < 2147483648 := by omega
  have b5 : t + 5 < 2147483648 := by omega
  obtain ⟨v, I1, I2, L1, X, M, r⟩ := same_slope (xs := g.map Value.int) (L := L) hR (m := g.getD (t + 1) 0) (x := g.getD (t + 2) 0) (a := g.getD (t + 3) 0) (b := g.getD (t + 4) 0)
  have X := X 0
  have M := M 0
  simp only [w173_226, w173_227, w173_228, w173_229, w173_230, w173_231, w173_232, w173_233, w173_234, w173_235, w173_236, w173_237, w173_238, w173_239, w173_240, w173_241, w173_242, w173_243, w173_244, w173_245, w173_246, w173_247, w173_250, w173_251, w173_252, w173_253, w173_254, w173_255, w173_256, w173_257, w173_258, w173_259, w173_260, w173_261, w173_262, w173_263, w173_264, w173_265, w173_266, w173_267, w173_268, w173_269, w173_270, w173_271, w173_274, w173_277, w173_278, w173_1206, w173_1209, eq_self, n_add, sc_0, sc_i, sc_r, jc_i, jc_r, Option.toList_some, List.cons_append, List.nil_append, Nat.reduceLeDiff, Nat.reduceAdd, Nat.reduceEqDiff, not_false_eq_true, not_true_eq_false, false_imp_iff, true_imp_iff, and_true, true_and, forall_const, false_implies, true_implies, tg_1, tg_346, h1, h2, h3, h4, h5, b1, b2, b3, b4, b5, X, M]
  exact K _ _ r
theorem law_3 {t : Nat} (hR : Rel I) (h31 : t + 6 < 2147483648) (h1 : t + 1 < g.length) (h2 : t + 2 < g.length) (h3 : t + 3 < g.length) (h4 : t + 4 < g.length) (h5 : t + 5 < g.length) (K : ∀ (I : fI) (L : fL), Rel I → Wp 9 173 18 [some (.ref 0), some (.ref 1), some (.ref 346), some (.int (nI (t + 6)))] [] (f_W (g.map Value.int) I L) Q) : Wp 9 173 279 [some (.ref 0), some (.ref 1), some (.ref 346), some (.int (nI t))] [] (f_W (g.map Value.int) I L) Q := by
  have b1 : t + 1 < 2147483648 := by omega
  have b2 : t + 2 < 2147483648 := by omega
  have b3 : t + 3 < 2147483648 := by omega
  have b4 : t + 4 < 2147483648 := by omega
  have b5 : t + 5 < 2147483648 := by omega
  obtain ⟨v, I1, I2, L1, X, M, r⟩ := same_jump (xs := g.map Value.int) (L := L) hR (a := g.getD (t + 1) 0) (b := g.getD (t + 2) 0)
  have X := X 0
  have M := M 0
  simp only [w173_279, w173_280, w173_281, w173_282, w173_283, w173_284, w173_285, w173_286, w173_287, w173_288, w173_289, w173_290, w173_293, w173_294, w173_295, w173_296, w173_297, w173_298, w173_299, w173_300, w173_301, w173_302, w173_303, w173_304, w173_307, w173_310, w173_311, w173_1206, w173_1209, eq_self, n_add, sc_0, sc_i, sc_r, jc_i, jc_r, Option.toList_some, List.cons_append, List.nil_append, Nat.reduceLeDiff, Nat.reduceAdd, Nat.reduceEqDiff, not_false_eq_true, not_true_eq_false, false_imp_iff, true_imp_iff, and_true, true_and, forall_const, false_implies, true_implies, tg_1, tg_346, h1, h2, h3, h4, h5, b1, b2, b3, b4, b5, X, M]
  exact K _ _ r
theorem law_4 {t : Nat} (hR : Rel I) (h31 : t + 6 < 2147483648) (h1 : t + 1 < g.length) (h2 : t + 2 < g.length) (h3 : t + 3 < g.length) (h4 : t + 4 < g.length) (h5 : t + 5 < g.length) (K : ∀ (I : fI) (L : fL), Rel I → Wp 9 173 18 [some (.ref 0), some (.ref 1), some (.ref 346), some (.int (nI (t + 6)))] [] (f_W (g.map Value.int) I L) Q) : Wp 9 173 312 [some (.ref 0), some (.ref 1), some (.ref 346), some (.int (nI t))] [] (f_W (g.map Value.int) I L) Q := by
  have b1 : t + 1 < 2147483648 := by omega
  have b2 : t + 2 < 2147483648 := by omega
  have b3 : t + 3 < 2147483648 := by omega
  have b4 : t + 4 < 2147483648 := by omega
  have b5 : t + 5 < 2147483648 := by omega
  obtain ⟨v, I1, I2, L1, X, M, r⟩ := same_guard (xs := g.map Value.int) (L := L) hR (m := g.getD (t + 1) 0) (x := g.getD (t + 2) 0) (a := g.getD (t + 3) 0) (b := g.getD (t + 4) 0)
  have X := X 0
  have M := M 0
  simp only [w173_312, w173_313, w173_314, w173_315, w173_316, w173_317, w173_318, w173_319, w173_320, w173_321, w173_322, w173_323, w173_324, w173_325, w173_326, w173_327, w173_328, w173_329, w173_330, w173_331, w173_332, w173_333, w173_336, w173_337, w173_338, w173_339, w173_340, w173_341, w173_342, w173_343, w173_344, w173_345, w173_346, w173_347, w173_348, w173_349, w173_350, w173_351, w173_352, w173_353, w173_354, w173_355, w173_356, w173_357, w173_360, w173_363, w173_364, w173_1206, w173_1209, eq_self, n_add, sc_0, sc_i, sc_r, jc_i, jc_r, Option.toList_some, List.cons_append, List.nil_append, Nat.reduceLeDiff, Nat.reduceAdd, Nat.reduceEqDiff, not_false_eq_true, not_true_eq_false, false_imp_iff, true_imp_iff, and_true, true_and, forall_const, false_implies, true_implies, tg_1, tg_346, h1, h2, h3, h4, h5, b1, b2, b3, b4, b5, X, M]
  exact K _ _ r
theorem law_5 {t : Nat} (hR : Rel I) (h31 : t + 6 < 2147483648) (h1 : t + 1 < g.length) (h2 : t + 2 < g.length) (h3 : t + 3 < g.length) (h4 : t + 4 < g.length) (h5 : t + 5 < g.length) (K : ∀ (I : fI) (L : fL), Rel I → Wp 9 173 18 [some (.ref 0), some (.ref 1), some (.ref 346), some (.int (nI (t + 6)))] [] (f_W (g.map Value.int) I L) Q) : Wp 9 173 365 [some (.ref 0), some (.ref 1), some (.ref 346), some (.int (nI t))] [] (f_W (g.map Value.int) I L) Q := by
  have b1 : t + 1 < 2147483648 := by omega
  have b2 : t + 2 < 2147483648 := by omega
  have b3 : t + 3 < 2147483648 := by omega
  have b4 : t + 4 < 2147483648 := by omega
  have b5 : t + 5 < 2147483648 := by omega
  by_cases q : g.getD (t + 3) 0 = nI 0
  · obtain ⟨v, I1, I2, L1, X, M, r⟩ := same_set (xs := g.map Value.int) (L := L) hR (m := g.getD (t + 1) 0) (x := g.getD (t + 2) 0) (kp := false) (a := g.getD (t + 4) 0) (b := g.getD (t + 5) 0)
    have X := X 0
    have M := M 0
    simp only [b2_t, b2_f] at X M
    simp only [w173_365, w173_366, w173_367, w173_368, w173_369, w173_370, w173_371, w173_372, w173_373, w173_374, w173_375, w173_376, w173_377, w173_378, w173_379, w173_380, w173_381, w173_384, w173_385, w173_388, w173_389, w173_390, w173_391, w173_392, w173_393, w173_394, w173_395, w173_396, w173_397, w173_398, w173_399, w173_402, w173_403, w173_404, w173_405, w173_406, w173_407, w173_408, w173_409, w173_410, w173_411, w173_412, w173_413, w173_414, w173_415, w173_416, w173_417, w173_418, w173_421, w173_422, w173_425, w173_426, w173_427, w173_428, w173_429, w173_430, w173_431, w173_432, w173_433, w173_434, w173_435, w173_436, w173_439, w173_442, w173_443, w173_1206, w173_1209, eq_self, n_add, sc_0, sc_i, sc_r, jc_i, jc_r, Option.toList_some, List.cons_append, List.nil_append, Nat.reduceLeDiff, Nat.reduceAdd, Nat.reduceEqDiff, not_false_eq_true, not_true_eq_false, false_imp_iff, true_imp_iff, and_true, true_and, forall_const, false_implies, true_implies, tg_1, tg_346, h1, h2, h3, h4, h5, b1, b2, b3, b4, b5, X, M, q]
    exact K _ _ r
  · obtain ⟨v, I1, I2, L1, X, M, r⟩ := same_set (xs := g.map Value.int) (L := L) hR (m := g.getD (t + 1) 0) (x := g.getD (t + 2) 0) (kp := true) (a := g.getD (t + 4) 0) (b := g.getD (t + 5) 0)
    have X := X 0
    have M := M 0
    simp only [b2_t, b2_f] at X M
    simp only [w173_365, w173_366, w173_367, w173_368, w173_369, w173_370, w173_371, w173_372, w173_373, w173_374, w173_375, w173_376, w173_377, w173_378, w173_379, w173_380, w173_381, w173_384, w173_385, w173_388, w173_389, w173_390, w173_391, w173_392, w173_393, w173_394, w173_395, w173_396, w173_397, w173_398, w173_399, w173_402, w173_403, w173_404, w173_405, w173_406, w173_407, w173_408, w173_409, w173_410, w173_411, w173_412, w173_413, w173_414, w173_415, w173_416, w173_417, w173_418, w173_421, w173_422, w173_425, w173_426, w173_427, w173_428, w173_429, w173_430, w173_431, w173_432, w173_433, w173_434, w173_435, w173_436, w173_439, w173_442, w173_443, w173_1206, w173_1209, eq_self, n_add, sc_0, sc_i, sc_r, jc_i, jc_r, Option.toList_some, List.cons_append, List.nil_append, Nat.reduceLeDiff, Nat.reduceAdd, Nat.reduceEqDiff, not_false_eq_true, not_true_eq_false, false_imp_iff, true_imp_iff, and_true, true_and, forall_const, false_implies, true_implies, tg_1, tg_346, h1, h2, h3, h4, h5, b1, b2, b3, b4, b5, X, M, q]
    exact K _ _ r
theorem law_6 {t : Nat} (hR : Rel I) (h31 : t + 6 < 2147483648) (h1 : t + 1 < g.length) (h2 : t + 2 < g.length) (h3 : t + 3 < g.length) (h4 : t + 4 < g.length) (h5 : t + 5 < g.length) (K : ∀ (I : fI) (L : fL), Rel I → Wp 9 173 18 [some (.ref 0), some (.ref 1), some (.ref 346), some (.int (nI (t + 6)))] [] (f_W (g.map Value.int) I L) Q) : Wp 9 173 444 [some (.ref 0), some (.ref 1), some (.ref 346), some (.int (nI t))] [] (f_W (g.map Value.int) I L) Q := by
  have b1 : t + 1 < 2147483648 := by omega
  have b2 : t + 2 < 2147483648 := by omega
  have b3 : t + 3 < 2147483648 := by omega
  have b4 : t + 4 < 2147483648 := by omega
  have b5 : t + 5 < 2147483648 := by omega
  obtain ⟨v, I1, I2, L1, X, M, r⟩ := same_start (xs := g.map Value.int) (L := L) hR (m := g.getD (t + 1) 0)
  have X := X 0
  have M := M 0
  simp only [w173_444, w173_445, w173_446, w173_447, w173_448, w173_449, w173_450, w173_453, w173_454, w173_455, w173_456, w173_457, w173_458, w173_459, w173_462, w173_465, w173_466, w173_1206, w173_1209, eq_self, n_add, sc_0, sc_i, sc_r, jc_i, jc_r, Option.toList_some, List.cons_append, List.nil_append, Nat.reduceLeDiff, Nat.reduceAdd, Nat.reduceEqDiff, not_false_eq_true, not_true_eq_false, false_imp_iff, true_imp_iff, and_true, true_and, forall_const, false_implies, true_implies, tg_1, tg_346, h1, h2, h3, h4, h5, b1, b2, b3, b4, b5, X, M]
  exact K _ _ r
theorem law_7 {t : Nat} (hR : Rel I) (h31 : t + 6 < 2147483648) (h1 : t + 1 < g.length) (h2 : t + 2 < g.length) (h3 : t + 3 < g.length) (h4 : t + 4 < g.length) (h5 : t + 5 < g.length) (K : ∀ (I : fI) (L : fL), Rel I → Wp 9 173 18 [some (.ref 0), some (.ref 1), some (.ref 346), some (.int (nI (t + 6)))] [] (f_W (g.map Value.int) I L) Q) : Wp 9 173 467 [some (.ref 0), some (.ref 1), some (.ref 346), some (.int (nI t))] [] (f_W (g.map Value.int) I L) Q := by
  have b1 : t + 1 < 2147483648 := by omega
  have b2 : t + 2 < 2147483648 := by omega
  have b3 : t + 3 < 2147483648 := by omega
  have b4 : t + 4 < 2147483648 := by omega
  have b5 : t + 5 < 2147483648 := by omega
  obtain ⟨v, I1, I2, L1, X, M, r⟩ := same_box (xs := g.map Value.int) (L := L) hR (m := g.getD (t + 1) 0) (x := g.getD (t + 2) 0) (a := g.getD (t + 3) 0) (b := g.getD (t + 4) 0)
  have X := X 0
  have M := M 0
  simp only [w173_467, w173_468, w173_469, w173_470, w173_471, w173_472, w173_473, w173_474, w173_475, w173_476, w173_477, w173_478, w173_479, w173_480, w173_481, w173_482, w173_483, w173_484, w173_485, w173_486, w173_487, w173_488, w173_491, w173_492, w173_493, w173_494, w173_495, w173_496, w173_497, w173_498, w173_499, w173_500, w173_501, w173_502, w173_503, w173_504, w173_505, w173_506, w173_507, w173_508, w173_509, w173_510, w173_511, w173_512, w173_515, w173_518, w173_519, w173_1206, w173_1209, eq_self, n_add, sc_0, sc_i, sc_r, jc_i, jc_r, Option.toList_some, List.cons_append, List.nil_append, Nat.reduceLeDiff, Nat.reduceAdd, Nat.reduceEqDiff, not_false_eq_true, not_true_eq_false, false_imp_iff, true_imp_iff, and_true, true_and, forall_const, false_implies, true_implies, tg_1, tg_346, h1, h2, h3, h4, h5, b1, b2, b3, b4, b5, X, M]
  exact K _ _ r
theorem law_8 {t : Nat} (hR : Rel I) (h31 : t + 6 < 2147483648) (h1 : t + 1 < g.length) (h2 : t + 2 < g.length) (h3 : t + 3 < g.length) (h4 : t + 4 < g.length) (h5 : t + 5 < g.length) (K : ∀ (I : fI) (L : fL), Rel I → Wp 9 173 18 [some (.ref 0), some (.ref 1), some (.ref 346), some (.int (nI (t + 6)))] [] (f_W (g.map Value.int) I L) Q) : Wp 9 173 520 [some (.ref 0), some (.ref 1), some (.ref 346), some (.int (nI t))] [] (f_W (g.map Value.int) I L) Q := by
  have b1 : t + 1 < 2147483648 := by omega
  have b2 : t + 2 < 2147483648 := by omega
  have b3 : t + 3 < 2147483648 := by omega
  have b4 : t + 4 < 2147483648 := by omega
  have b5 : t + 5 < 2147483648 := by omega
  obtain ⟨v, I1, I2, L1, X, M, r⟩ := same_wrong (xs := g.map Value.int) (L := L) hR (m := g.getD (t + 1) 0)
  have X := X 0
  have M := M 0
  simp only [w173_520, w173_521, w173_522, w173_523, w173_524, w173_525, w173_526, w173_529, w173_530, w173_531, w173_532, w173_533, w173_534, w173_535, w173_538, w173_541, w173_542, w173_1206, w173_1209, eq_self, n_add, sc_0, sc_i, sc_r, jc_i, jc_r, Option.toList_some, List.cons_append, List.nil_append, Nat.reduceLeDiff, Nat.reduceAdd, Nat.reduceEqDiff, not_false_eq_true, not_true_eq_false, false_imp_iff, true_imp_iff, and_true, true_and, forall_const, false_implies, true_implies, tg_1, tg_346, h1, h2, h3, h4, h5, b1, b2, b3, b4, b5, X, M]
  exact K _ _ r
theorem law_9 {t : Nat} (hR : Rel I) (h31 : t + 6 < 2147483648) (h1 : t + 1 < g.length) (h2 : t + 2 < g.length) (h3 : t + 3 < g.length) (h4 : t + 4 < g.length) (h5 : t + 5 < g.length) (K : ∀ (I : fI) (L : fL), Rel I → Wp 9 173 18 [some (.ref 0), some (.ref 1), some (.ref 346), some (.int (nI (t + 6)))] [] (f_W (g.map Value.int) I L) Q) : Wp 9 173 543 [some (.ref 0), some (.ref 1), some (.ref 346), some (.int (nI t))] [] (f_W (g.map Value.int) I L) Q := by
  have b1 : t + 1 < 2147483648 := by omega
  have b2 : t + 2 < 2147483648 := by omega
  have b3 : t + 3 < 2147483648 := by omega
  have b4 : t + 4 < 2147483648 := by omega
  have b5 : t + 5 < 2147483648 := by omega
  obtain ⟨v, I1, I2, L1, X, M, r⟩ := same_most (xs := g.map Value.int) (L := L) hR (m := g.getD (t + 1) 0)
  have X := X 0
  have M := M 0
  simp only [w173_543, w173_544, w173_545, w173_546, w173_547, w173_548, w173_549, w173_552, w173_553, w173_554, w173_555, w173_556, w173_557, w173_558, w173_561, w173_564, w173_565, w173_1206, w173_1209, eq_self, n_add, sc_0, sc_i, sc_r, jc_i, jc_r, Option.toList_some, List.cons_append, List.nil_append, Nat.reduceLeDiff, Nat.reduceAdd, Nat.reduceEqDiff, not_false_eq_true, not_true_eq_false, false_imp_iff, true_imp_iff, and_true, true_and, forall_const, false_implies, true_implies, tg_1, tg_346, h1, h2, h3, h4, h5, b1, b2, b3, b4, b5, X, M]
  exact K _ _ r
theorem law_10 {t : Nat} (hR : Rel I) (h31 : t + 6 < 2147483648) (h1 : t + 1 < g.length) (h2 : t + 2 < g.length) (h3 : t + 3 < g.length) (h4 : t + 4 < g.length) (h5 : t + 5 < g.length) (K : ∀ (I : fI) (L : fL), Rel I → Wp 9 173 18 [some (.ref 0), some (.ref 1), some (.ref 346), some (.int (nI (t + 6)))] [] (f_W (g.map Value.int) I L) Q) : Wp 9 173 566 [some (.ref 0), some (.ref 1), some (.ref 346), some (.int (nI t))] [] (f_W (g.map Value.int) I L) Q := by
  have b1 : t + 1 < 2147483648 := by omega
  have b2 : t + 2 < 2147483648 := by omega
  have b3 : t + 3 < 2147483648 := by omega
  have b4 : t + 4 < 2147483648 := by omega
  have b5 : t + 5 < 2147483648 := by omega
  obtain ⟨v, I1, I2, L1, X, M, r⟩ := same_safe (xs := g.map Value.int) (L := L) hR
  have X := X 0
  have M := M 0
  simp only [w173_566, w173_567, w173_570, w173_571, w173_574, w173_577, w173_578, w173_1206, w173_1209, eq_self, n_add, sc_0, sc_i, sc_r, jc_i, jc_r, Option.toList_some, List.cons_append, List.nil_append, Nat.reduceLeDiff, Nat.reduceAdd, Nat.reduceEqDiff, not_false_eq_true, not_true_eq_false, false_imp_iff, true_imp_iff, and_true, true_and, forall_const, false_implies, true_implies, tg_1, tg_346, h1, h2, h3, h4, h5, b1, b2, b3, b4, b5, X, M]
  exact K _ _ r
theorem law_11 {t : Nat} (hR : Rel I) (h31 : t + 6 < 2147483648) (h1 : t + 1 < g.length) (h2 : t + 2 < g.length) (h3 : t + 3 < g.length) (h4 : t + 4 < g.length) (h5 : t + 5 < g.length) (K : ∀ (I : fI) (L : fL), Rel I → Wp 9 173 18 [some (.ref 0), some (.ref 1), some (.ref 346), some (.int (nI (t + 6)))] [] (f_W (g.map Value.int) I L) Q) : Wp 9 173 579 [some (.ref 0), some (.ref 1), some (.ref 346), some (.int (nI t))] [] (f_W (g.map Value.int) I L) Q := by
  have b1 : t + 1 < 2147483648 := by omega
  have b2 : t + 2 < 2147483648 := by omega
  have b3 : t + 3 < 2147483648 := by omega
  have b4 : t + 4 < 2147483648 := by omega
  have b5 : t + 5 < 2147483648 := by omega
  obtain ⟨v, I1, I2, L1, X, M, r⟩ := same_heap (xs := g.map Value.int) (L := L) hR (h := g.getD (t + 1) 0) (m := g.getD (t + 2) 0)
  have X := X 0
  have M := M 0
  simp only [w173_579, w173_580, w173_581, w173_582, w173_583, w173_584, w173_585, w173_586, w173_587, w173_588, w173_589, w173_590, w173_593, w173_594, w173_595, w173_596, w173_597, w173_598, w173_599, w173_600, w173_601, w173_602, w173_603, w173_604, w173_607, w173_610, w173_611, w173_1206, w173_1209, eq_self, n_add, sc_0, sc_i, sc_r, jc_i, jc_r, Option.toList_some, List.cons_append, List.nil_append, Nat.reduceLeDiff, Nat.reduceAdd, Nat.reduceEqDiff, not_false_eq_true, not_true_eq_false, false_imp_iff, true_imp_iff, and_true, true_and, forall_const, false_implies, true_implies, tg_1, tg_346, h1, h2, h3, h4, h5, b1, b2, b3, b4, b5, X, M]
  exact K _ _ r
theorem law_12 {t : Nat} (hR : Rel I) (h31 : t + 6 < 2147483648) (h1 : t + 1 < g.length) (h2 : t + 2 < g.length) (h3 : t + 3 < g.length) (h4 : t + 4 < g.length) (h5 : t + 5 < g.length) (K : ∀ (I : fI) (L : fL), Rel I → Wp 9 173 18 [some (.ref 0), some (.ref 1), some (.ref 346), some (.int (nI (t + 6)))] [] (f_W (g.map Value.int) I L) Q) : Wp 9 173 612 [some (.ref 0), some (.ref 1), some (.ref 346), some (.int (nI t))] [] (f_W (g.map Value.int) I L) Q := by
  have b1 : t + 1 < 2147483648 := by omega
  have b2 : t + 2 < 2147483648 := by omega
  have b3 : t + 3 < 2147483648 := by omega
  have b4 : t + 4 < 2147483648 := by omega
  have b5 : t + 5 < 2147483648 := by omega
  by_cases q : g.getD (t + 3) 0 = nI 0
  · obtain ⟨v, I1, I2, L1, X, M, r⟩ := same_side (xs := g.map Value.int) (L := L) hR (h := g.getD (t + 1) 0) (x := g.getD (t + 2) 0) (b := false)
    have X := X 0
    have M := M 0
    simp only [b2_t, b2_f] at X M
    simp only [w173_612, w173_613, w173_614, w173_615, w173_616, w173_617, w173_618, w173_619, w173_620, w173_621, w173_622, w173_623, w173_624, w173_625, w173_626, w173_627, w173_628, w173_631, w173_632, w173_635, w173_636, w173_639, w173_640, w173_641, w173_642, w173_643, w173_644, w173_645, w173_646, w173_647, w173_648, w173_649, w173_650, w173_651, w173_652, w173_653, w173_654, w173_655, w173_658, w173_659, w173_662, w173_663, w173_666, w173_669, w173_670, w173_1206, w173_1209, eq_self, n_add, sc_0, sc_i, sc_r, jc_i, jc_r, Option.toList_some, List.cons_append, List.nil_append, Nat.reduceLeDiff, Nat.reduceAdd, Nat.reduceEqDiff, not_false_eq_true, not_true_eq_false, false_imp_iff, true_imp_iff, and_true, true_and, forall_const, false_implies, true_implies, tg_1, tg_346, h1, h2, h3, h4, h5, b1, b2, b3, b4, b5, X, M, q]
    exact K _ _ r
  · obtain ⟨v, I1, I2, L1, X, M, r⟩ := same_side (xs := g.map Value.int) (L := L) hR (h := g.getD (t + 1) 0) (x := g.getD (t + 2) 0) (b := true)
    have X := X 0
    have M := M 0
    simp only [b2_t, b2_f] at X M
    simp only [w173_612, w173_613, w173_614, w173_615, w173_616, w173_617, w173_618, w173_619, w173_620, w173_621, w173_622, w173_623, w173_624, w173_625, w173_626, w173_627, w173_628, w173_631, w173_632, w173_635, w173_636, w173_639, w173_640, w173_641, w173_642, w173_643, w173_644, w173_645, w173_646, w173_647, w173_648, w173_649, w173_650, w173_651, w173_652, w173_653, w173_654, w173_655, w173_658, w173_659, w173_662, w173_663, w173_666, w173_669, w173_670, w173_1206, w173_1209, eq_self, n_add, sc_0, sc_i, sc_r, jc_i, jc_r, Option.toList_some, List.cons_append, List.nil_append, Nat.reduceLeDiff, Nat.reduceAdd, Nat.reduceEqDiff, not_false_eq_true, not_true_eq_false, false_imp_iff, true_imp_iff, and_true, true_and, forall_const, false_implies, true_implies, tg_1, tg_346, h1, h2, h3, h4, h5, b1, b2, b3, b4, b5, X, M, q]
    exact K _ _ r
theorem law_13 {t : Nat} (hR : Rel I) (h31 : t + 6 < 2147483648) (h1 : t + 1 < g.length) (h2 : t + 2 < g.length) (h3 : t + 3 < g.length) (h4 : t + 4 < g.length) (h5 : t + 5 < g.length) (K : ∀ (I : fI) (L : fL), Rel I → Wp 9 173 18 [some (.ref 0), some (.ref 1), some (.ref 346), some (.int (nI (t + 6)))] [] (f_W (g.map Value.int) I L) Q) : Wp 9 173 671 [some (.ref 0), some (.ref 1), some (.ref 346), some (.int (nI t))] [] (f_W (g.map Value.int) I L) Q := by
  have b1 : t + 1 < 2147483648 := by omega
  have b2 : t + 2 < 2147483648 := by omega
  have b3 : t + 3 < 2147483648 := by omega
  have b4 : t + 4 < 2147483648 := by omega
  have b5 : t + 5 < 2147483648 := by omega
  obtain ⟨v, I1, I2, L1, X, M, r⟩ := same_comes (xs := g.map Value.int) (L := L) hR (m := g.getD (t + 1) 0) (x := g.getD (t + 2) 0) (y := g.getD (t + 3) 0) (z := g.getD (t + 4) 0)
  have X := X 0
  have M := M 0
  simp only [w173_671, w173_672, w173_673, w173_674, w173_675, w173_676, w173_677, w173_678, w173_679, w173_680, w173_681, w173_682, w173_683, w173_684, w173_685, w173_686, w173_687, w173_688, w173_689, w173_690, w173_691, w173_692, w173_695, w173_696, w173_697, w173_698, w173_699, w173_700, w173_701, w173_702, w173_703, w173_704, w173_705, w173_706, w173_707, w173_708, w173_709, w173_710, w173_711, w173_712, w173_713, w173_714, w173_715, w173_716, w173_719, w173_722, w173_723, w173_1206, w173_1209, eq_self, n_add, sc_0, sc_i, sc_r, jc_i, jc_r, Option.toList_some, List.cons_append, List.nil_append, Nat.reduceLeDiff, Nat.reduceAdd, Nat.reduceEqDiff, not_false_eq_true, not_true_eq_false, false_imp_iff, true_imp_iff, and_true, true_and, forall_const, false_implies, true_implies, tg_1, tg_346, h1, h2, h3, h4, h5, b1, b2, b3, b4, b5, X, M]
  exact K _ _ r
theorem law_14 {t : Nat} (hR : Rel I) (h31 : t + 6 < 2147483648) (h1 : t + 1 < g.length) (h2 : t + 2 < g.length) (h3 : t + 3 < g.length) (h4 : t + 4 < g.length) (h5 : t + 5 < g.length) (K : ∀ (I : fI) (L : fL), Rel I → Wp 9 173 18 [some (.ref 0), some (.ref 1), some (.ref 346), some (.int (nI (t + 6)))] [] (f_W (g.map Value.int) I L) Q) : Wp 9 173 724 [some (.ref 0), some (.ref 1), some (.ref 346), some (.int (nI t))] [] (f_W (g.map Value.int) I L) Q := by
  have b1 : t + 1 < 2147483648 := by omega
  have b2 : t + 2 < 2147483648 := by omega
  have b3 : t + 3 < 2147483648 := by omega
  have b4 : t + 4 < 2147483648 := by omega
  have b5 : t + 5 < 2147483648 := by omega
  obtain ⟨v, I1, I2, L1, X, M, r⟩ := same_many (xs := g.map Value.int) (L := L) hR (m := g.getD (t + 1) 0)
  have X := X 0
  have M := M 0
  simp only [w173_724, w173_725, w173_726, w173_727, w173_728, w173_729, w173_730, w173_733, w173_734, w173_735, w173_736, w173_737, w173_738, w173_739, w173_742, w173_745, w173_746, w173_1206, w173_1209, eq_self, n_add, sc_0, sc_i, sc_r, jc_i, jc_r, Option.toList_some, List.cons_append, List.nil_append, Nat.reduceLeDiff, Nat.reduceAdd, Nat.reduceEqDiff, not_false_eq_true, not_true_eq_false, false_imp_iff, true_imp_iff, and_true, true_and, forall_const, false_implies, true_implies, tg_1, tg_346, h1, h2, h3, h4, h5, b1, b2, b3, b4, b5, X, M]
  exact K _ _ r
theorem law_15 {t : Nat} (hR : Rel I) (h31 : t + 6 < 2147483648) (h1 : t + 1 < g.length) (h2 : t + 2 < g.length) (h3 : t + 3 < g.length) (h4 : t + 4 < g.length) (h5 : t + 5 < g.length) (K : ∀ (I : fI) (L : fL), Rel I → Wp 9 173 18 [some (.ref 0), some (.ref 1), some (.ref 346), some (.int (nI (t + 6)))] [] (f_W (g.map Value.int) I L) Q) : Wp 9 173 747 [some (.ref 0), some (.ref 1), some (.ref 346), some (.int (nI t))] [] (f_W (g.map Value.int) I L) Q := by
  have b1 : t + 1 < 2147483648 := by omega
  have b2 : t + 2 < 2147483648 := by omega
  have b3 : t + 3 < 2147483648 := by omega
  have b4 : t + 4 < 2147483648 := by omega
  have b5 : t + 5 < 2147483648 := by omega
  obtain ⟨v, I1, I2, L1, X, M, r⟩ := same_shown (xs := g.map Value.int) (L := L) hR
  have X := X 0
  have M := M 0
  simp only [w173_747, w173_748, w173_751, w173_752, w173_755, w173_758, w173_759, w173_1206, w173_1209, eq_self, n_add, sc_0, sc_i, sc_r, jc_i, jc_r, Option.toList_some, List.cons_append, List.nil_append, Nat.reduceLeDiff, Nat.reduceAdd, Nat.reduceEqDiff, not_false_eq_true, not_true_eq_false, false_imp_iff, true_imp_iff, and_true, true_and, forall_const, false_implies, true_implies, tg_1, tg_346, h1, h2, h3, h4, h5, b1, b2, b3, b4, b5, X, M]
  exact K _ _ r
theorem law_16 {t : Nat} (hR : Rel I) (h31 : t + 6 < 2147483648) (h1 : t + 1 < g.length) (h2 : t + 2 < g.length) (h3 : t + 3 < g.length) (h4 : t + 4 < g.length) (h5 : t + 5 < g.length) (K : ∀ (I : fI) (L : fL), Rel I → Wp 9 173 18 [some (.ref 0), some (.ref 1), some (.ref 346), some (.int (nI (t + 6)))] [] (f_W (g.map Value.int) I L) Q) : Wp 9 173 760 [some (.ref 0), some (.ref 1), some (.ref 346), some (.int (nI t))] [] (f_W (g.map Value.int) I L) Q := by
  have b1 : t + 1 < 2147483648 := by omega
  have b2 : t + 2 < 2147483648 := by omega
  have b3 : t + 3 < 2147483648 := by omega
  have b4 : t + 4 < 2147483648 := by omega
  have b5 : t + 5 < 2147483648 := by omega
  obtain ⟨v, I1, I2, L1, X, M, r⟩ := same_shownAt (xs := g.map Value.int) (L := L) hR (i := g.getD (t + 1) 0) (m := g.getD (t + 2) 0)
  have X := X 0
  have M := M 0
  simp only [w173_760, w173_761, w173_762, w173_763, w173_764, w173_765, w173_766, w173_767, w173_768, w173_769, w173_770, w173_771, w173_774, w173_775, w173_776, w173_777, w173_778, w173_779, w173_780, w173_781, w173_782, w173_783, w173_784, w173_785, w173_788, w173_791, w173_792, w173_1206, w173_1209, eq_self, n_add, sc_0, sc_i, sc_r, jc_i, jc_r, Option.toList_some, List.cons_append, List.nil_append, Nat.reduceLeDiff, Nat.reduceAdd, Nat.reduceEqDiff, not_false_eq_true, not_true_eq_false, false_imp_iff, true_imp_iff, and_true, true_and, forall_const, false_implies, true_implies, tg_1, tg_346, h1, h2, h3, h4, h5, b1, b2, b3, b4, b5, X, M]
  exact K _ _ r
theorem law_17 {t : Nat} (hR : Rel I) (h31 : t + 6 < 2147483648) (h1 : t + 1 < g.length) (h2 : t + 2 < g.length) (h3 : t + 3 < g.length) (h4 : t + 4 < g.length) (h5 : t + 5 < g.length) (K : ∀ (I : fI) (L : fL), Rel I → Wp 9 173 18 [some (.ref 0), some (.ref 1), some (.ref 346), some (.int (nI (t + 6)))] [] (f_W (g.map Value.int) I L) Q) : Wp 9 173 793 [some (.ref 0), some (.ref 1), some (.ref 346), some (.int (nI t))] [] (f_W (g.map Value.int) I L) Q := by
  have b1 : t + 1 < 2147483648 := by omega
  have b2 : t + 2 < 2147483648 := by omega
  have b3 : t + 3 < 2147483648 := by omega
  have b4 : t + 4 < 2147483648 := by omega
  have b5 : t + 5 < 2147483648 := by omega
  obtain ⟨v, I1, I2, L1, X, M, r⟩ := same_fence (xs := g.map Value.int) (L := L) hR (m := g.getD (t + 1) 0) (x := g.getD (t + 2) 0) (a := g.getD (t + 3) 0) (b := g.getD (t + 4) 0)
  have X := X 0
  have M := M 0
  simp only [w173_793, w173_794, w173_795, w173_796, w173_797, w173_798, w173_799, w173_800, w173_801, w173_802, w173_803, w173_804, w173_805, w173_806, w173_807, w173_808, w173_809, w173_810, w173_811, w173_812, w173_813, w173_814, w173_817, w173_818, w173_819, w173_820, w173_821, w173_822, w173_823, w173_824, w173_825, w173_826, w173_827, w173_828, w173_829, w173_830, w173_831, w173_832, w173_833, w173_834, w173_835, w173_836, w173_837, w173_838, w173_841, w173_844, w173_845, w173_1206, w173_1209, eq_self, n_add, sc_0, sc_i, sc_r, jc_i, jc_r, Option.toList_some, List.cons_append, List.nil_append, Nat.reduceLeDiff, Nat.reduceAdd, Nat.reduceEqDiff, not_false_eq_true, not_true_eq_false, false_imp_iff, true_imp_iff, and_true, true_and, forall_const, false_implies, true_implies, tg_1, tg_346, h1, h2, h3, h4, h5, b1, b2, b3, b4, b5, X, M]
  exact K _ _ r
theorem law_18 {t : Nat} (hR : Rel I) (h31 : t + 6 < 2147483648) (h1 : t + 1 < g.length) (h2 : t + 2 < g.length) (h3 : t + 3 < g.length) (h4 : t + 4 < g.length) (h5 : t + 5 < g.length) (K : ∀ (I : fI) (L : fL), Rel I → Wp 9 173 18 [some (.ref 0), some (.ref 1), some (.ref 346), some (.int (nI (t + 6)))] [] (f_W (g.map Value.int) I L) Q) : Wp 9 173 846 [some (.ref 0), some (.ref 1), some (.ref 346), some (.int (nI t))] [] (f_W (g.map Value.int) I L) Q := by
  have b1 : t + 1 < 2147483648 := by omega
  have b2 : t + 2 < 2147483648 := by omega
  have b3 : t + 3 < 2147483648 := by omega
  have b4 : t + 4 < 2147483648 := by omega
  have b5 : t + 5 < 2147483648 := by omega
  obtain ⟨v, I1, I2, L1, X, M, r⟩ := same_open (xs := g.map Value.int) (L := L) hR
  have X := X 0
  have M := M 0
  simp only [w173_846, w173_847, w173_850, w173_851, w173_854, w173_857, w173_858, w173_1206, w173_1209, eq_self, n_add, sc_0, sc_i, sc_r, jc_i, jc_r, Option.toList_some, List.cons_append, List.nil_append, Nat.reduceLeDiff, Nat.reduceAdd, Nat.reduceEqDiff, not_false_eq_true, not_true_eq_false, false_imp_iff, true_imp_iff, and_true, true_and, forall_const, false_implies, true_implies, tg_1, tg_346, h1, h2, h3, h4, h5, b1, b2, b3, b4, b5, X, M]
  exact K _ _ r
theorem law_19 {t : Nat} (hR : Rel I) (h31 : t + 6 < 2147483648) (h1 : t + 1 < g.length) (h2 : t + 2 < g.length) (h3 : t + 3 < g.length) (h4 : t + 4 < g.length) (h5 : t + 5 < g.length) (K : ∀ (I : fI) (L : fL), Rel I → Wp 9 173 18 [some (.ref 0), some (.ref 1), some (.ref 346), some (.int (nI (t + 6)))] [] (f_W (g.map Value.int) I L) Q) : Wp 9 173 859 [some (.ref 0), some (.ref 1), some (.ref 346), some (.int (nI t))] [] (f_W (g.map Value.int) I L) Q := by
  have b1 : t + 1 < 2147483648 := by omega
  have b2 : t + 2 < 2147483648 := by omega
  have b3 : t + 3 < 2147483648 := by omega
  have b4 : t + 4 < 2147483648 := by omega
  have b5 : t + 5 < 2147483648 := by omega
  obtain ⟨v, I1, I2, L1, X, M, r⟩ := same_holds (xs := g.map Value.int) (L := L) hR
  have X := X 0
  have M := M 0
  simp only [w173_859, w173_860, w173_863, w173_864, w173_867, w173_870, w173_871, w173_1206, w173_1209, eq_self, n_add, sc_0, sc_i, sc_r, jc_i, jc_r, Option.toList_some, List.cons_append, List.nil_append, Nat.reduceLeDiff, Nat.reduceAdd, Nat.reduceEqDiff, not_false_eq_true, not_true_eq_false, false_imp_iff, true_imp_iff, and_true, true_and, forall_const, false_implies, true_implies, tg_1, tg_346, h1, h2, h3, h4, h5, b1, b2, b3, b4, b5, X, M]
  exact K _ _ r
theorem law_20 {t : Nat} (hR : Rel I) (h31 : t + 6 < 2147483648) (h1 : t + 1 < g.length) (h2 : t + 2 < g.length) (h3 : t + 3 < g.length) (h4 : t + 4 < g.length) (h5 : t + 5 < g.length) (K : ∀ (I : fI) (L : fL), Rel I → Wp 9 173 18 [some (.ref 0), some (.ref 1), some (.ref 346), some (.int (nI (t + 6)))] [] (f_W (g.map Value.int) I L) Q) : Wp 9 173 872 [some (.ref 0), some (.ref 1), some (.ref 346), some (.int (nI t))] [] (f_W (g.map Value.int) I L) Q := by
  have b1 : t + 1 < 2147483648 := by omega
  have b2 : t + 2 < 2147483648 := by omega
  have b3 : t + 3 < 2147483648 := by omega
  have b4 : t + 4 < 2147483648 := by omega
  have b5 : t + 5 < 2147483648 := by omega
  obtain ⟨v, I1, I2, L1, X, M, r⟩ := same_run (xs := g.map Value.int) (L := L) hR (x := g.getD (t + 1) 0) (y := g.getD (t + 2) 0) (z := g.getD (t + 3) 0)
  have X := X 0
  have M := M 0
  simp only [w173_872, w173_873, w173_874, w173_875, w173_876, w173_877, w173_878, w173_879, w173_880, w173_881, w173_882, w173_883, w173_884, w173_885, w173_886, w173_887, w173_888, w173_891, w173_892, w173_893, w173_894, w173_895, w173_896, w173_897, w173_898, w173_899, w173_900, w173_901, w173_902, w173_903, w173_904, w173_905, w173_906, w173_907, w173_910, w173_913, w173_914, w173_1206, w173_1209, eq_self, n_add, sc_0, sc_i, sc_r, jc_i, jc_r, Option.toList_some, List.cons_append, List.nil_append, Nat.reduceLeDiff, Nat.reduceAdd, Nat.reduceEqDiff, not_false_eq_true, not_true_eq_false, false_imp_iff, true_imp_iff, and_true, true_and, forall_const, false_implies, true_implies, tg_1, tg_346, h1, h2, h3, h4, h5, b1, b2, b3, b4, b5, X, M]
  exact K _ _ r
theorem law_21 {t : Nat} (hR : Rel I) (h31 : t + 6 < 2147483648) (h1 : t + 1 < g.length) (h2 : t + 2 < g.length) (h3 : t + 3 < g.length) (h4 : t + 4 < g.length) (h5 : t + 5 < g.length) (K : ∀ (I : fI) (L : fL), Rel I → Wp 9 173 18 [some (.ref 0), some (.ref 1), some (.ref 346), some (.int (nI (t + 6)))] [] (f_W (g.map Value.int) I L) Q) : Wp 9 173 915 [some (.ref 0), some (.ref 1), some (.ref 346), some (.int (nI t))] [] (f_W (g.map Value.int) I L) Q := by
  have b1 : t + 1 < 2147483648 := by omega
  have b2 : t + 2 < 2147483648 := by omega
  have b3 : t + 3 < 2147483648 := by omega
  have b4 : t + 4 < 2147483648 := by omega
  have b5 : t + 5 < 2147483648 := by omega
  obtain ⟨v, I1, I2, L1, X, M, r⟩ := same_tick (xs := g.map Value.int) (L := L) hR (a := g.getD (t + 1) 0) (b := g.getD (t + 2) 0) (c := g.getD (t + 3) 0)
  have X := X 0
  have M := M 0
  simp only [w173_915, w173_916, w173_917, w173_918, w173_919, w173_920, w173_921, w173_922, w173_923, w173_924, w173_925, w173_926, w173_927, w173_928, w173_929, w173_930, w173_931, w173_934, w173_935, w173_936, w173_937, w173_938, w173_939, w173_940, w173_941, w173_942, w173_943, w173_944, w173_945, w173_946, w173_947, w173_948, w173_949, w173_950, w173_953, w173_956, w173_957, w173_1206, w173_1209, eq_self, n_add, sc_0, sc_i, sc_r, jc_i, jc_r, Option.toList_some, List.cons_append, List.nil_append, Nat.reduceLeDiff, Nat.reduceAdd, Nat.reduceEqDiff, not_false_eq_true, not_true_eq_false, false_imp_iff, true_imp_iff, and_true, true_and, forall_const, false_implies, true_implies, tg_1, tg_346, h1, h2, h3, h4, h5, b1, b2, b3, b4, b5, X, M]
  exact K _ _ r
theorem law_22 {t : Nat} (hR : Rel I) (h31 : t + 6 < 2147483648) (h1 : t + 1 < g.length) (h2 : t + 2 < g.length) (h3 : t + 3 < g.length) (h4 : t + 4 < g.length) (h5 : t + 5 < g.length) (K : ∀ (I : fI) (L : fL), Rel I → Wp 9 173 18 [some (.ref 0), some (.ref 1), some (.ref 346), some (.int (nI (t + 6)))] [] (f_W (g.map Value.int) I L) Q) : Wp 9 173 958 [some (.ref 0), some (.ref 1), some (.ref 346), some (.int (nI t))] [] (f_W (g.map Value.int) I L) Q := by
  have b1 : t + 1 < 2147483648 := by omega
  have b2 : t + 2 < 2147483648 := by omega
  have b3 : t + 3 < 2147483648 := by omega
  have b4 : t + 4 < 2147483648 := by omega
  have b5 : t + 5 < 2147483648 := by omega
  obtain ⟨v, I1, I2, L1, X, M, r⟩ := same_leap (xs := g.map Value.int) (L := L) hR (j := g.getD (t + 1) 0) (x := g.getD (t + 2) 0) (y := g.getD (t + 3) 0) (z := g.getD (t + 4) 0)
  have X := X 0
  have M := M 0
  simp only [w173_958, w173_959, w173_960, w173_961, w173_962, w173_963, w173_964, w173_965, w173_966, w173_967, w173_968, w173_969, w173_970, w173_971, w173_972, w173_973, w173_974, w173_975, w173_976, w173_977, w173_978, w173_979, w173_982, w173_983, w173_984, w173_985, w173_986, w173_987, w173_988, w173_989, w173_990, w173_991, w173_992, w173_993, w173_994, w173_995, w173_996, w173_997, w173_998, w173_999, w173_1000, w173_1001, w173_1002, w173_1003, w173_1006, w173_1009, w173_1010, w173_1206, w173_1209, eq_self, n_add, sc_0, sc_i, sc_r, jc_i, jc_r, Option.toList_some, List.cons_append, List.nil_append, Nat.reduceLeDiff, Nat.reduceAdd, Nat.reduceEqDiff, not_false_eq_true, not_true_eq_false, false_imp_iff, true_imp_iff, and_true, true_and, forall_const, false_implies, true_implies, tg_1, tg_346, h1, h2, h3, h4, h5, b1, b2, b3, b4, b5, X, M]
  exact K _ _ r
theorem law_23 {t : Nat} (hR : Rel I) (h31 : t + 6 < 2147483648) (h1 : t + 1 < g.length) (h2 : t + 2 < g.length) (h3 : t + 3 < g.length) (h4 : t + 4 < g.length) (h5 : t + 5 < g.length) (K : ∀ (I : fI) (L : fL), Rel I → Wp 9 173 18 [some (.ref 0), some (.ref 1), some (.ref 346), some (.int (nI (t + 6)))] [] (f_W (g.map Value.int) I L) Q) : Wp 9 173 1011 [some (.ref 0), some (.ref 1), some (.ref 346), some (.int (nI t))] [] (f_W (g.map Value.int) I L) Q := by
  have b1 : t + 1 < 2147483648 := by omega
  have b2 : t + 2 < 2147483648 := by omega
  have b3 : t + 3 < 2147483648 := by omega
  have b4 : t + 4 < 2147483648 := by omega
  have b5 : t + 5 < 2147483648 := by omega
  obtain ⟨v, I1, I2, L1, X, M, r⟩ := same_now (xs := g.map Value.int) (L := L) hR (m := g.getD (t + 1) 0)
  have X := X 0
  have M := M 0
  simp only [w173_1011, w173_1012, w173_1013, w173_1014, w173_1015, w173_1016, w173_1017, w173_1020, w173_1021, w173_1022, w173_1023, w173_1024, w173_1025, w173_1026, w173_1029, w173_1032, w173_1033, w173_1206, w173_1209, eq_self, n_add, sc_0, sc_i, sc_r, jc_i, jc_r, Option.toList_some, List.cons_append, List.nil_append, Nat.reduceLeDiff, Nat.reduceAdd, Nat.reduceEqDiff, not_false_eq_true, not_true_eq_false, false_imp_iff, true_imp_iff, and_true, true_and, forall_const, false_implies, true_implies, tg_1, tg_346, h1, h2, h3, h4, h5, b1, b2, b3, b4, b5, X, M]
  exact K _ _ r
theorem law_24 {t : Nat} (hR : Rel I) (h31 : t + 6 < 2147483648) (h1 : t + 1 < g.length) (h2 : t + 2 < g.length) (h3 : t + 3 < g.length) (h4 : t + 4 < g.length) (h5 : t + 5 < g.length) (K : ∀ (I : fI) (L : fL), Rel I → Wp 9 173 18 [some (.ref 0), some (.ref 1), some (.ref 346), some (.int (nI (t + 6)))] [] (f_W (g.map Value.int) I L) Q) : Wp 9 173 1034 [some (.ref 0), some (.ref 1), some (.ref 346), some (.int (nI t))] [] (f_W (g.map Value.int) I L) Q := by
  have b1 : t + 1 < 2147483648 := by omega
  have b2 : t + 2 < 2147483648 := by omega
  have b3 : t + 3 < 2147483648 := by omega
  have b4 : t + 4 < 2147483648 := by omega
  have b5 : t + 5 < 2147483648 := by omega
  obtain ⟨v, I1, I2, L1, X, M, r⟩ := same_sheet (xs := g.map Value.int) (L := L) hR (k := g.getD (t + 1) 0) (l := g.getD (t + 2) 0) (n := g.getD (t + 3) 0)
  have X := X 0
  have M := M 0
  simp only [w173_1034, w173_1035, w173_1036, w173_1037, w173_1038, w173_1039, w173_1040, w173_1041, w173_1042, w173_1043, w173_1044, w173_1045, w173_1046, w173_1047, w173_1048, w173_1049, w173_1050, w173_1053, w173_1054, w173_1055, w173_1056, w173_1057, w173_1058, w173_1059, w173_1060, w173_1061, w173_1062, w173_1063, w173_1064, w173_1065, w173_1066, w173_1067, w173_1068, w173_1069, w173_1072, w173_1075, w173_1076, w173_1206, w173_1209, eq_self, n_add, sc_0, sc_i, sc_r, jc_i, jc_r, Option.toList_some, List.cons_append, List.nil_append, Nat.reduceLeDiff, Nat.reduceAdd, Nat.reduceEqDiff, not_false_eq_true, not_true_eq_false, false_imp_iff, true_imp_iff, and_true, true_and, forall_const, false_implies, true_implies, tg_1, tg_346, h1, h2, h3, h4, h5, b1, b2, b3, b4, b5, X, M]
  exact K _ _ r
theorem law_25 {t : Nat} (hR : Rel I) (h31 : t + 6 < 2147483648) (h1 : t + 1 < g.length) (h2 : t + 2 < g.length) (h3 : t + 3 < g.length) (h4 : t + 4 < g.length) (h5 : t + 5 < g.length) (K : ∀ (I : fI) (L : fL), Rel I → Wp 9 173 18 [some (.ref 0), some (.ref 1), some (.ref 346), some (.int (nI (t + 6)))] [] (f_W (g.map Value.int) I L) Q) : Wp 9 173 1077 [some (.ref 0), some (.ref 1), some (.ref 346), some (.int (nI t))] [] (f_W (g.map Value.int) I L) Q := by
  have b1 : t + 1 < 2147483648 := by omega
  have b2 : t + 2 < 2147483648 := by omega
  have b3 : t + 3 < 2147483648 := by omega
  have b4 : t + 4 < 2147483648 := by omega
  have b5 : t + 5 < 2147483648 := by omega
  obtain ⟨v, I1, I2, L1, X, M, r⟩ := same_lay (xs := g.map Value.int) (L := L) hR (k := g.getD (t + 1) 0) (i := g.getD (t + 2) 0) (v := g.getD (t + 3) 0)
  have X := X 0
  have M := M 0
  simp only [w173_1077, w173_1078, w173_1079, w173_1080, w173_1081, w173_1082, w173_1083, w173_1084, w173_1085, w173_1086, w173_1087, w173_1088, w173_1089, w173_1090, w173_1091, w173_1092, w173_1093, w173_1096, w173_1097, w173_1098, w173_1099, w173_1100, w173_1101, w173_1102, w173_1103, w173_1104, w173_1105, w173_1106, w173_1107, w173_1108, w173_1109, w173_1110, w173_1111, w173_1112, w173_1115, w173_1118, w173_1119, w173_1206, w173_1209, eq_self, n_add, sc_0, sc_i, sc_r, jc_i, jc_r, Option.toList_some, List.cons_append, List.nil_append, Nat.reduceLeDiff, Nat.reduceAdd, Nat.reduceEqDiff, not_false_eq_true, not_true_eq_false, false_imp_iff, true_imp_iff, and_true, true_and, forall_const, false_implies, true_implies, tg_1, tg_346, h1, h2, h3, h4, h5, b1, b2, b3, b4, b5, X, M]
  exact K _ _ r
theorem law_26 {t : Nat} (hR : Rel I) (h31 : t + 6 < 2147483648) (h1 : t + 1 < g.length) (h2 : t + 2 < g.length) (h3 : t + 3 < g.length) (h4 : t + 4 < g.length) (h5 : t + 5 < g.length) (K : ∀ (I : fI) (L : fL), Rel I → Wp 9 173 18 [some (.ref 0), some (.ref 1), some (.ref 346), some (.int (nI (t + 6)))] [] (f_W (g.map Value.int) I L) Q) : Wp 9 173 1120 [some (.ref 0), some (.ref 1), some (.ref 346), some (.int (nI t))] [] (f_W (g.map Value.int) I L) Q := by
  have b1 : t + 1 < 2147483648 := by omega
  have b2 : t + 2 < 2147483648 := by omega
  have b3 : t + 3 < 2147483648 := by omega
  have b4 : t + 4 < 2147483648 := by omega
  have b5 : t + 5 < 2147483648 := by omega
  obtain ⟨v, I1, I2, L1, X, M, r⟩ := same_draw (xs := g.map Value.int) (L := L) hR (s := g.getD (t + 1) 0) (n := g.getD (t + 2) 0) (kk := g.getD (t + 3) 0) (l := g.getD (t + 4) 0) (f := g.getD (t + 5) 0)
  have X := X 0
  have M := M 0
  simp only [w173_1120, w173_1121, w173_1122, w173_1123, w173_1124, w173_1125, w173_1126, w173_1127, w173_1128, w173_1129, w173_1130, w173_1131, w173_1132, w173_1133, w173_1134, w173_1135, w173_1136, w173_1137, w173_1138, w173_1139, w173_1140, w173_1141, w173_1142, w173_1143, w173_1144, w173_1145, w173_1146, w173_1149, w173_1150, w173_1151, w173_1152, w173_1153, w173_1154, w173_1155, w173_1156, w173_1157, w173_1158, w173_1159, w173_1160, w173_1161, w173_1162, w173_1163, w173_1164, w173_1165, w173_1166, w173_1167, w173_1168, w173_1169, w173_1170, w173_1171, w173_1172, w173_1173, w173_1174, w173_1175, w173_1178, w173_1181, w173_1182, w173_1206, w173_1209, eq_self, n_add, sc_0, sc_i, sc_r, jc_i, jc_r, Option.toList_some, List.cons_append, List.nil_append, Nat.reduceLeDiff, Nat.reduceAdd, Nat.reduceEqDiff, not_false_eq_true, not_true_eq_false, false_imp_iff, true_imp_iff, and_true, true_and, forall_const, false_implies, true_implies, tg_1, tg_346, h1, h2, h3, h4, h5, b1, b2, b3, b4, b5, X, M]
  exact K _ _ r
theorem law_27 {t : Nat} (hR : Rel I) (h31 : t + 6 < 2147483648) (h1 : t + 1 < g.length) (h2 : t + 2 < g.length) (h3 : t + 3 < g.length) (h4 : t + 4 < g.length) (h5 : t + 5 < g.length) (K : ∀ (I : fI) (L : fL), Rel I → Wp 9 173 18 [some (.ref 0), some (.ref 1), some (.ref 346), some (.int (nI (t + 6)))] [] (f_W (g.map Value.int) I L) Q) : Wp 9 173 1183 [some (.ref 0), some (.ref 1), some (.ref 346), some (.int (nI t))] [] (f_W (g.map Value.int) I L) Q := by
  have b1 : t + 1 < 2147483648 := by omega
  have b2 : t + 2 < 2147483648 := by omega
  have b3 : t + 3 < 2147483648 := by omega
  have b4 : t + 4 < 2147483648 := by omega
  have b5 : t + 5 < 2147483648 := by omega
  obtain ⟨v, I1, I2, L1, X, M, r⟩ := same_count (xs := g.map Value.int) (L := L) hR (m := g.getD (t + 1) 0)
  have X := X 0
  have M := M 0
  simp only [w173_1183, w173_1184, w173_1185, w173_1186, w173_1187, w173_1188, w173_1189, w173_1192, w173_1193, w173_1194, w173_1195, w173_1196, w173_1197, w173_1198, w173_1201, w173_1204, w173_1205, w173_1206, w173_1209, eq_self, n_add, sc_0, sc_i, sc_r, jc_i, jc_r, Option.toList_some, List.cons_append, List.nil_append, Nat.reduceLeDiff, Nat.reduceAdd, Nat.reduceEqDiff, not_false_eq_true, not_true_eq_false, false_imp_iff, true_imp_iff, and_true, true_and, forall_const, false_implies, true_implies, tg_1, tg_346, h1, h2, h3, h4, h5, b1, b2, b3, b4, b5, X, M]
  exact K _ _ r
end LAWC
