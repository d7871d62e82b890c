/-! the law's loop -/
section S997
variable {X : am_X} {M : Nat → Nat → Int32}
theorem ga_3000 : am_ga X (hp M) 3000 = some (0, X.1, X.2.1) := ga_s (by decide)
theorem len_0 {n : Nat} {f : Nat → Int32} {K : Int32 → Option am_Q} : am_elen (some (0, n, f)) K = K (nI n) := rfl
theorem J_feed {i : Nat} (hX : X.2.2 = .null ∨ X.2.2 = .ref 1200) (hL : X.1 ≤ 2560) (hi : i + 5 ≤ X.1) (h : RR M) : ∃ M', am_ev X kL_law 176 [.ref 3000, .ref 0, .ref 82, .int (nI i)] [] (hp M) = am_ev X kL_law 1132 [.ref 3000, .ref 0, .ref 82, .int (nI i)] [] (hp M') ∧ RR M' := by
  obtain ⟨v, M1, M2, e1, e2, r⟩ := @S_feed X M h (X.2.1 (i + 1))
  refine ⟨M2, ?_, r⟩
  simp (disch := omega) only [iL_law_176, iL_law_177, iL_law_178, iL_law_179, iL_law_180, iL_law_181, iL_law_182, iL_law_185, iL_law_186, iL_law_187, iL_law_188, iL_law_189, iL_law_190, iL_law_191, iL_law_194, iL_law_197, iL_law_198, true_or, or_true, Option.bind_some, Option.bind_none, kk_hp, kn_hp, el_i, el_b, el_z, am_cat_nil, am_cat_i, am_cat_r, am_cat_l, am_cat_n, gd_i, gd_r, gd_n, gd_u, List.length_cons, List.length_nil, true_and, and_true, ↓reduceIte, Nat.zero_le, Nat.reduceLeDiff, Nat.reduceAdd, e_10, e_01, e_00, e_11, Int32.reduceLE, Int32.reduceLT, Int32.reduceAdd, Int32.reduceSub, b01, if_true, if_false, ite_self, rc_0, rc_82, nl_add, nl_add', nl_mul, nI_add, in_t, cl_n, le_nn, lt_nn, le_ln, le_nl, lt_nl, lt_ln, eq_nn, eq_nl, in_lit, cl_lit, Nat.le_refl, Nat.add_zero, ga_3000, e1, e2]
theorem J_end {i : Nat} (hX : X.2.2 = .null ∨ X.2.2 = .ref 1200) (hL : X.1 ≤ 2560) (hi : i + 5 ≤ X.1) (h : RR M) : ∃ M', am_ev X kL_law 199 [.ref 3000, .ref 0, .ref 82, .int (nI i)] [] (hp M) = am_ev X kL_law 1132 [.ref 3000, .ref 0, .ref 82, .int (nI i)] [] (hp M') ∧ RR M' := by
  obtain ⟨v, M1, M2, e1, e2, r⟩ := @S_end X M h (X.2.1 (i + 1))
  refine ⟨M2, ?_, r⟩
  simp (disch := omega) only [iL_law_199, iL_law_200, iL_law_201, iL_law_202, iL_law_203, iL_law_204, iL_law_205, iL_law_208, iL_law_209, iL_law_210, iL_law_211, iL_law_212, iL_law_213, iL_law_214, iL_law_217, iL_law_220, iL_law_221, true_or, or_true, Option.bind_some, Option.bind_none, kk_hp, kn_hp, el_i, el_b, el_z, am_cat_nil, am_cat_i, am_cat_r, am_cat_l, am_cat_n, gd_i, gd_r, gd_n, gd_u, List.length_cons, List.length_nil, true_and, and_true, ↓reduceIte, Nat.zero_le, Nat.reduceLeDiff, Nat.reduceAdd, e_10, e_01, e_00, e_11, Int32.reduceLE, Int32.reduceLT, Int32.reduceAdd, Int32.reduceSub, b01, if_true, if_false, ite_self, rc_0, rc_82, nl_add, nl_add', nl_mul, nI_add, in_t, cl_n, le_nn, lt_nn, le_ln, le_nl, lt_nl, lt_ln, eq_nn, eq_nl, in_lit, cl_lit, Nat.le_refl, Nat.add_zero, ga_3000, e1, e2]
theorem J_text {i : Nat} (hX : X.2.2 = .null ∨ X.2.2 = .ref 1200) (hL : X.1 ≤ 2560) (hi : i + 5 ≤ X.1) (h : RR M) : ∃ M', am_ev X kL_law 222 [.ref 3000, .ref 0, .ref 82, .int (nI i)] [] (hp M) = am_ev X kL_law 1132 [.ref 3000, .ref 0, .ref 82, .int (nI i)] [] (hp M') ∧ RR M' := by
  obtain ⟨v, M1, M2, e1, e2, r⟩ := @S_text X M hX h 
  refine ⟨M2, ?_, r⟩
  simp (disch := omega) only [iL_law_222, iL_law_223, iL_law_226, iL_law_227, iL_law_230, iL_law_233, iL_law_234, true_or, or_true, Option.bind_some, Option.bind_none, kk_hp, kn_hp, el_i, el_b, el_z, am_cat_nil, am_cat_i, am_cat_r, am_cat_l, am_cat_n, gd_i, gd_r, gd_n, gd_u, List.length_cons, List.length_nil, true_and, and_true, ↓reduceIte, Nat.zero_le, Nat.reduceLeDiff, Nat.reduceAdd, e_10, e_01, e_00, e_11, Int32.reduceLE, Int32.reduceLT, Int32.reduceAdd, Int32.reduceSub, b01, if_true, if_false, ite_self, rc_0, rc_82, nl_add, nl_add', nl_mul, nI_add, in_t, cl_n, le_nn, lt_nn, le_ln, le_nl, lt_nl, lt_ln, eq_nn, eq_nl, in_lit, cl_lit, Nat.le_refl, Nat.add_zero, ga_3000, e1, e2]
theorem J_fault {i : Nat} (hX : X.2.2 = .null ∨ X.2.2 = .ref 1200) (hL : X.1 ≤ 2560) (hi : i + 5 ≤ X.1) (h : RR M) : ∃ M', am_ev X kL_law 235 [.ref 3000, .ref 0, .ref 82, .int (nI i)] [] (hp M) = am_ev X kL_law 1132 [.ref 3000, .ref 0, .ref 82, .int (nI i)] [] (hp M') ∧ RR M' := by
  obtain ⟨v, M1, M2, e1, e2, r⟩ := @S_fault X M h 
  refine ⟨M2, ?_, r⟩
  simp (disch := omega) only [iL_law_235, iL_law_236, iL_law_239, iL_law_240, iL_law_243, iL_law_246, iL_law_247, true_or, or_true, Option.bind_some, Option.bind_none, kk_hp, kn_hp, el_i, el_b, el_z, am_cat_nil, am_cat_i, am_cat_r, am_cat_l, am_cat_n, gd_i, gd_r, gd_n, gd_u, List.length_cons, List.length_nil, true_and, and_true, ↓reduceIte, Nat.zero_le, Nat.reduceLeDiff, Nat.reduceAdd, e_10, e_01, e_00, e_11, Int32.reduceLE, Int32.reduceLT, Int32.reduceAdd, Int32.reduceSub, b01, if_true, if_false, ite_self, rc_0, rc_82, nl_add, nl_add', nl_mul, nI_add, in_t, cl_n, le_nn, lt_nn, le_ln, le_nl, lt_nl, lt_ln, eq_nn, eq_nl, in_lit, cl_lit, Nat.le_refl, Nat.add_zero, ga_3000, e1, e2]
theorem J_rule {i : Nat} (hX : X.2.2 = .null ∨ X.2.2 = .ref 1200) (hL : X.1 ≤ 2560) (hi : i + 5 ≤ X.1) (h : RR M) : ∃ M', am_ev X kL_law 248 [.ref 3000, .ref 0, .ref 82, .int (nI i)] [] (hp M) = am_ev X kL_law 1132 [.ref 3000, .ref 0, .ref 82, .int (nI i)] [] (hp M') ∧ RR M' := by
  obtain ⟨v, M1, M2, e1, e2, r⟩ := @S_rule X M h (X.2.1 (i + 1))
  refine ⟨M2, ?_, r⟩
  simp (disch := omega) only [iL_law_248, iL_law_249, iL_law_250, iL_law_251, iL_law_252, iL_law_253, iL_law_254, iL_law_257, iL_law_258, iL_law_259, iL_law_260, iL_law_261, iL_law_262, iL_law_263, iL_law_266, iL_law_269, iL_law_270, true_or, or_true, Option.bind_some, Option.bind_none, kk_hp, kn_hp, el_i, el_b, el_z, am_cat_nil, am_cat_i, am_cat_r, am_cat_l, am_cat_n, gd_i, gd_r, gd_n, gd_u, List.length_cons, List.length_nil, true_and, and_true, ↓reduceIte, Nat.zero_le, Nat.reduceLeDiff, Nat.reduceAdd, e_10, e_01, e_00, e_11, Int32.reduceLE, Int32.reduceLT, Int32.reduceAdd, Int32.reduceSub, b01, if_true, if_false, ite_self, rc_0, rc_82, nl_add, nl_add', nl_mul, nI_add, in_t, cl_n, le_nn, lt_nn, le_ln, le_nl, lt_nl, lt_ln, eq_nn, eq_nl, in_lit, cl_lit, Nat.le_refl, Nat.add_zero, ga_3000, e1, e2]
theorem J_column {i : Nat} (hX : X.2.2 = .null ∨ X.2.2 = .ref 1200) (hL : X.1 ≤ 2560) (hi : i + 5 ≤ X.1) (h : RR M) : ∃ M', am_ev X kL_law 271 [.ref 3000, .ref 0, .ref 82, .int (nI i)] [] (hp M) = am_ev X kL_law 1132 [.ref 3000, .ref 0, .ref 82, .int (nI i)] [] (hp M') ∧ RR M' := by
  obtain ⟨v, M1, M2, e1, e2, r⟩ := @S_column X M h (X.2.1 (i + 1)) (X.2.1 (i + 2))
  refine ⟨M2, ?_, r⟩
  simp (disch := omega) only [iL_law_271, iL_law_272, iL_law_273, iL_law_274, iL_law_275, iL_law_276, iL_law_277, iL_law_278, iL_law_279, iL_law_280, iL_law_281, iL_law_282, iL_law_285, iL_law_286, iL_law_287, iL_law_288, iL_law_289, iL_law_290, iL_law_291, iL_law_292, iL_law_293, iL_law_294, iL_law_295, iL_law_296, iL_law_299, iL_law_302, iL_law_303, true_or, or_true, Option.bind_some, Option.bind_none, kk_hp, kn_hp, el_i, el_b, el_z, am_cat_nil, am_cat_i, am_cat_r, am_cat_l, am_cat_n, gd_i, gd_r, gd_n, gd_u, List.length_cons, List.length_nil, true_and, and_true, ↓reduceIte, Nat.zero_le, Nat.reduceLeDiff, Nat.reduceAdd, e_10, e_01, e_00, e_11, Int32.reduceLE, Int32.reduceLT, Int32.reduceAdd, Int32.reduceSub, b01, if_true, if_false, ite_self, rc_0, rc_82, nl_add, nl_add', nl_mul, nI_add, in_t, cl_n, le_nn, lt_nn, le_ln, le_nl, lt_nl, lt_ln, eq_nn, eq_nl, in_lit, cl_lit, Nat.le_refl, Nat.add_zero, ga_3000, e1, e2]
theorem J_row {i : Nat} (hX : X.2.2 = .null ∨ X.2.2 = .ref 1200) (hL : X.1 ≤ 2560) (hi : i + 5 ≤ X.1) (h : RR M) : ∃ M', am_ev X kL_law 304 [.ref 3000, .ref 0, .ref 82, .int (nI i)] [] (hp M) = am_ev X kL_law 1132 [.ref 3000, .ref 0, .ref 82, .int (nI i)] [] (hp M') ∧ RR M' := by
  obtain ⟨v, M1, M2, e1, e2, r⟩ := @S_row X M h (X.2.1 (i + 1)) (X.2.1 (i + 2))
  refine ⟨M2, ?_, r⟩
  simp (disch := omega) only [iL_law_304, iL_law_305, iL_law_306, iL_law_307, iL_law_308, iL_law_309, iL_law_310, iL_law_311, iL_law_312, iL_law_313, iL_law_314, iL_law_315, iL_law_318, iL_law_319, iL_law_320, iL_law_321, iL_law_322, iL_law_323, iL_law_324, iL_law_325, iL_law_326, iL_law_327, iL_law_328, iL_law_329, iL_law_332, iL_law_335, iL_law_336, true_or, or_true, Option.bind_some, Option.bind_none, kk_hp, kn_hp, el_i, el_b, el_z, am_cat_nil, am_cat_i, am_cat_r, am_cat_l, am_cat_n, gd_i, gd_r, gd_n, gd_u, List.length_cons, List.length_nil, true_and, and_true, ↓reduceIte, Nat.zero_le, Nat.reduceLeDiff, Nat.reduceAdd, e_10, e_01, e_00, e_11, Int32.reduceLE, Int32.reduceLT, Int32.reduceAdd, Int32.reduceSub, b01, if_true, if_false, ite_self, rc_0, rc_82, nl_add, nl_add', nl_mul, nI_add, in_t, cl_n, le_nn, lt_nn, le_ln, le_nl, lt_nl, lt_ln, eq_nn, eq_nl, in_lit, cl_lit, Nat.le_refl, Nat.add_zero, ga_3000, e1, e2]
theorem J_item {i : Nat} (hX : X.2.2 = .null ∨ X.2.2 = .ref 1200) (hL : X.1 ≤ 2560) (hi : i + 5 ≤ X.1) (h : RR M) : ∃ M', am_ev X kL_law 337 [.ref 3000, .ref 0, .ref 82, .int (nI i)] [] (hp M) = am_ev X kL_law 1132 [.ref 3000, .ref 0, .ref 82, .int (nI i)] [] (hp M') ∧ RR M' := by
  obtain ⟨v, M1, M2, e1, e2, r⟩ := @S_item X M h (X.2.1 (i + 1)) (X.2.1 (i + 2))
  refine ⟨M2, ?_, r⟩
  simp (disch := omega) only [iL_law_337, iL_law_338, iL_law_339, iL_law_340, iL_law_341, iL_law_342, iL_law_343, iL_law_344, iL_law_345, iL_law_346, iL_law_347, iL_law_348, iL_law_351, iL_law_352, iL_law_353, iL_law_354, iL_law_355, iL_law_356, iL_law_357, iL_law_358, iL_law_359, iL_law_360, iL_law_361, iL_law_362, iL_law_365, iL_law_368, iL_law_369, true_or, or_true, Option.bind_some, Option.bind_none, kk_hp, kn_hp, el_i, el_b, el_z, am_cat_nil, am_cat_i, am_cat_r, am_cat_l, am_cat_n, gd_i, gd_r, gd_n, gd_u, List.length_cons, List.length_nil, true_and, and_true, ↓reduceIte, Nat.zero_le, Nat.reduceLeDiff, Nat.reduceAdd, e_10, e_01, e_00, e_11, Int32.reduceLE, Int32.reduceLT, Int32.reduceAdd, Int32.reduceSub, b01, if_true, if_false, ite_self, rc_0, rc_82, nl_add, nl_add', nl_mul, nI_add, in_t, cl_n, le_nn, lt_nn, le_ln, le_nl, lt_nl, lt_ln, eq_nn, eq_nl, in_lit, cl_lit, Nat.le_refl, Nat.add_zero, ga_3000, e1, e2]
theorem J_line {i : Nat} (hX : X.2.2 = .null ∨ X.2.2 = .ref 1200) (hL : X.1 ≤ 2560) (hi : i + 5 ≤ X.1) (h : RR M) : ∃ M', am_ev X kL_law 370 [.ref 3000, .ref 0, .ref 82, .int (nI i)] [] (hp M) = am_ev X kL_law 1132 [.ref 3000, .ref 0, .ref 82, .int (nI i)] [] (hp M') ∧ RR M' := by
  obtain ⟨v, M1, M2, e1, e2, r⟩ := @S_line X M h (X.2.1 (i + 1))
  refine ⟨M2, ?_, r⟩
  simp (disch := omega) only [iL_law_370, iL_law_371, iL_law_372, iL_law_373, iL_law_374, iL_law_375, iL_law_376, iL_law_379, iL_law_380, iL_law_381, iL_law_382, iL_law_383, iL_law_384, iL_law_385, iL_law_388, iL_law_391, iL_law_392, true_or, or_true, Option.bind_some, Option.bind_none, kk_hp, kn_hp, el_i, el_b, el_z, am_cat_nil, am_cat_i, am_cat_r, am_cat_l, am_cat_n, gd_i, gd_r, gd_n, gd_u, List.length_cons, List.length_nil, true_and, and_true, ↓reduceIte, Nat.zero_le, Nat.reduceLeDiff, Nat.reduceAdd, e_10, e_01, e_00, e_11, Int32.reduceLE, Int32.reduceLT, Int32.reduceAdd, Int32.reduceSub, b01, if_true, if_false, ite_self, rc_0, rc_82, nl_add, nl_add', nl_mul, nI_add, in_t, cl_n, le_nn, lt_nn, le_ln, le_nl, lt_nl, lt_ln, eq_nn, eq_nl, in_lit, cl_lit, Nat.le_refl, Nat.add_zero, ga_3000, e1, e2]
theorem J_at {i : Nat} (hX : X.2.2 = .null ∨ X.2.2 = .ref 1200) (hL : X.1 ≤ 2560) (hi : i + 5 ≤ X.1) (h : RR M) : ∃ M', am_ev X kL_law 393 [.ref 3000, .ref 0, .ref 82, .int (nI i)] [] (hp M) = am_ev X kL_law 1132 [.ref 3000, .ref 0, .ref 82, .int (nI i)] [] (hp M') ∧ RR M' := by
  obtain ⟨v, M1, M2, e1, e2, r⟩ := @S_at X M h (X.2.1 (i + 1)) (X.2.1 (i + 2))
  refine ⟨M2, ?_, r⟩
  simp (disch := omega) only [iL_law_393, iL_law_394, iL_law_395, iL_law_396, iL_law_397, iL_law_398, iL_law_399, iL_law_400, iL_law_401, iL_law_402, iL_law_403, iL_law_404, iL_law_407, iL_law_408, iL_law_409, iL_law_410, iL_law_411, iL_law_412, iL_law_413, iL_law_414, iL_law_415, iL_law_416, iL_law_417, iL_law_418, iL_law_421, iL_law_424, iL_law_425, true_or, or_true, Option.bind_some, Option.bind_none, kk_hp, kn_hp, el_i, el_b, el_z, am_cat_nil, am_cat_i, am_cat_r, am_cat_l, am_cat_n, gd_i, gd_r, gd_n, gd_u, List.length_cons, List.length_nil, true_and, and_true, ↓reduceIte, Nat.zero_le, Nat.reduceLeDiff, Nat.reduceAdd, e_10, e_01, e_00, e_11, Int32.reduceLE, Int32.reduceLT, Int32.reduceAdd, Int32.reduceSub, b01, if_true, if_false, ite_self, rc_0, rc_82, nl_add, nl_add', nl_mul, nI_add, in_t, cl_n, le_nn, lt_nn, le_ln, le_nl, lt_nl, lt_ln, eq_nn, eq_nl, in_lit, cl_lit, Nat.le_refl, Nat.add_zero, ga_3000, e1, e2]
theorem J_box {i : Nat} (hX : X.2.2 = .null ∨ X.2.2 = .ref 1200) (hL : X.1 ≤ 2560) (hi : i + 5 ≤ X.1) (h : RR M) : ∃ M', am_ev X kL_law 426 [.ref 3000, .ref 0, .ref 82, .int (nI i)] [] (hp M) = am_ev X kL_law 1132 [.ref 3000, .ref 0, .ref 82, .int (nI i)] [] (hp M') ∧ RR M' := by
  obtain ⟨v, M1, M2, e1, e2, r⟩ := @S_box X M h (X.2.1 (i + 1)) (X.2.1 (i + 2))
  refine ⟨M2, ?_, r⟩
  simp (disch := omega) only [iL_law_426, iL_law_427, iL_law_428, iL_law_429, iL_law_430, iL_law_431, iL_law_432, iL_law_433, iL_law_434, iL_law_435, iL_law_436, iL_law_437, iL_law_440, iL_law_441, iL_law_442, iL_law_443, iL_law_444, iL_law_445, iL_law_446, iL_law_447, iL_law_448, iL_law_449, iL_law_450, iL_law_451, iL_law_454, iL_law_457, iL_law_458, true_or, or_true, Option.bind_some, Option.bind_none, kk_hp, kn_hp, el_i, el_b, el_z, am_cat_nil, am_cat_i, am_cat_r, am_cat_l, am_cat_n, gd_i, gd_r, gd_n, gd_u, List.length_cons, List.length_nil, true_and, and_true, ↓reduceIte, Nat.zero_le, Nat.reduceLeDiff, Nat.reduceAdd, e_10, e_01, e_00, e_11, Int32.reduceLE, Int32.reduceLT, Int32.reduceAdd, Int32.reduceSub, b01, if_true, if_false, ite_self, rc_0, rc_82, nl_add, nl_add', nl_mul, nI_add, in_t, cl_n, le_nn, lt_nn, le_ln, le_nl, lt_nl, lt_ln, eq_nn, eq_nl, in_lit, cl_lit, Nat.le_refl, Nat.add_zero, ga_3000, e1, e2]
theorem J_over {i : Nat} (hX : X.2.2 = .null ∨ X.2.2 = .ref 1200) (hL : X.1 ≤ 2560) (hi : i + 5 ≤ X.1) (h : RR M) : ∃ M', am_ev X kL_law 459 [.ref 3000, .ref 0, .ref 82, .int (nI i)] [] (hp M) = am_ev X kL_law 1132 [.ref 3000, .ref 0, .ref 82, .int (nI i)] [] (hp M') ∧ RR M' := by
  obtain ⟨v, M1, M2, e1, e2, r⟩ := @S_over X M h (X.2.1 (i + 1)) (X.2.1 (i + 2))
  refine ⟨M2, ?_, r⟩
  simp (disch := omega) only [iL_law_459, iL_law_460, iL_law_461, iL_law_462, iL_law_463, iL_law_464, iL_law_465, iL_law_466, iL_law_467, iL_law_468, iL_law_469, iL_law_470, iL_law_473, iL_law_474, iL_law_475, iL_law_476, iL_law_477, iL_law_478, iL_law_479, iL_law_480, iL_law_481, iL_law_482, iL_law_483, iL_law_484, iL_law_487, iL_law_490, iL_law_491, true_or, or_true, Option.bind_some, Option.bind_none, kk_hp, kn_hp, el_i, el_b, el_z, am_cat_nil, am_cat_i, am_cat_r, am_cat_l, am_cat_n, gd_i, gd_r, gd_n, gd_u, List.length_cons, List.length_nil, true_and, and_true, ↓reduceIte, Nat.zero_le, Nat.reduceLeDiff, Nat.reduceAdd, e_10, e_01, e_00, e_11, Int32.reduceLE, Int32.reduceLT, Int32.reduceAdd, Int32.reduceSub, b01, if_true, if_false, ite_self, rc_0, rc_82, nl_add, nl_add', nl_mul, nI_add, in_t, cl_n, le_nn, lt_nn, le_ln, le_nl, lt_nl, lt_ln, eq_nn, eq_nl, in_lit, cl_lit, Nat.le_refl, Nat.add_zero, ga_3000, e1, e2]
theorem J_total {i : Nat} (hX : X.2.2 = .null ∨ X.2.2 = .ref 1200) (hL : X.1 ≤ 2560) (hi : i + 5 ≤ X.1) (h : RR M) : ∃ M', am_ev X kL_law 492 [.ref 3000, .ref 0, .ref 82, .int (nI i)] [] (hp M) = am_ev X kL_law 1132 [.ref 3000, .ref 0, .ref 82, .int (nI i)] [] (hp M') ∧ RR M' := by
  obtain ⟨v, M1, M2, e1, e2, r⟩ := @S_total X M h (X.2.1 (i + 1))
  refine ⟨M2, ?_, r⟩
  simp (disch := omega) only [iL_law_492, iL_law_493, iL_law_494, iL_law_495, iL_law_496, iL_law_497, iL_law_498, iL_law_501, iL_law_502, iL_law_503, iL_law_504, iL_law_505, iL_law_506, iL_law_507, iL_law_510, iL_law_513, iL_law_514, true_or, or_true, Option.bind_some, Option.bind_none, kk_hp, kn_hp, el_i, el_b, el_z, am_cat_nil, am_cat_i, am_cat_r, am_cat_l, am_cat_n, gd_i, gd_r, gd_n, gd_u, List.length_cons, List.length_nil, true_and, and_true, ↓reduceIte, Nat.zero_le, Nat.reduceLeDiff, Nat.reduceAdd, e_10, e_01, e_00, e_11, Int32.reduceLE, Int32.reduceLT, Int32.reduceAdd, Int32.reduceSub, b01, if_true, if_false, ite_self, rc_0, rc_82, nl_add, nl_add', nl_mul, nI_add, in_t, cl_n, le_nn, lt_nn, le_ln, le_nl, lt_nl, lt_ln, eq_nn, eq_nl, in_lit, cl_lit, Nat.le_refl, Nat.add_zero, ga_3000, e1, e2]
theorem J_empty {i : Nat} (hX : X.2.2 = .null ∨ X.2.2 = .ref 1200) (hL : X.1 ≤ 2560) (hi : i + 5 ≤ X.1) (h : RR M) : ∃ M', am_ev X kL_law 515 [.ref 3000, .ref 0, .ref 82, .int (nI i)] [] (hp M) = am_ev X kL_law 1132 [.ref 3000, .ref 0, .ref 82, .int (nI i)] [] (hp M') ∧ RR M' := by
  obtain ⟨v, M1, M2, e1, e2, r⟩ := @S_empty X M h 
  refine ⟨M2, ?_, r⟩
  simp (disch := omega) only [iL_law_515, iL_law_516, iL_law_519, iL_law_520, iL_law_523, iL_law_526, iL_law_527, true_or, or_true, Option.bind_some, Option.bind_none, kk_hp, kn_hp, el_i, el_b, el_z, am_cat_nil, am_cat_i, am_cat_r, am_cat_l, am_cat_n, gd_i, gd_r, gd_n, gd_u, List.length_cons, List.length_nil, true_and, and_true, ↓reduceIte, Nat.zero_le, Nat.reduceLeDiff, Nat.reduceAdd, e_10, e_01, e_00, e_11, Int32.reduceLE, Int32.reduceLT, Int32.reduceAdd, Int32.reduceSub, b01, if_true, if_false, ite_self, rc_0, rc_82, nl_add, nl_add', nl_mul, nI_add, in_t, cl_n, le_nn, lt_nn, le_ln, le_nl, lt_nl, lt_ln, eq_nn, eq_nl, in_lit, cl_lit, Nat.le_refl, Nat.add_zero, ga_3000, e1, e2]
theorem J_hole {i : Nat} (hX : X.2.2 = .null ∨ X.2.2 = .ref 1200) (hL : X.1 ≤ 2560) (hi : i + 5 ≤ X.1) (h : RR M) : ∃ M', am_ev X kL_law 528 [.ref 3000, .ref 0, .ref 82, .int (nI i)] [] (hp M) = am_ev X kL_law 1132 [.ref 3000, .ref 0, .ref 82, .int (nI i)] [] (hp M') ∧ RR M' := by
  obtain ⟨v, M1, M2, e1, e2, r⟩ := @S_hole X M h (X.2.1 (i + 1)) (X.2.1 (i + 2))
  refine ⟨M2, ?_, r⟩
  simp (disch := omega) only [iL_law_528, iL_law_529, iL_law_530, iL_law_531, iL_law_532, iL_law_533, iL_law_534, iL_law_535, iL_law_536, iL_law_537, iL_law_538, iL_law_539, iL_law_542, iL_law_543, iL_law_544, iL_law_545, iL_law_546, iL_law_547, iL_law_548, iL_law_549, iL_law_550, iL_law_551, iL_law_552, iL_law_553, iL_law_556, iL_law_559, iL_law_560, true_or, or_true, Option.bind_some, Option.bind_none, kk_hp, kn_hp, el_i, el_b, el_z, am_cat_nil, am_cat_i, am_cat_r, am_cat_l, am_cat_n, gd_i, gd_r, gd_n, gd_u, List.length_cons, List.length_nil, true_and, and_true, ↓reduceIte, Nat.zero_le, Nat.reduceLeDiff, Nat.reduceAdd, e_10, e_01, e_00, e_11, Int32.reduceLE, Int32.reduceLT, Int32.reduceAdd, Int32.reduceSub, b01, if_true, if_false, ite_self, rc_0, rc_82, nl_add, nl_add', nl_mul, nI_add, in_t, cl_n, le_nn, lt_nn, le_ln, le_nl, lt_nl, lt_ln, eq_nn, eq_nl, in_lit, cl_lit, Nat.le_refl, Nat.add_zero, ga_3000, e1, e2]
theorem J_add {i : Nat} (hX : X.2.2 = .null ∨ X.2.2 = .ref 1200) (hL : X.1 ≤ 2560) (hi : i + 5 ≤ X.1) (h : RR M) : ∃ M', am_ev X kL_law 561 [.ref 3000, .ref 0, .ref 82, .int (nI i)] [] (hp M) = am_ev X kL_law 1132 [.ref 3000, .ref 0, .ref 82, .int (nI i)] [] (hp M') ∧ RR M' := by
  obtain ⟨v, M1, M2, e1, e2, r⟩ := @S_add X M h (X.2.1 (i + 1)) (X.2.1 (i + 2)) (X.2.1 (i + 3)) (X.2.1 (i + 4))
  refine ⟨M2, ?_, r⟩
  simp (disch := omega) only [iL_law_561, iL_law_562, iL_law_563, iL_law_564, iL_law_565, iL_law_566, iL_law_567, iL_law_568, iL_law_569, iL_law_570, iL_law_571, iL_law_572, iL_law_573, iL_law_574, iL_law_575, iL_law_576, iL_law_577, iL_law_578, iL_law_579, iL_law_580, iL_law_581, iL_law_582, iL_law_585, iL_law_586, iL_law_587, iL_law_588, iL_law_589, iL_law_590, iL_law_591, iL_law_592, iL_law_593, iL_law_594, iL_law_595, iL_law_596, iL_law_597, iL_law_598, iL_law_599, iL_law_600, iL_law_601, iL_law_602, iL_law_603, iL_law_604, iL_law_605, iL_law_606, iL_law_609, iL_law_612, iL_law_613, true_or, or_true, Option.bind_some, Option.bind_none, kk_hp, kn_hp, el_i, el_b, el_z, am_cat_nil, am_cat_i, am_cat_r, am_cat_l, am_cat_n, gd_i, gd_r, gd_n, gd_u, List.length_cons, List.length_nil, true_and, and_true, ↓reduceIte, Nat.zero_le, Nat.reduceLeDiff, Nat.reduceAdd, e_10, e_01, e_00, e_11, Int32.reduceLE, Int32.reduceLT, Int32.reduceAdd, Int32.reduceSub, b01, if_true, if_false, ite_self, rc_0, rc_82, nl_add, nl_add', nl_mul, nI_add, in_t, cl_n, le_nn, lt_nn, le_ln, le_nl, lt_nl, lt_ln, eq_nn, eq_nl, in_lit, cl_lit, Nat.le_refl, Nat.add_zero, ga_3000, e1, e2]
theorem J_drop {i : Nat} (hX : X.2.2 = .null ∨ X.2.2 = .ref 1200) (hL : X.1 ≤ 2560) (hi : i + 5 ≤ X.1) (h : RR M) : ∃ M', am_ev X kL_law 614 [.ref 3000, .ref 0, .ref 82, .int (nI i)] [] (hp M) = am_ev X kL_law 1132 [.ref 3000, .ref 0, .ref 82, .int (nI i)] [] (hp M') ∧ RR M' := by
  obtain ⟨v, M1, M2, e1, e2, r⟩ := @S_drop X M h (X.2.1 (i + 1))
  refine ⟨M2, ?_, r⟩
  simp (disch := omega) only [iL_law_614, iL_law_615, iL_law_616, iL_law_617, iL_law_618, iL_law_619, iL_law_620, iL_law_623, iL_law_624, iL_law_625, iL_law_626, iL_law_627, iL_law_628, iL_law_629, iL_law_632, iL_law_635, iL_law_636, true_or, or_true, Option.bind_some, Option.bind_none, kk_hp, kn_hp, el_i, el_b, el_z, am_cat_nil, am_cat_i, am_cat_r, am_cat_l, am_cat_n, gd_i, gd_r, gd_n, gd_u, List.length_cons, List.length_nil, true_and, and_true, ↓reduceIte, Nat.zero_le, Nat.reduceLeDiff, Nat.reduceAdd, e_10, e_01, e_00, e_11, Int32.reduceLE, Int32.reduceLT, Int32.reduceAdd, Int32.reduceSub, b01, if_true, if_false, ite_self, rc_0, rc_82, nl_add, nl_add', nl_mul, nI_add, in_t, cl_n, le_nn, lt_nn, le_ln, le_nl, lt_nl, lt_ln, eq_nn, eq_nl, in_lit, cl_lit, Nat.le_refl, Nat.add_zero, ga_3000, e1, e2]
theorem J_pin {i : Nat} (hX : X.2.2 = .null ∨ X.2.2 = .ref 1200) (hL : X.1 ≤ 2560) (hi : i + 5 ≤ X.1) (h : RR M) : ∃ M', am_ev X kL_law 637 [.ref 3000, .ref 0, .ref 82, .int (nI i)] [] (hp M) = am_ev X kL_law 1132 [.ref 3000, .ref 0, .ref 82, .int (nI i)] [] (hp M') ∧ RR M' := by
  obtain ⟨v, M1, M2, e1, e2, r⟩ := @S_pin X M h (X.2.1 (i + 1)) (X.2.1 (i + 2)) (X.2.1 (i + 3))
  refine ⟨M2, ?_, r⟩
  simp (disch := omega) only [iL_law_637, iL_law_638, iL_law_639, iL_law_640, iL_law_641, iL_law_642, iL_law_643, iL_law_644, iL_law_645, iL_law_646, iL_law_647, iL_law_648, iL_law_649, iL_law_650, iL_law_651, iL_law_652, iL_law_653, iL_law_656, iL_law_657, iL_law_658, iL_law_659, iL_law_660, iL_law_661, iL_law_662, iL_law_663, iL_law_664, iL_law_665, iL_law_666, iL_law_667, iL_law_668, iL_law_669, iL_law_670, iL_law_671, iL_law_672, iL_law_675, iL_law_678, iL_law_679, true_or, or_true, Option.bind_some, Option.bind_none, kk_hp, kn_hp, el_i, el_b, el_z, am_cat_nil, am_cat_i, am_cat_r, am_cat_l, am_cat_n, gd_i, gd_r, gd_n, gd_u, List.length_cons, List.length_nil, true_and, and_true, ↓reduceIte, Nat.zero_le, Nat.reduceLeDiff, Nat.reduceAdd, e_10, e_01, e_00, e_11, Int32.reduceLE, Int32.reduceLT, Int32.reduceAdd, Int32.reduceSub, b01, if_true, if_false, ite_self, rc_0, rc_82, nl_add, nl_add', nl_mul, nI_add, in_t, cl_n, le_nn, lt_nn, le_ln, le_nl, lt_nl, lt_ln, eq_nn, eq_nl, in_lit, cl_lit, Nat.le_refl, Nat.add_zero, ga_3000, e1, e2]
theorem J_set {i : Nat} (hX : X.2.2 = .null ∨ X.2.2 = .ref 1200) (hL : X.1 ≤ 2560) (hi : i + 5 ≤ X.1) (h : RR M) : ∃ M', am_ev X kL_law 680 [.ref 3000, .ref 0, .ref 82, .int (nI i)] [] (hp M) = am_ev X kL_law 1132 [.ref 3000, .ref 0, .ref 82, .int (nI i)] [] (hp M') ∧ RR M' := by
  obtain ⟨v, M1, M2, e1, e2, r⟩ := @S_set X M h (X.2.1 (i + 1)) (X.2.1 (i + 2)) (X.2.1 (i + 3))
  refine ⟨M2, ?_, r⟩
  simp (disch := omega) only [iL_law_680, iL_law_681, iL_law_682, iL_law_683, iL_law_684, iL_law_685, iL_law_686, iL_law_687, iL_law_688, iL_law_689, iL_law_690, iL_law_691, iL_law_692, iL_law_693, iL_law_694, iL_law_695, iL_law_696, iL_law_699, iL_law_700, iL_law_701, iL_law_702, iL_law_703, iL_law_704, iL_law_705, iL_law_706, iL_law_707, iL_law_708, iL_law_709, iL_law_710, iL_law_711, iL_law_712, iL_law_713, iL_law_714, iL_law_715, iL_law_718, iL_law_721, iL_law_722, true_or, or_true, Option.bind_some, Option.bind_none, kk_hp, kn_hp, el_i, el_b, el_z, am_cat_nil, am_cat_i, am_cat_r, am_cat_l, am_cat_n, gd_i, gd_r, gd_n, gd_u, List.length_cons, List.length_nil, true_and, and_true, ↓reduceIte, Nat.zero_le, Nat.reduceLeDiff, Nat.reduceAdd, e_10, e_01, e_00, e_11, Int32.reduceLE, Int32.reduceLT, Int32.reduceAdd, Int32.reduceSub, b01, if_true, if_false, ite_self, rc_0, rc_82, nl_add, nl_add', nl_mul, nI_add, in_t, cl_n, le_nn, lt_nn, le_ln, le_nl, lt_nl, lt_ln, eq_nn, eq_nl, in_lit, cl_lit, Nat.le_refl, Nat.add_zero, ga_3000, e1, e2]
theorem J_swap {i : Nat} (hX : X.2.2 = .null ∨ X.2.2 = .ref 1200) (hL : X.1 ≤ 2560) (hi : i + 5 ≤ X.1) (h : RR M) : ∃ M', am_ev X kL_law 723 [.ref 3000, .ref 0, .ref 82, .int (nI i)] [] (hp M) = am_ev X kL_law 1132 [.ref 3000, .ref 0, .ref 82, .int (nI i)] [] (hp M') ∧ RR M' := by
  obtain ⟨v, M1, M2, e1, e2, r⟩ := @S_swap X M h (X.2.1 (i + 1)) (X.2.1 (i + 2))
  refine ⟨M2, ?_, r⟩
  simp (disch := omega) only [iL_law_723, iL_law_724, iL_law_725, iL_law_726, iL_law_727, iL_law_728, iL_law_729, iL_law_730, iL_law_731, iL_law_732, iL_law_733, iL_law_734, iL_law_737, iL_law_738, iL_law_739, iL_law_740, iL_law_741, iL_law_742, iL_law_743, iL_law_744, iL_law_745, iL_law_746, iL_law_747, iL_law_748, iL_law_751, iL_law_754, iL_law_755, true_or, or_true, Option.bind_some, Option.bind_none, kk_hp, kn_hp, el_i, el_b, el_z, am_cat_nil, am_cat_i, am_cat_r, am_cat_l, am_cat_n, gd_i, gd_r, gd_n, gd_u, List.length_cons, List.length_nil, true_and, and_true, ↓reduceIte, Nat.zero_le, Nat.reduceLeDiff, Nat.reduceAdd, e_10, e_01, e_00, e_11, Int32.reduceLE, Int32.reduceLT, Int32.reduceAdd, Int32.reduceSub, b01, if_true, if_false, ite_self, rc_0, rc_82, nl_add, nl_add', nl_mul, nI_add, in_t, cl_n, le_nn, lt_nn, le_ln, le_nl, lt_nl, lt_ln, eq_nn, eq_nl, in_lit, cl_lit, Nat.le_refl, Nat.add_zero, ga_3000, e1, e2]
theorem J_track {i : Nat} (hX : X.2.2 = .null ∨ X.2.2 = .ref 1200) (hL : X.1 ≤ 2560) (hi : i + 5 ≤ X.1) (h : RR M) : ∃ M', am_ev X kL_law 756 [.ref 3000, .ref 0, .ref 82, .int (nI i)] [] (hp M) = am_ev X kL_law 1132 [.ref 3000, .ref 0, .ref 82, .int (nI i)] [] (hp M') ∧ RR M' := by
  obtain ⟨v, M1, M2, e1, e2, r⟩ := @S_track X M h (X.2.1 (i + 1)) (X.2.1 (i + 2)) (X.2.1 (i + 3))
  refine ⟨M2, ?_, r⟩
  simp (disch := omega) only [iL_law_756, iL_law_757, iL_law_758, iL_law_759, iL_law_760, iL_law_761, iL_law_762, iL_law_763, iL_law_764, iL_law_765, iL_law_766, iL_law_767, iL_law_768, iL_law_769, iL_law_770, iL_law_771, iL_law_772, iL_law_775, iL_law_776, iL_law_777, iL_law_778, iL_law_779, iL_law_780, iL_law_781, iL_law_782, iL_law_783, iL_law_784, iL_law_785, iL_law_786, iL_law_787, iL_law_788, iL_law_789, iL_law_790, iL_law_791, iL_law_794, iL_law_797, iL_law_798, true_or, or_true, Option.bind_some, Option.bind_none, kk_hp, kn_hp, el_i, el_b, el_z, am_cat_nil, am_cat_i, am_cat_r, am_cat_l, am_cat_n, gd_i, gd_r, gd_n, gd_u, List.length_cons, List.length_nil, true_and, and_true, ↓reduceIte, Nat.zero_le, Nat.reduceLeDiff, Nat.reduceAdd, e_10, e_01, e_00, e_11, Int32.reduceLE, Int32.reduceLT, Int32.reduceAdd, Int32.reduceSub, b01, if_true, if_false, ite_self, rc_0, rc_82, nl_add, nl_add', nl_mul, nI_add, in_t, cl_n, le_nn, lt_nn, le_ln, le_nl, lt_nl, lt_ln, eq_nn, eq_nl, in_lit, cl_lit, Nat.le_refl, Nat.add_zero, ga_3000, e1, e2]
theorem J_width {i : Nat} (hX : X.2.2 = .null ∨ X.2.2 = .ref 1200) (hL : X.1 ≤ 2560) (hi : i + 5 ≤ X.1) (h : RR M) : ∃ M', am_ev X kL_law 799 [.ref 3000, .ref 0, .ref 82, .int (nI i)] [] (hp M) = am_ev X kL_law 1132 [.ref 3000, .ref 0, .ref 82, .int (nI i)] [] (hp M') ∧ RR M' := by
  obtain ⟨v, M1, M2, e1, e2, r⟩ := @S_width X M h (X.2.1 (i + 1))
  refine ⟨M2, ?_, r⟩
  simp (disch := omega) only [iL_law_799, iL_law_800, iL_law_801, iL_law_802, iL_law_803, iL_law_804, iL_law_805, iL_law_808, iL_law_809, iL_law_810, iL_law_811, iL_law_812, iL_law_813, iL_law_814, iL_law_817, iL_law_820, iL_law_821, true_or, or_true, Option.bind_some, Option.bind_none, kk_hp, kn_hp, el_i, el_b, el_z, am_cat_nil, am_cat_i, am_cat_r, am_cat_l, am_cat_n, gd_i, gd_r, gd_n, gd_u, List.length_cons, List.length_nil, true_and, and_true, ↓reduceIte, Nat.zero_le, Nat.reduceLeDiff, Nat.reduceAdd, e_10, e_01, e_00, e_11, Int32.reduceLE, Int32.reduceLT, Int32.reduceAdd, Int32.reduceSub, b01, if_true, if_false, ite_self, rc_0, rc_82, nl_add, nl_add', nl_mul, nI_add, in_t, cl_n, le_nn, lt_nn, le_ln, le_nl, lt_nl, lt_ln, eq_nn, eq_nl, in_lit, cl_lit, Nat.le_refl, Nat.add_zero, ga_3000, e1, e2]
theorem J_gap {i : Nat} (hX : X.2.2 = .null ∨ X.2.2 = .ref 1200) (hL : X.1 ≤ 2560) (hi : i + 5 ≤ X.1) (h : RR M) : ∃ M', am_ev X kL_law 822 [.ref 3000, .ref 0, .ref 82, .int (nI i)] [] (hp M) = am_ev X kL_law 1132 [.ref 3000, .ref 0, .ref 82, .int (nI i)] [] (hp M') ∧ RR M' := by
  obtain ⟨v, M1, M2, e1, e2, r⟩ := @S_gap X M h (X.2.1 (i + 1)) (X.2.1 (i + 2))
  refine ⟨M2, ?_, r⟩
  simp (disch := omega) only [iL_law_822, iL_law_823, iL_law_824, iL_law_825, iL_law_826, iL_law_827, iL_law_828, iL_law_829, iL_law_830, iL_law_831, iL_law_832, iL_law_833, iL_law_836, iL_law_837, iL_law_838, iL_law_839, iL_law_840, iL_law_841, iL_law_842, iL_law_843, iL_law_844, iL_law_845, iL_law_846, iL_law_847, iL_law_850, iL_law_853, iL_law_854, true_or, or_true, Option.bind_some, Option.bind_none, kk_hp, kn_hp, el_i, el_b, el_z, am_cat_nil, am_cat_i, am_cat_r, am_cat_l, am_cat_n, gd_i, gd_r, gd_n, gd_u, List.length_cons, List.length_nil, true_and, and_true, ↓reduceIte, Nat.zero_le, Nat.reduceLeDiff, Nat.reduceAdd, e_10, e_01, e_00, e_11, Int32.reduceLE, Int32.reduceLT, Int32.reduceAdd, Int32.reduceSub, b01, if_true, if_false, ite_self, rc_0, rc_82, nl_add, nl_add', nl_mul, nI_add, in_t, cl_n, le_nn, lt_nn, le_ln, le_nl, lt_nl, lt_ln, eq_nn, eq_nl, in_lit, cl_lit, Nat.le_refl, Nat.add_zero, ga_3000, e1, e2]
theorem J_high {i : Nat} (hX : X.2.2 = .null ∨ X.2.2 = .ref 1200) (hL : X.1 ≤ 2560) (hi : i + 5 ≤ X.1) (h : RR M) : ∃ M', am_ev X kL_law 855 [.ref 3000, .ref 0, .ref 82, .int (nI i)] [] (hp M) = am_ev X kL_law 1132 [.ref 3000, .ref 0, .ref 82, .int (nI i)] [] (hp M') ∧ RR M' := by
  obtain ⟨v, M1, M2, e1, e2, r⟩ := @S_high X M h (X.2.1 (i + 1))
  refine ⟨M2, ?_, r⟩
  simp (disch := omega) only [iL_law_855, iL_law_856, iL_law_857, iL_law_858, iL_law_859, iL_law_860, iL_law_861, iL_law_864, iL_law_865, iL_law_866, iL_law_867, iL_law_868, iL_law_869, iL_law_870, iL_law_873, iL_law_876, iL_law_877, true_or, or_true, Option.bind_some, Option.bind_none, kk_hp, kn_hp, el_i, el_b, el_z, am_cat_nil, am_cat_i, am_cat_r, am_cat_l, am_cat_n, gd_i, gd_r, gd_n, gd_u, List.length_cons, List.length_nil, true_and, and_true, ↓reduceIte, Nat.zero_le, Nat.reduceLeDiff, Nat.reduceAdd, e_10, e_01, e_00, e_11, Int32.reduceLE, Int32.reduceLT, Int32.reduceAdd, Int32.reduceSub, b01, if_true, if_false, ite_self, rc_0, rc_82, nl_add, nl_add', nl_mul, nI_add, in_t, cl_n, le_nn, lt_nn, le_ln, le_nl, lt_nl, lt_ln, eq_nn, eq_nl, in_lit, cl_lit, Nat.le_refl, Nat.add_zero, ga_3000, e1, e2]
theorem J_scatter {i : Nat} (hX : X.2.2 = .null ∨ X.2.2 = .ref 1200) (hL : X.1 ≤ 2560) (hi : i + 5 ≤ X.1) (h : RR M) : ∃ M', am_ev X kL_law 878 [.ref 3000, .ref 0, .ref 82, .int (nI i)] [] (hp M) = am_ev X kL_law 1132 [.ref 3000, .ref 0, .ref 82, .int (nI i)] [] (hp M') ∧ RR M' := by
  obtain ⟨v, M1, M2, e1, e2, r⟩ := @S_scatter X M h (X.2.1 (i + 1)) (X.2.1 (i + 2))
  refine ⟨M2, ?_, r⟩
  simp (disch := omega) only [iL_law_878, iL_law_879, iL_law_880, iL_law_881, iL_law_882, iL_law_883, iL_law_884, iL_law_885, iL_law_886, iL_law_887, iL_law_888, iL_law_889, iL_law_892, iL_law_893, iL_law_894, iL_law_895, iL_law_896, iL_law_897, iL_law_898, iL_law_899, iL_law_900, iL_law_901, iL_law_902, iL_law_903, iL_law_906, iL_law_909, iL_law_910, true_or, or_true, Option.bind_some, Option.bind_none, kk_hp, kn_hp, el_i, el_b, el_z, am_cat_nil, am_cat_i, am_cat_r, am_cat_l, am_cat_n, gd_i, gd_r, gd_n, gd_u, List.length_cons, List.length_nil, true_and, and_true, ↓reduceIte, Nat.zero_le, Nat.reduceLeDiff, Nat.reduceAdd, e_10, e_01, e_00, e_11, Int32.reduceLE, Int32.reduceLT, Int32.reduceAdd, Int32.reduceSub, b01, if_true, if_false, ite_self, rc_0, rc_82, nl_add, nl_add', nl_mul, nI_add, in_t, cl_n, le_nn, lt_nn, le_ln, le_nl, lt_nl, lt_ln, eq_nn, eq_nl, in_lit, cl_lit, Nat.le_refl, Nat.add_zero, ga_3000, e1, e2]
theorem J_keep {i : Nat} (hX : X.2.2 = .null ∨ X.2.2 = .ref 1200) (hL : X.1 ≤ 2560) (hi : i + 5 ≤ X.1) (h : RR M) : ∃ M', am_ev X kL_law 911 [.ref 3000, .ref 0, .ref 82, .int (nI i)] [] (hp M) = am_ev X kL_law 1132 [.ref 3000, .ref 0, .ref 82, .int (nI i)] [] (hp M') ∧ RR M' := by
  obtain ⟨v, M1, M2, e1, e2, r⟩ := @S_keep X M h (X.2.1 (i + 1))
  refine ⟨M2, ?_, r⟩
  simp (disch := omega) only [iL_law_911, iL_law_912, iL_law_913, iL_law_914, iL_law_915, iL_law_916, iL_law_917, iL_law_920, iL_law_921, iL_law_922, iL_law_923, iL_law_924, iL_law_925, iL_law_926, iL_law_929, iL_law_932, iL_law_933, true_or, or_true, Option.bind_some, Option.bind_none, kk_hp, kn_hp, el_i, el_b, el_z, am_cat_nil, am_cat_i, am_cat_r, am_cat_l, am_cat_n, gd_i, gd_r, gd_n, gd_u, List.length_cons, List.length_nil, true_and, and_true, ↓reduceIte, Nat.zero_le, Nat.reduceLeDiff, Nat.reduceAdd, e_10, e_01, e_00, e_11, Int32.reduceLE, Int32.reduceLT, Int32.reduceAdd, Int32.reduceSub, b01, if_true, if_false, ite_self, rc_0, rc_82, nl_add, nl_add', nl_mul, nI_add, in_t, cl_n, le_nn, lt_nn, le_ln, le_nl, lt_nl, lt_ln, eq_nn, eq_nl, in_lit, cl_lit, Nat.le_refl, Nat.add_zero, ga_3000, e1, e2]
theorem J_back {i : Nat} (hX : X.2.2 = .null ∨ X.2.2 = .ref 1200) (hL : X.1 ≤ 2560) (hi : i + 5 ≤ X.1) (h : RR M) : ∃ M', am_ev X kL_law 934 [.ref 3000, .ref 0, .ref 82, .int (nI i)] [] (hp M) = am_ev X kL_law 1132 [.ref 3000, .ref 0, .ref 82, .int (nI i)] [] (hp M') ∧ RR M' := by
  obtain ⟨v, M1, M2, e1, e2, r⟩ := @S_back X M h (X.2.1 (i + 1))
  refine ⟨M2, ?_, r⟩
  simp (disch := omega) only [iL_law_934, iL_law_935, iL_law_936, iL_law_937, iL_law_938, iL_law_939, iL_law_940, iL_law_943, iL_law_944, iL_law_945, iL_law_946, iL_law_947, iL_law_948, iL_law_949, iL_law_952, iL_law_955, iL_law_956, true_or, or_true, Option.bind_some, Option.bind_none, kk_hp, kn_hp, el_i, el_b, el_z, am_cat_nil, am_cat_i, am_cat_r, am_cat_l, am_cat_n, gd_i, gd_r, gd_n, gd_u, List.length_cons, List.length_nil, true_and, and_true, ↓reduceIte, Nat.zero_le, Nat.reduceLeDiff, Nat.reduceAdd, e_10, e_01, e_00, e_11, Int32.reduceLE, Int32.reduceLT, Int32.reduceAdd, Int32.reduceSub, b01, if_true, if_false, ite_self, rc_0, rc_82, nl_add, nl_add', nl_mul, nI_add, in_t, cl_n, le_nn, lt_nn, le_ln, le_nl, lt_nl, lt_ln, eq_nn, eq_nl, in_lit, cl_lit, Nat.le_refl, Nat.add_zero, ga_3000, e1, e2]
theorem J_sheet {i : Nat} (hX : X.2.2 = .null ∨ X.2.2 = .ref 1200) (hL : X.1 ≤ 2560) (hi : i + 5 ≤ X.1) (h : RR M) : ∃ M', am_ev X kL_law 957 [.ref 3000, .ref 0, .ref 82, .int (nI i)] [] (hp M) = am_ev X kL_law 1132 [.ref 3000, .ref 0, .ref 82, .int (nI i)] [] (hp M') ∧ RR M' := by
  obtain ⟨v, M1, M2, e1, e2, r⟩ := @S_sheet X M h (X.2.1 (i + 1)) (X.2.1 (i + 2)) (X.2.1 (i + 3))
  refine ⟨M2, ?_, r⟩
  simp (disch := omega) only [iL_law_957, iL_law_958, iL_law_959, iL_law_960, iL_law_961, iL_law_962, iL_law_963, iL_law_964, iL_law_965, iL_law_966, iL_law_967, iL_law_968, iL_law_969, iL_law_970, iL_law_971, iL_law_972, iL_law_973, iL_law_976, iL_law_977, iL_law_978, iL_law_979, iL_law_980, iL_law_981, iL_law_982, iL_law_983, iL_law_984, iL_law_985, iL_law_986, iL_law_987, iL_law_988, iL_law_989, iL_law_990, iL_law_991, iL_law_992, iL_law_995, iL_law_998, iL_law_999, true_or, or_true, Option.bind_some, Option.bind_none, kk_hp, kn_hp, el_i, el_b, el_z, am_cat_nil, am_cat_i, am_cat_r, am_cat_l, am_cat_n, gd_i, gd_r, gd_n, gd_u, List.length_cons, List.length_nil, true_and, and_true, ↓reduceIte, Nat.zero_le, Nat.reduceLeDiff, Nat.reduceAdd, e_10, e_01, e_00, e_11, Int32.reduceLE, Int32.reduceLT, Int32.reduceAdd, Int32.reduceSub, b01, if_true, if_false, ite_self, rc_0, rc_82, nl_add, nl_add', nl_mul, nI_add, in_t, cl_n, le_nn, lt_nn, le_ln, le_nl, lt_nl, lt_ln, eq_nn, eq_nl, in_lit, cl_lit, Nat.le_refl, Nat.add_zero, ga_3000, e1, e2]
theorem J_lay {i : Nat} (hX : X.2.2 = .null ∨ X.2.2 = .ref 1200) (hL : X.1 ≤ 2560) (hi : i + 5 ≤ X.1) (h : RR M) : ∃ M', am_ev X kL_law 1000 [.ref 3000, .ref 0, .ref 82, .int (nI i)] [] (hp M) = am_ev X kL_law 1132 [.ref 3000, .ref 0, .ref 82, .int (nI i)] [] (hp M') ∧ RR M' := by
  obtain ⟨v, M1, M2, e1, e2, r⟩ := @S_lay X M h (X.2.1 (i + 1)) (X.2.1 (i + 2)) (X.2.1 (i + 3))
  refine ⟨M2, ?_, r⟩
  simp (disch := omega) only [iL_law_1000, iL_law_1001, iL_law_1002, iL_law_1003, iL_law_1004, iL_law_1005, iL_law_1006, iL_law_1007, iL_law_1008, iL_law_1009, iL_law_1010, iL_law_1011, iL_law_1012, iL_law_1013, iL_law_1014, iL_law_1015, iL_law_1016, iL_law_1019, iL_law_1020, iL_law_1021, iL_law_1022, iL_law_1023, iL_law_1024, iL_law_1025, iL_law_1026, iL_law_1027, iL_law_1028, iL_law_1029, iL_law_1030, iL_law_1031, iL_law_1032, iL_law_1033, iL_law_1034, iL_law_1035, iL_law_1038, iL_law_1041, iL_law_1042, true_or, or_true, Option.bind_some, Option.bind_none, kk_hp, kn_hp, el_i, el_b, el_z, am_cat_nil, am_cat_i, am_cat_r, am_cat_l, am_cat_n, gd_i, gd_r, gd_n, gd_u, List.length_cons, List.length_nil, true_and, and_true, ↓reduceIte, Nat.zero_le, Nat.reduceLeDiff, Nat.reduceAdd, e_10, e_01, e_00, e_11, Int32.reduceLE, Int32.reduceLT, Int32.reduceAdd, Int32.reduceSub, b01, if_true, if_false, ite_self, rc_0, rc_82, nl_add, nl_add', nl_mul, nI_add, in_t, cl_n, le_nn, lt_nn, le_ln, le_nl, lt_nl, lt_ln, eq_nn, eq_nl, in_lit, cl_lit, Nat.le_refl, Nat.add_zero, ga_3000, e1, e2]
theorem J_read {i : Nat} (hX : X.2.2 = .null ∨ X.2.2 = .ref 1200) (hL : X.1 ≤ 2560) (hi : i + 5 ≤ X.1) (h : RR M) : ∃ M', am_ev X kL_law 1043 [.ref 3000, .ref 0, .ref 82, .int (nI i)] [] (hp M) = am_ev X kL_law 1132 [.ref 3000, .ref 0, .ref 82, .int (nI i)] [] (hp M') ∧ RR M' := by
  obtain ⟨v, M1, M2, e1, e2, r⟩ := @S_read X M h (X.2.1 (i + 1)) (X.2.1 (i + 2)) (X.2.1 (i + 3)) (X.2.1 (i + 4))
  refine ⟨M2, ?_, r⟩
  simp (disch := omega) only [iL_law_1043, iL_law_1044, iL_law_1045, iL_law_1046, iL_law_1047, iL_law_1048, iL_law_1049, iL_law_1050, iL_law_1051, iL_law_1052, iL_law_1053, iL_law_1054, iL_law_1055, iL_law_1056, iL_law_1057, iL_law_1058, iL_law_1059, iL_law_1060, iL_law_1061, iL_law_1062, iL_law_1063, iL_law_1064, iL_law_1067, iL_law_1068, iL_law_1069, iL_law_1070, iL_law_1071, iL_law_1072, iL_law_1073, iL_law_1074, iL_law_1075, iL_law_1076, iL_law_1077, iL_law_1078, iL_law_1079, iL_law_1080, iL_law_1081, iL_law_1082, iL_law_1083, iL_law_1084, iL_law_1085, iL_law_1086, iL_law_1087, iL_law_1088, iL_law_1091, iL_law_1094, iL_law_1095, true_or, or_true, Option.bind_some, Option.bind_none, kk_hp, kn_hp, el_i, el_b, el_z, am_cat_nil, am_cat_i, am_cat_r, am_cat_l, am_cat_n, gd_i, gd_r, gd_n, gd_u, List.length_cons, List.length_nil, true_and, and_true, ↓reduceIte, Nat.zero_le, Nat.reduceLeDiff, Nat.reduceAdd, e_10, e_01, e_00, e_11, Int32.reduceLE, Int32.reduceLT, Int32.reduceAdd, Int32.reduceSub, b01, if_true, if_false, ite_self, rc_0, rc_82, nl_add, nl_add', nl_mul, nI_add, in_t, cl_n, le_nn, lt_nn, le_ln, le_nl, lt_nl, lt_ln, eq_nn, eq_nl, in_lit, cl_lit, Nat.le_refl, Nat.add_zero, ga_3000, e1, e2]
theorem J_torn {i : Nat} (hX : X.2.2 = .null ∨ X.2.2 = .ref 1200) (hL : X.1 ≤ 2560) (hi : i + 5 ≤ X.1) (h : RR M) : ∃ M', am_ev X kL_law 1096 [.ref 3000, .ref 0, .ref 82, .int (nI i)] [] (hp M) = am_ev X kL_law 1132 [.ref 3000, .ref 0, .ref 82, .int (nI i)] [] (hp M') ∧ RR M' := by
  obtain ⟨v, M1, M2, e1, e2, r⟩ := @S_torn X M h 
  refine ⟨M2, ?_, r⟩
  simp (disch := omega) only [iL_law_1096, iL_law_1097, iL_law_1100, iL_law_1101, iL_law_1104, iL_law_1107, iL_law_1108, true_or, or_true, Option.bind_some, Option.bind_none, kk_hp, kn_hp, el_i, el_b, el_z, am_cat_nil, am_cat_i, am_cat_r, am_cat_l, am_cat_n, gd_i, gd_r, gd_n, gd_u, List.length_cons, List.length_nil, true_and, and_true, ↓reduceIte, Nat.zero_le, Nat.reduceLeDiff, Nat.reduceAdd, e_10, e_01, e_00, e_11, Int32.reduceLE, Int32.reduceLT, Int32.reduceAdd, Int32.reduceSub, b01, if_true, if_false, ite_self, rc_0, rc_82, nl_add, nl_add', nl_mul, nI_add, in_t, cl_n, le_nn, lt_nn, le_ln, le_nl, lt_nl, lt_ln, eq_nn, eq_nl, in_lit, cl_lit, Nat.le_refl, Nat.add_zero, ga_3000, e1, e2]
theorem J_count {i : Nat} (hX : X.2.2 = .null ∨ X.2.2 = .ref 1200) (hL : X.1 ≤ 2560) (hi : i + 5 ≤ X.1) (h : RR M) : ∃ M', am_ev X kL_law 1109 [.ref 3000, .ref 0, .ref 82, .int (nI i)] [] (hp M) = am_ev X kL_law 1132 [.ref 3000, .ref 0, .ref 82, .int (nI i)] [] (hp M') ∧ RR M' := by
  obtain ⟨v, M1, M2, e1, e2, r⟩ := @S_count X M h (X.2.1 (i + 1))
  refine ⟨M2, ?_, r⟩
  simp (disch := omega) only [iL_law_1109, iL_law_1110, iL_law_1111, iL_law_1112, iL_law_1113, iL_law_1114, iL_law_1115, iL_law_1118, iL_law_1119, iL_law_1120, iL_law_1121, iL_law_1122, iL_law_1123, iL_law_1124, iL_law_1127, iL_law_1130, iL_law_1131, true_or, or_true, Option.bind_some, Option.bind_none, kk_hp, kn_hp, el_i, el_b, el_z, am_cat_nil, am_cat_i, am_cat_r, am_cat_l, am_cat_n, gd_i, gd_r, gd_n, gd_u, List.length_cons, List.length_nil, true_and, and_true, ↓reduceIte, Nat.zero_le, Nat.reduceLeDiff, Nat.reduceAdd, e_10, e_01, e_00, e_11, Int32.reduceLE, Int32.reduceLT, Int32.reduceAdd, Int32.reduceSub, b01, if_true, if_false, ite_self, rc_0, rc_82, nl_add, nl_add', nl_mul, nI_add, in_t, cl_n, le_nn, lt_nn, le_ln, le_nl, lt_nl, lt_ln, eq_nn, eq_nl, in_lit, cl_lit, Nat.le_refl, Nat.add_zero, ga_3000, e1, e2]
theorem law_step {i : Nat} (hX : X.2.2 = .null ∨ X.2.2 = .ref 1200) (hL : X.1 ≤ 2560) (hi : i + 5 ≤ X.1) (h : RR M) : ∃ M', am_ev X kL_law 18 [.ref 3000, .ref 0, .ref 82, .int (nI i)] [] (hp M) = am_ev X kL_law 18 [.ref 3000, .ref 0, .ref 82, .int (nI (i + 5))] [] (hp M') ∧ RR M' := by
  have key : ∃ M', am_ev X kL_law 32 [.ref 3000, .ref 0, .ref 82, .int (nI i)] [.int (X.2.1 i &&& 31)] (hp M) = am_ev X kL_law 1132 [.ref 3000, .ref 0, .ref 82, .int (nI i)] [] (hp M') ∧ RR M' := by
    generalize X.2.1 i &&& 31 = x
    rw [iL_law_32]
    by_cases h0 : x = 0
    · rw [if_pos h0]; exact J_feed hX hL hi h
    rw [if_neg h0]
    by_cases h1 : x = 1
    · rw [if_pos h1]; exact J_end hX hL hi h
    rw [if_neg h1]
    by_cases h2 : x = 2
    · rw [if_pos h2]; exact J_text hX hL hi h
    rw [if_neg h2]
    by_cases h3 : x = 3
    · rw [if_pos h3]; exact J_fault hX hL hi h
    rw [if_neg h3]
    by_cases h4 : x = 4
    · rw [if_pos h4]; exact J_rule hX hL hi h
    rw [if_neg h4]
    by_cases h5 : x = 5
    · rw [if_pos h5]; exact J_column hX hL hi h
    rw [if_neg h5]
    by_cases h6 : x = 6
    · rw [if_pos h6]; exact J_row hX hL hi h
    rw [if_neg h6]
    by_cases h7 : x = 7
    · rw [if_pos h7]; exact J_item hX hL hi h
    rw [if_neg h7]
    by_cases h8 : x = 8
    · rw [if_pos h8]; exact J_line hX hL hi h
    rw [if_neg h8]
    by_cases h9 : x = 9
    · rw [if_pos h9]; exact J_at hX hL hi h
    rw [if_neg h9]
    by_cases h10 : x = 10
    · rw [if_pos h10]; exact J_box hX hL hi h
    rw [if_neg h10]
    by_cases h11 : x = 11
    · rw [if_pos h11]; exact J_over hX hL hi h
    rw [if_neg h11]
    by_cases h12 : x = 12
    · rw [if_pos h12]; exact J_total hX hL hi h
    rw [if_neg h12]
    by_cases h13 : x = 13
    · rw [if_pos h13]; exact J_empty hX hL hi h
    rw [if_neg h13]
    by_cases h14 : x = 14
    · rw [if_pos h14]; exact J_hole hX hL hi h
    rw [if_neg h14]
    by_cases h15 : x = 15
    · rw [if_pos h15]; exact J_add hX hL hi h
    rw [if_neg h15]
    by_cases h16 : x = 16
    · rw [if_pos h16]; exact J_drop hX hL hi h
    rw [if_neg h16]
    by_cases h17 : x = 17
    · rw [if_pos h17]; exact J_pin hX hL hi h
    rw [if_neg h17]
    by_cases h18 : x = 18
    · rw [if_pos h18]; exact J_set hX hL hi h
    rw [if_neg h18]
    by_cases h19 : x = 19
    · rw [if_pos h19]; exact J_swap hX hL hi h
    rw [if_neg h19]
    by_cases h20 : x = 20
    · rw [if_pos h20]; exact J_track hX hL hi h
    rw [if_neg h20]
    by_cases h21 : x = 21
    · rw [if_pos h21]; exact J_width hX hL hi h
    rw [if_neg h21]
    by_cases h22 : x = 22
    · rw [if_pos h22]; exact J_gap hX hL hi h
    rw [if_neg h22]
    by_cases h23 : x = 23
    · rw [if_pos h23]; exact J_high hX hL hi h
    rw [if_neg h23]
    by_cases h24 : x = 24
    · rw [if_pos h24]; exact J_scatter hX hL hi h
    rw [if_neg h24]
    by_cases h25 : x = 25
    · rw [if_pos h25]; exact J_keep hX hL hi h
    rw [if_neg h25]
    by_cases h26 : x = 26
    · rw [if_pos h26]; exact J_back hX hL hi h
    rw [if_neg h26]
    by_cases h27 : x = 27
    · rw [if_pos h27]; exact J_sheet hX hL hi h
    rw [if_neg h27]
    by_cases h28 : x = 28
    · rw [if_pos h28]; exact J_lay hX hL hi h
    rw [if_neg h28]
    by_cases h29 : x = 29
    · rw [if_pos h29]; exact J_read hX hL hi h
    rw [if_neg h29]
    by_cases h30 : x = 30
    · rw [if_pos h30]; exact J_torn hX hL hi h
    rw [if_neg h30]
    by_cases h31 : x = 31
    · rw [if_pos h31]; exact J_count hX hL hi h
    rw [if_neg h31]
    exact ⟨M, rfl, h⟩
  obtain ⟨M', e, r⟩ := key
  refine ⟨M', ?_, r⟩
  have hc : ¬ nI X.1 - 5 < nI i := by rw [nl_sub' (show 5 ≤ X.1 by omega), lt_nn (by omega) (by omega)]; show ¬ X.1 - 5 < i; omega
  have e0 : am_ev X kL_law 18 [.ref 3000, .ref 0, .ref 82, .int (nI i)] [] (hp M) = am_ev X kL_law 32 [.ref 3000, .ref 0, .ref 82, .int (nI i)] [.int (X.2.1 i &&& 31)] (hp M) := by
    simp (disch := omega) only [iL_law_18, iL_law_19, iL_law_20, iL_law_21, iL_law_22, iL_law_23, iL_law_26, iL_law_27, iL_law_28, iL_law_29, iL_law_31, true_or, or_true, Option.bind_some, Option.bind_none, kk_hp, kn_hp, el_i, el_b, el_z, am_cat_nil, am_cat_i, am_cat_r, am_cat_l, am_cat_n, gd_i, gd_r, gd_n, gd_u, List.length_cons, List.length_nil, true_and, and_true, ↓reduceIte, Nat.zero_le, Nat.reduceLeDiff, Nat.reduceAdd, e_10, e_01, e_00, e_11, Int32.reduceLE, Int32.reduceLT, Int32.reduceAdd, Int32.reduceSub, b01, if_true, if_false, ite_self, nl_add, nl_add', nl_mul, nI_add, in_t, cl_n, le_nn, lt_nn, le_ln, le_nl, lt_nl, lt_ln, eq_nn, eq_nl, in_lit, cl_lit, Nat.le_refl, Nat.add_zero, len_0, ga_3000, hc]
  rw [e0, e]
  simp (disch := omega) only [iL_law_1132, iL_law_1135, true_or, or_true, Option.bind_some, Option.bind_none, kk_hp, kn_hp, el_i, el_b, el_z, am_cat_nil, am_cat_i, am_cat_r, am_cat_l, am_cat_n, gd_i, gd_r, gd_n, gd_u, List.length_cons, List.length_nil, true_and, and_true, ↓reduceIte, Nat.zero_le, Nat.reduceLeDiff, Nat.reduceAdd, e_10, e_01, e_00, e_11, Int32.reduceLE, Int32.reduceLT, Int32.reduceAdd, Int32.reduceSub, b01, if_true, if_false, ite_self, nl_add, nl_add', nl_mul, nI_add, in_t, cl_n, le_nn, lt_nn, le_ln, le_nl, lt_nl, lt_ln, eq_nn, eq_nl, in_lit, cl_lit, Nat.le_refl, Nat.add_zero]
theorem law_end {i : Nat} (hL : X.1 ≤ 2560) (hi : X.1 < i + 5) (hi2 : i ≤ 3000) : am_ev X kL_law 18 [.ref 3000, .ref 0, .ref 82, .int (nI i)] [] (hp M) = some (some (.int 1), hp M) := by
  have hc : nI X.1 - 5 < nI i := by
    rw [Int32.lt_iff_toInt_lt, nI_toInt (by omega)]
    by_cases h5 : 5 ≤ X.1
    · rw [nl_sub' h5, nI_toInt (by omega)]
      have : (OfNat.ofNat 5 : Nat) = 5 := rfl
      omega
    · have : X.1 = 0 ∨ X.1 = 1 ∨ X.1 = 2 ∨ X.1 = 3 ∨ X.1 = 4 := by omega
      rcases this with z | z | z | z | z <;> rw [z] <;> refine Int.lt_of_lt_of_le ?_ (Int.natCast_nonneg i) <;> decide
  simp (disch := omega) only [iL_law_18, iL_law_19, iL_law_20, iL_law_21, iL_law_22, iL_law_23, iL_law_1138, iL_law_1139, true_or, or_true, Option.bind_some, Option.bind_none, kk_hp, kn_hp, el_i, el_b, el_z, am_cat_nil, am_cat_i, am_cat_r, am_cat_l, am_cat_n, gd_i, gd_r, gd_n, gd_u, List.length_cons, List.length_nil, true_and, and_true, ↓reduceIte, Nat.zero_le, Nat.reduceLeDiff, Nat.reduceAdd, e_10, e_01, e_00, e_11, Int32.reduceLE, Int32.reduceLT, Int32.reduceAdd, Int32.reduceSub, b01, if_true, if_false, ite_self, nl_add, nl_add', nl_mul, nI_add, in_t, cl_n, le_nn, lt_nn, le_ln, le_nl, lt_nl, lt_ln, eq_nn, eq_nl, in_lit, cl_lit, Nat.le_refl, Nat.add_zero, len_0, ga_3000, hc]
theorem law_run (hX : X.2.2 = .null ∨ X.2.2 = .ref 1200) (hL : X.1 ≤ 2560) (k : Nat) : ∀ (i : Nat) (M : Nat → Nat → Int32), X.1 < i + 5 + k → i ≤ 3000 → RR M → ∃ M', am_ev X kL_law 18 [.ref 3000, .ref 0, .ref 82, .int (nI i)] [] (hp M) = some (some (.int 1), hp M') := by
  induction k with
  | zero => intro i M h1 h2 h; exact ⟨M, law_end hL (by omega) h2⟩
  | succ k ih =>
    intro i M h1 h2 h
    by_cases h5 : i + 5 ≤ X.1
    · obtain ⟨M', e, r⟩ := law_step hX hL h5 h
      rw [e]
      exact ih (i + 5) M' (by omega) (by omega) r
    · exact ⟨M, law_end hL (by omega) h2⟩
end S997
