/-! frozen tracks: sums of the class -/
section S57
variable {X : am_X} {M : Nat → Nat → Int32}
theorem C_openShares {g b n : Nat} (hg : isA g) (hb : b < 64) (hn : n ≤ 6) (h : M 80 1 = nI b) (h0 : M g 0 = nI n) : am_ev X kX4_openShares 0 [.ref 80, .ref g, am_u, am_u] [] (hp M) = some (some (.int (sm (fun t => if M (g + 1) t = 2 ∧ b.testBit t = false then M (g + 2) t else 0) n)), hp M) := by
  have e := chain (fun t => am_ev X kX4_openShares 4 [.ref 80, .ref g, .int (sm (fun t => if M (g + 1) t = 2 ∧ b.testBit t = false then M (g + 2) t else 0) t), .int (nI t)] [] (hp M)) 0 n (by omega) (fun t _ ht => by
    have eo := @C_isOpen X M g b t hg hb (by omega) h
    conv => lhs; rw [iX4_openShares_4]
    rw [sm_s]
    by_cases h1 : M (g + 1) t = 2 ∧ b.testBit t = false
    · have hh : (decide (M (g + 1) t = 2) && !b.testBit t) = true := by rw [decide_eq_true h1.1, h1.2]; rfl
      rw [hh, bI_t] at eo
      rw [if_pos h1]
      simp (disch := omega) only [iX4_openShares_5, iX4_openShares_6, iX4_openShares_9, iX4_openShares_12, iX4_openShares_13, iX4_openShares_14, iX4_openShares_15, iX4_openShares_18, iX4_openShares_21, iX4_openShares_22, iX4_openShares_23, iX4_openShares_26, iX4_openShares_27, iX4_openShares_28, iX4_openShares_29, iX4_openShares_30, iX4_openShares_33, true_or, or_true, Option.bind_some, Option.bind_none, kk_hp, kn_hp, el_i, el_b, el_z, am_cat_nil, am_cat_i, am_cat_r, am_cat_l, am_cat_n, gd_i, gd_r, gd_n, gd_u, List.length_cons, List.length_nil, true_and, and_true, ↓reduceIte, Nat.zero_le, Nat.reduceLeDiff, Nat.reduceAdd, e_10, e_01, e_00, e_11, Int32.reduceLE, Int32.reduceLT, Int32.reduceAdd, Int32.reduceSub, b01, if_true, if_false, ite_self, rc_80, gf_80_0, gf_80_1, pf_80_1, nl_add, nl_add', nl_mul, nI_add, in_t, cl_n, le_nn, lt_nn, le_ln, le_nl, lt_nl, lt_ln, eq_nn, eq_nl, in_lit, cl_lit, Nat.le_refl, Nat.add_zero, gA0 hg, gA3 hg, aA2 hg, h0, eo, show ¬ n ≤ t by omega]
    · have hh : (decide (M (g + 1) t = 2) && !b.testBit t) = false := by
        by_cases h2 : M (g + 1) t = 2
        · cases h3 : b.testBit t with
          | false => exact absurd ⟨h2, h3⟩ h1
          | true => rw [Bool.not_true, Bool.and_false]
        · rw [decide_eq_false h2, Bool.false_and]
      rw [hh, bI_f] at eo
      rw [if_neg h1]
      simp (disch := omega) only [iX4_openShares_5, iX4_openShares_6, iX4_openShares_9, iX4_openShares_12, iX4_openShares_13, iX4_openShares_14, iX4_openShares_15, iX4_openShares_18, iX4_openShares_21, iX4_openShares_22, iX4_openShares_23, iX4_openShares_26, iX4_openShares_27, iX4_openShares_28, iX4_openShares_29, iX4_openShares_30, iX4_openShares_33, true_or, or_true, Option.bind_some, Option.bind_none, kk_hp, kn_hp, el_i, el_b, el_z, am_cat_nil, am_cat_i, am_cat_r, am_cat_l, am_cat_n, gd_i, gd_r, gd_n, gd_u, List.length_cons, List.length_nil, true_and, and_true, ↓reduceIte, Nat.zero_le, Nat.reduceLeDiff, Nat.reduceAdd, e_10, e_01, e_00, e_11, Int32.reduceLE, Int32.reduceLT, Int32.reduceAdd, Int32.reduceSub, b01, if_true, if_false, ite_self, rc_80, gf_80_0, gf_80_1, pf_80_1, nl_add, nl_add', nl_mul, nI_add, in_t, cl_n, le_nn, lt_nn, le_ln, le_nl, lt_nl, lt_ln, eq_nn, eq_nl, in_lit, cl_lit, Nat.le_refl, Nat.add_zero, gA0 hg, gA3 hg, aA2 hg, h0, eo, show ¬ n ≤ t by omega, Int32.add_zero])
  simp only [sm_0, nI_0] at e
  simp (disch := omega) only [iX4_openShares_0, iX4_openShares_1, iX4_openShares_2, iX4_openShares_3, true_or, or_true, Option.bind_some, Option.bind_none, kk_hp, kn_hp, el_i, el_b, el_z, am_cat_nil, am_cat_i, am_cat_r, am_cat_l, am_cat_n, gd_i, gd_r, gd_n, gd_u, List.length_cons, List.length_nil, true_and, and_true, ↓reduceIte, Nat.zero_le, Nat.reduceLeDiff, Nat.reduceAdd, e_10, e_01, e_00, e_11, Int32.reduceLE, Int32.reduceLT, Int32.reduceAdd, Int32.reduceSub, b01, if_true, if_false, ite_self]
  rw [e]
  simp (disch := omega) only [iX4_openShares_4, iX4_openShares_5, iX4_openShares_6, iX4_openShares_9, iX4_openShares_36, iX4_openShares_37, true_or, or_true, Option.bind_some, Option.bind_none, kk_hp, kn_hp, el_i, el_b, el_z, am_cat_nil, am_cat_i, am_cat_r, am_cat_l, am_cat_n, gd_i, gd_r, gd_n, gd_u, List.length_cons, List.length_nil, true_and, and_true, ↓reduceIte, Nat.zero_le, Nat.reduceLeDiff, Nat.reduceAdd, e_10, e_01, e_00, e_11, Int32.reduceLE, Int32.reduceLT, Int32.reduceAdd, Int32.reduceSub, b01, if_true, if_false, ite_self, nl_add, nl_add', nl_mul, nI_add, in_t, cl_n, le_nn, lt_nn, le_ln, le_nl, lt_nl, lt_ln, eq_nn, eq_nl, in_lit, cl_lit, Nat.le_refl, Nat.add_zero, gA0 hg, h0]
theorem C_openWidth {g b n : Nat} {x : Int32} (hg : isA g) (hb : b < 64) (hn : n ≤ 6) (h : M 80 1 = nI b) (h0 : M g 0 = nI n) : am_ev X kX4_openWidth 0 [.ref 80, .ref g, .int x, am_u, am_u] [] (hp M) = some (some (.int (am_mx 0 (x - sm (fun t => if b.testBit t = false then 0 else M (g + 3) t) n))), hp M) := by
  have e := chain (fun t => am_ev X kX4_openWidth 5 [.ref 80, .ref g, .int x, .int (x - sm (fun t => if b.testBit t = false then 0 else M (g + 3) t) t), .int (nI t)] [] (hp M)) 0 n (by omega) (fun t _ ht => by
    have eo := @C_isFrozen X M b t hb (by omega) h
    conv => lhs; rw [iX4_openWidth_5]
    rw [sub_sm]
    cases h1 : b.testBit t with
    | false =>
      rw [h1, bI_f] at eo
      rw [if_pos rfl]
      simp (disch := omega) only [iX4_openWidth_7, iX4_openWidth_8, iX4_openWidth_11, iX4_openWidth_14, iX4_openWidth_15, iX4_openWidth_17, iX4_openWidth_20, iX4_openWidth_23, iX4_openWidth_24, iX4_openWidth_25, iX4_openWidth_28, iX4_openWidth_30, iX4_openWidth_31, iX4_openWidth_32, iX4_openWidth_33, iX4_openWidth_36, true_or, or_true, Option.bind_some, Option.bind_none, kk_hp, kn_hp, el_i, el_b, el_z, am_cat_nil, am_cat_i, am_cat_r, am_cat_l, am_cat_n, gd_i, gd_r, gd_n, gd_u, List.length_cons, List.length_nil, true_and, and_true, ↓reduceIte, Nat.zero_le, Nat.reduceLeDiff, Nat.reduceAdd, e_10, e_01, e_00, e_11, Int32.reduceLE, Int32.reduceLT, Int32.reduceAdd, Int32.reduceSub, b01, if_true, if_false, ite_self, rc_80, gf_80_0, gf_80_1, pf_80_1, nl_add, nl_add', nl_mul, nI_add, in_t, cl_n, le_nn, lt_nn, le_ln, le_nl, lt_nl, lt_ln, eq_nn, eq_nl, in_lit, cl_lit, Nat.le_refl, Nat.add_zero, gA0 hg, gA4 hg, aA3 hg, h0, eo, show ¬ n ≤ t by omega, sub_0]
    | true =>
      rw [h1, bI_t] at eo
      rw [if_neg (by decide)]
      simp (disch := omega) only [iX4_openWidth_7, iX4_openWidth_8, iX4_openWidth_11, iX4_openWidth_14, iX4_openWidth_15, iX4_openWidth_17, iX4_openWidth_20, iX4_openWidth_23, iX4_openWidth_24, iX4_openWidth_25, iX4_openWidth_28, iX4_openWidth_30, iX4_openWidth_31, iX4_openWidth_32, iX4_openWidth_33, iX4_openWidth_36, true_or, or_true, Option.bind_some, Option.bind_none, kk_hp, kn_hp, el_i, el_b, el_z, am_cat_nil, am_cat_i, am_cat_r, am_cat_l, am_cat_n, gd_i, gd_r, gd_n, gd_u, List.length_cons, List.length_nil, true_and, and_true, ↓reduceIte, Nat.zero_le, Nat.reduceLeDiff, Nat.reduceAdd, e_10, e_01, e_00, e_11, Int32.reduceLE, Int32.reduceLT, Int32.reduceAdd, Int32.reduceSub, b01, if_true, if_false, ite_self, rc_80, gf_80_0, gf_80_1, pf_80_1, nl_add, nl_add', nl_mul, nI_add, in_t, cl_n, le_nn, lt_nn, le_ln, le_nl, lt_nl, lt_ln, eq_nn, eq_nl, in_lit, cl_lit, Nat.le_refl, Nat.add_zero, gA0 hg, gA4 hg, aA3 hg, h0, eo, show ¬ n ≤ t by omega])
  simp only [sm_0, nI_0, sub_0] at e
  simp (disch := omega) only [iX4_openWidth_0, iX4_openWidth_1, iX4_openWidth_2, iX4_openWidth_3, true_or, or_true, Option.bind_some, Option.bind_none, kk_hp, kn_hp, el_i, el_b, el_z, am_cat_nil, am_cat_i, am_cat_r, am_cat_l, am_cat_n, gd_i, gd_r, gd_n, gd_u, List.length_cons, List.length_nil, true_and, and_true, ↓reduceIte, Nat.zero_le, Nat.reduceLeDiff, Nat.reduceAdd, e_10, e_01, e_00, e_11, Int32.reduceLE, Int32.reduceLT, Int32.reduceAdd, Int32.reduceSub, b01, if_true, if_false, ite_self]
  rw [e]
  simp (disch := omega) only [iX4_openWidth_5, iX4_openWidth_7, iX4_openWidth_8, iX4_openWidth_11, iX4_openWidth_39, iX4_openWidth_40, iX4_openWidth_41, iX4_openWidth_44, true_or, or_true, Option.bind_some, Option.bind_none, kk_hp, kn_hp, el_i, el_b, el_z, am_cat_nil, am_cat_i, am_cat_r, am_cat_l, am_cat_n, gd_i, gd_r, gd_n, gd_u, List.length_cons, List.length_nil, true_and, and_true, ↓reduceIte, Nat.zero_le, Nat.reduceLeDiff, Nat.reduceAdd, e_10, e_01, e_00, e_11, Int32.reduceLE, Int32.reduceLT, Int32.reduceAdd, Int32.reduceSub, b01, if_true, if_false, ite_self, nl_add, nl_add', nl_mul, nI_add, in_t, cl_n, le_nn, lt_nn, le_ln, le_nl, lt_nl, lt_ln, eq_nn, eq_nl, in_lit, cl_lit, Nat.le_refl, Nat.add_zero, gA0 hg, h0]
end S57
