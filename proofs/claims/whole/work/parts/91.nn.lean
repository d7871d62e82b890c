/-! names: the reference -/
def isB (n : Nat) (b : Nat → Nat) (p m : Nat) (x y z : Int32) : Bool := decide (tK n b p = 1) && (decide (tB n b p - tS n b p = m) && (decide (bA n b (tS n b p) = x) && (decide (bA n b (tS n b p + 1) = y) && (decide (z = 0) || decide (bA n b (tS n b p + 2) = z)))))
def thB (n : Nat) (b : Nat → Nat) (p f : Nat) (x y : Int32) : Bool := decide (bA n b (tS n b p + f) = x) && (decide (y = 0) || decide (bA n b (tS n b p + f + 1) = y))
section S91
variable {X : am_X} {M : Nat → Nat → Int32}
theorem M_is {n p m : Nat} {b : Nat → Nat} {x y z : Int32} (ht : TQ M n b) (hT : TK M n b p) (hpn : p ≤ n) (h4 : tK n b p ≠ 4) (hm : m < 10) : am_ev X kX9_is 0 [.ref 82, .int (nI m), .int x, .int y, .int z] [] (hp M) = some (some (.int (bI (isB n b p m x y z))), hp M) := by
  have hn := ht.1
  obtain ⟨b1, b2, b3, b4⟩ := @tB_p n p b hpn
  obtain ⟨k7, k8, -, k4, -⟩ := hT
  obtain ⟨k11, k9⟩ := k4 h4
  have e0 := @M_byteAt X M n (tS n b p) b ht (by omega)
  have e1 := @M_byteAt X M n (tS n b p + 1) b ht (by omega)
  have e2 := @M_byteAt X M n (tS n b p + 2) b ht (by omega)
  unfold isB
  by_cases h1 : tK n b p = 1
  · rw [decide_eq_true h1, Bool.true_and]
    rw [h1] at k9
    by_cases h2 : tB n b p - tS n b p = m
    · rw [decide_eq_true h2, Bool.true_and]
      by_cases h3 : bA n b (tS n b p) = x
      · rw [decide_eq_true h3, Bool.true_and]
        by_cases h5 : bA n b (tS n b p + 1) = y
        · rw [decide_eq_true h5, Bool.true_and]
          by_cases h6 : z = 0
          · rw [decide_eq_true h6, Bool.true_or, bI_t]
            simp (disch := omega) only [iX9_is_0, iX9_is_1, iX9_is_4, iX9_is_5, iX9_is_8, iX9_is_9, iX9_is_12, iX9_is_13, iX9_is_16, iX9_is_17, iX9_is_18, iX9_is_21, iX9_is_22, iX9_is_23, iX9_is_26, iX9_is_29, iX9_is_30, iX9_is_33, iX9_is_34, iX9_is_35, iX9_is_38, iX9_is_39, iX9_is_40, iX9_is_43, iX9_is_44, iX9_is_47, iX9_is_49, iX9_is_52, iX9_is_53, iX9_is_54, iX9_is_57, iX9_is_58, iX9_is_59, iX9_is_62, iX9_is_64, iX9_is_67, iX9_is_68, iX9_is_71, iX9_is_72, true_or, or_true, Option.bind_some, Option.bind_none, kk_hp, kn_hp, el_i, el_b, el_z, am_cat_nil, am_cat_i, am_cat_r, am_cat_l, am_cat_n, gd_i, gd_r, gd_n, gd_u, List.length_cons, List.length_nil, true_and, and_true, ↓reduceIte, Nat.zero_le, Nat.reduceLeDiff, Nat.reduceAdd, e_10, e_01, e_00, e_11, Int32.reduceLE, Int32.reduceLT, Int32.reduceAdd, Int32.reduceSub, b01, if_true, if_false, ite_self, rc_82, gf_82_0, gf_82_1, gf_82_2, gf_82_3, gf_82_4, gf_82_5, gf_82_6, pf_82_6, gf_82_7, pf_82_7, gf_82_8, pf_82_8, gf_82_9, pf_82_9, gf_82_10, pf_82_10, gf_82_11, pf_82_11, gf_82_12, pf_82_12, gf_82_13, gf_82_14, gf_82_15, gf_82_16, pf_82_16, gf_82_17, gf_82_18, gf_82_19, gf_82_20, gf_82_21, gf_82_22, gf_82_23, gf_82_24, gf_82_25, pf_82_25, ga_83, wi_83, ga_84, wi_84, ga_85, wb_85, ga_86, wi_86, ga_87, wb_87, ga_88, wi_88, ga_89, wi_89, ga_90, wi_90, ga_91, wi_91, ga_92, wi_92, ga_93, wi_93, ga_94, wi_94, ga_95, wi_95, ga_96, wb_96, ga_97, wi_97, ga_98, wi_98, ga_99, wi_99, nl_add, nl_add', nl_mul, nI_add, in_t, cl_n, le_nn, lt_nn, le_ln, le_nl, lt_nl, lt_ln, eq_nn, eq_nl, in_lit, cl_lit, Nat.le_refl, Nat.add_zero, k7, k8, k9, show nI 1 = (1 : Int32) from rfl, nI_sub', h2, eq_self, e0, e1, h3, h5, h6]
          · rw [decide_eq_false h6, Bool.false_or]
            by_cases h7 : bA n b (tS n b p + 2) = z
            · rw [decide_eq_true h7, bI_t]
              simp (disch := omega) only [iX9_is_0, iX9_is_1, iX9_is_4, iX9_is_5, iX9_is_8, iX9_is_9, iX9_is_12, iX9_is_13, iX9_is_16, iX9_is_17, iX9_is_18, iX9_is_21, iX9_is_22, iX9_is_23, iX9_is_26, iX9_is_29, iX9_is_30, iX9_is_33, iX9_is_34, iX9_is_35, iX9_is_38, iX9_is_39, iX9_is_40, iX9_is_43, iX9_is_44, iX9_is_47, iX9_is_49, iX9_is_52, iX9_is_53, iX9_is_54, iX9_is_57, iX9_is_58, iX9_is_59, iX9_is_62, iX9_is_64, iX9_is_67, iX9_is_68, iX9_is_71, iX9_is_72, true_or, or_true, Option.bind_some, Option.bind_none, kk_hp, kn_hp, el_i, el_b, el_z, am_cat_nil, am_cat_i, am_cat_r, am_cat_l, am_cat_n, gd_i, gd_r, gd_n, gd_u, List.length_cons, List.length_nil, true_and, and_true, ↓reduceIte, Nat.zero_le, Nat.reduceLeDiff, Nat.reduceAdd, e_10, e_01, e_00, e_11, Int32.reduceLE, Int32.reduceLT, Int32.reduceAdd, Int32.reduceSub, b01, if_true, if_false, ite_self, rc_82, gf_82_0, gf_82_1, gf_82_2, gf_82_3, gf_82_4, gf_82_5, gf_82_6, pf_82_6, gf_82_7, pf_82_7, gf_82_8, pf_82_8, gf_82_9, pf_82_9, gf_82_10, pf_82_10, gf_82_11, pf_82_11, gf_82_12, pf_82_12, gf_82_13, gf_82_14, gf_82_15, gf_82_16, pf_82_16, gf_82_17, gf_82_18, gf_82_19, gf_82_20, gf_82_21, gf_82_22, gf_82_23, gf_82_24, gf_82_25, pf_82_25, ga_83, wi_83, ga_84, wi_84, ga_85, wb_85, ga_86, wi_86, ga_87, wb_87, ga_88, wi_88, ga_89, wi_89, ga_90, wi_90, ga_91, wi_91, ga_92, wi_92, ga_93, wi_93, ga_94, wi_94, ga_95, wi_95, ga_96, wb_96, ga_97, wi_97, ga_98, wi_98, ga_99, wi_99, nl_add, nl_add', nl_mul, nI_add, in_t, cl_n, le_nn, lt_nn, le_ln, le_nl, lt_nl, lt_ln, eq_nn, eq_nl, in_lit, cl_lit, Nat.le_refl, Nat.add_zero, k7, k8, k9, show nI 1 = (1 : Int32) from rfl, nI_sub', h2, eq_self, e0, e1, e2, h3, h5, h6, h7]
            · rw [decide_eq_false h7, bI_f]
              simp (disch := omega) only [iX9_is_0, iX9_is_1, iX9_is_4, iX9_is_5, iX9_is_8, iX9_is_9, iX9_is_12, iX9_is_13, iX9_is_16, iX9_is_17, iX9_is_18, iX9_is_21, iX9_is_22, iX9_is_23, iX9_is_26, iX9_is_29, iX9_is_30, iX9_is_33, iX9_is_34, iX9_is_35, iX9_is_38, iX9_is_39, iX9_is_40, iX9_is_43, iX9_is_44, iX9_is_47, iX9_is_49, iX9_is_52, iX9_is_53, iX9_is_54, iX9_is_57, iX9_is_58, iX9_is_59, iX9_is_62, iX9_is_64, iX9_is_67, iX9_is_68, iX9_is_71, iX9_is_72, true_or, or_true, Option.bind_some, Option.bind_none, kk_hp, kn_hp, el_i, el_b, el_z, am_cat_nil, am_cat_i, am_cat_r, am_cat_l, am_cat_n, gd_i, gd_r, gd_n, gd_u, List.length_cons, List.length_nil, true_and, and_true, ↓reduceIte, Nat.zero_le, Nat.reduceLeDiff, Nat.reduceAdd, e_10, e_01, e_00, e_11, Int32.reduceLE, Int32.reduceLT, Int32.reduceAdd, Int32.reduceSub, b01, if_true, if_false, ite_self, rc_82, gf_82_0, gf_82_1, gf_82_2, gf_82_3, gf_82_4, gf_82_5, gf_82_6, pf_82_6, gf_82_7, pf_82_7, gf_82_8, pf_82_8, gf_82_9, pf_82_9, gf_82_10, pf_82_10, gf_82_11, pf_82_11, gf_82_12, pf_82_12, gf_82_13, gf_82_14, gf_82_15, gf_82_16, pf_82_16, gf_82_17, gf_82_18, gf_82_19, gf_82_20, gf_82_21, gf_82_22, gf_82_23, gf_82_24, gf_82_25, pf_82_25, ga_83, wi_83, ga_84, wi_84, ga_85, wb_85, ga_86, wi_86, ga_87, wb_87, ga_88, wi_88, ga_89, wi_89, ga_90, wi_90, ga_91, wi_91, ga_92, wi_92, ga_93, wi_93, ga_94, wi_94, ga_95, wi_95, ga_96, wb_96, ga_97, wi_97, ga_98, wi_98, ga_99, wi_99, nl_add, nl_add', nl_mul, nI_add, in_t, cl_n, le_nn, lt_nn, le_ln, le_nl, lt_nl, lt_ln, eq_nn, eq_nl, in_lit, cl_lit, Nat.le_refl, Nat.add_zero, k7, k8, k9, show nI 1 = (1 : Int32) from rfl, nI_sub', h2, eq_self, e0, e1, e2, h3, h5, h6, h7]
        · rw [decide_eq_false h5, Bool.false_and, bI_f]
          simp (disch := omega) only [iX9_is_0, iX9_is_1, iX9_is_4, iX9_is_5, iX9_is_8, iX9_is_9, iX9_is_12, iX9_is_13, iX9_is_16, iX9_is_17, iX9_is_18, iX9_is_21, iX9_is_22, iX9_is_23, iX9_is_26, iX9_is_29, iX9_is_30, iX9_is_33, iX9_is_34, iX9_is_35, iX9_is_38, iX9_is_39, iX9_is_40, iX9_is_43, iX9_is_44, iX9_is_47, iX9_is_49, iX9_is_52, iX9_is_53, iX9_is_54, iX9_is_57, iX9_is_58, iX9_is_59, iX9_is_62, iX9_is_64, iX9_is_67, iX9_is_68, iX9_is_71, iX9_is_72, true_or, or_true, Option.bind_some, Option.bind_none, kk_hp, kn_hp, el_i, el_b, el_z, am_cat_nil, am_cat_i, am_cat_r, am_cat_l, am_cat_n, gd_i, gd_r, gd_n, gd_u, List.length_cons, List.length_nil, true_and, and_true, ↓reduceIte, Nat.zero_le, Nat.reduceLeDiff, Nat.reduceAdd, e_10, e_01, e_00, e_11, Int32.reduceLE, Int32.reduceLT, Int32.reduceAdd, Int32.reduceSub, b01, if_true, if_false, ite_self, rc_82, gf_82_0, gf_82_1, gf_82_2, gf_82_3, gf_82_4, gf_82_5, gf_82_6, pf_82_6, gf_82_7, pf_82_7, gf_82_8, pf_82_8, gf_82_9, pf_82_9, gf_82_10, pf_82_10, gf_82_11, pf_82_11, gf_82_12, pf_82_12, gf_82_13, gf_82_14, gf_82_15, gf_82_16, pf_82_16, gf_82_17, gf_82_18, gf_82_19, gf_82_20, gf_82_21, gf_82_22, gf_82_23, gf_82_24, gf_82_25, pf_82_25, ga_83, wi_83, ga_84, wi_84, ga_85, wb_85, ga_86, wi_86, ga_87, wb_87, ga_88, wi_88, ga_89, wi_89, ga_90, wi_90, ga_91, wi_91, ga_92, wi_92, ga_93, wi_93, ga_94, wi_94, ga_95, wi_95, ga_96, wb_96, ga_97, wi_97, ga_98, wi_98, ga_99, wi_99, nl_add, nl_add', nl_mul, nI_add, in_t, cl_n, le_nn, lt_nn, le_ln, le_nl, lt_nl, lt_ln, eq_nn, eq_nl, in_lit, cl_lit, Nat.le_refl, Nat.add_zero, k7, k8, k9, show nI 1 = (1 : Int32) from rfl, nI_sub', h2, eq_self, e0, e1, h3, h5]
      · rw [decide_eq_false h3, Bool.false_and, bI_f]
        simp (disch := omega) only [iX9_is_0, iX9_is_1, iX9_is_4, iX9_is_5, iX9_is_8, iX9_is_9, iX9_is_12, iX9_is_13, iX9_is_16, iX9_is_17, iX9_is_18, iX9_is_21, iX9_is_22, iX9_is_23, iX9_is_26, iX9_is_29, iX9_is_30, iX9_is_33, iX9_is_34, iX9_is_35, iX9_is_38, iX9_is_39, iX9_is_40, iX9_is_43, iX9_is_44, iX9_is_47, iX9_is_49, iX9_is_52, iX9_is_53, iX9_is_54, iX9_is_57, iX9_is_58, iX9_is_59, iX9_is_62, iX9_is_64, iX9_is_67, iX9_is_68, iX9_is_71, iX9_is_72, true_or, or_true, Option.bind_some, Option.bind_none, kk_hp, kn_hp, el_i, el_b, el_z, am_cat_nil, am_cat_i, am_cat_r, am_cat_l, am_cat_n, gd_i, gd_r, gd_n, gd_u, List.length_cons, List.length_nil, true_and, and_true, ↓reduceIte, Nat.zero_le, Nat.reduceLeDiff, Nat.reduceAdd, e_10, e_01, e_00, e_11, Int32.reduceLE, Int32.reduceLT, Int32.reduceAdd, Int32.reduceSub, b01, if_true, if_false, ite_self, rc_82, gf_82_0, gf_82_1, gf_82_2, gf_82_3, gf_82_4, gf_82_5, gf_82_6, pf_82_6, gf_82_7, pf_82_7, gf_82_8, pf_82_8, gf_82_9, pf_82_9, gf_82_10, pf_82_10, gf_82_11, pf_82_11, gf_82_12, pf_82_12, gf_82_13, gf_82_14, gf_82_15, gf_82_16, pf_82_16, gf_82_17, gf_82_18, gf_82_19, gf_82_20, gf_82_21, gf_82_22, gf_82_23, gf_82_24, gf_82_25, pf_82_25, ga_83, wi_83, ga_84, wi_84, ga_85, wb_85, ga_86, wi_86, ga_87, wb_87, ga_88, wi_88, ga_89, wi_89, ga_90, wi_90, ga_91, wi_91, ga_92, wi_92, ga_93, wi_93, ga_94, wi_94, ga_95, wi_95, ga_96, wb_96, ga_97, wi_97, ga_98, wi_98, ga_99, wi_99, nl_add, nl_add', nl_mul, nI_add, in_t, cl_n, le_nn, lt_nn, le_ln, le_nl, lt_nl, lt_ln, eq_nn, eq_nl, in_lit, cl_lit, Nat.le_refl, Nat.add_zero, k7, k8, k9, show nI 1 = (1 : Int32) from rfl, nI_sub', h2, eq_self, e0, h3]
    · rw [decide_eq_false h2, Bool.false_and, bI_f]
      simp (disch := omega) only [iX9_is_0, iX9_is_1, iX9_is_4, iX9_is_5, iX9_is_8, iX9_is_9, iX9_is_12, iX9_is_13, iX9_is_16, iX9_is_17, iX9_is_18, iX9_is_21, iX9_is_22, iX9_is_23, iX9_is_26, iX9_is_29, iX9_is_30, iX9_is_33, iX9_is_34, iX9_is_35, iX9_is_38, iX9_is_39, iX9_is_40, iX9_is_43, iX9_is_44, iX9_is_47, iX9_is_49, iX9_is_52, iX9_is_53, iX9_is_54, iX9_is_57, iX9_is_58, iX9_is_59, iX9_is_62, iX9_is_64, iX9_is_67, iX9_is_68, iX9_is_71, iX9_is_72, true_or, or_true, Option.bind_some, Option.bind_none, kk_hp, kn_hp, el_i, el_b, el_z, am_cat_nil, am_cat_i, am_cat_r, am_cat_l, am_cat_n, gd_i, gd_r, gd_n, gd_u, List.length_cons, List.length_nil, true_and, and_true, ↓reduceIte, Nat.zero_le, Nat.reduceLeDiff, Nat.reduceAdd, e_10, e_01, e_00, e_11, Int32.reduceLE, Int32.reduceLT, Int32.reduceAdd, Int32.reduceSub, b01, if_true, if_false, ite_self, rc_82, gf_82_0, gf_82_1, gf_82_2, gf_82_3, gf_82_4, gf_82_5, gf_82_6, pf_82_6, gf_82_7, pf_82_7, gf_82_8, pf_82_8, gf_82_9, pf_82_9, gf_82_10, pf_82_10, gf_82_11, pf_82_11, gf_82_12, pf_82_12, gf_82_13, gf_82_14, gf_82_15, gf_82_16, pf_82_16, gf_82_17, gf_82_18, gf_82_19, gf_82_20, gf_82_21, gf_82_22, gf_82_23, gf_82_24, gf_82_25, pf_82_25, ga_83, wi_83, ga_84, wi_84, ga_85, wb_85, ga_86, wi_86, ga_87, wb_87, ga_88, wi_88, ga_89, wi_89, ga_90, wi_90, ga_91, wi_91, ga_92, wi_92, ga_93, wi_93, ga_94, wi_94, ga_95, wi_95, ga_96, wb_96, ga_97, wi_97, ga_98, wi_98, ga_99, wi_99, nl_add, nl_add', nl_mul, nI_add, in_t, cl_n, le_nn, lt_nn, le_ln, le_nl, lt_nl, lt_ln, eq_nn, eq_nl, in_lit, cl_lit, Nat.le_refl, Nat.add_zero, k7, k8, k9, show nI 1 = (1 : Int32) from rfl, nI_sub', h2]
  · rw [decide_eq_false h1, Bool.false_and, bI_f]
    simp (disch := omega) only [iX9_is_0, iX9_is_1, iX9_is_4, iX9_is_5, iX9_is_8, iX9_is_9, iX9_is_12, iX9_is_13, iX9_is_16, iX9_is_17, iX9_is_18, iX9_is_21, iX9_is_22, iX9_is_23, iX9_is_26, iX9_is_29, iX9_is_30, iX9_is_33, iX9_is_34, iX9_is_35, iX9_is_38, iX9_is_39, iX9_is_40, iX9_is_43, iX9_is_44, iX9_is_47, iX9_is_49, iX9_is_52, iX9_is_53, iX9_is_54, iX9_is_57, iX9_is_58, iX9_is_59, iX9_is_62, iX9_is_64, iX9_is_67, iX9_is_68, iX9_is_71, iX9_is_72, true_or, or_true, Option.bind_some, Option.bind_none, kk_hp, kn_hp, el_i, el_b, el_z, am_cat_nil, am_cat_i, am_cat_r, am_cat_l, am_cat_n, gd_i, gd_r, gd_n, gd_u, List.length_cons, List.length_nil, true_and, and_true, ↓reduceIte, Nat.zero_le, Nat.reduceLeDiff, Nat.reduceAdd, e_10, e_01, e_00, e_11, Int32.reduceLE, Int32.reduceLT, Int32.reduceAdd, Int32.reduceSub, b01, if_true, if_false, ite_self, rc_82, gf_82_0, gf_82_1, gf_82_2, gf_82_3, gf_82_4, gf_82_5, gf_82_6, pf_82_6, gf_82_7, pf_82_7, gf_82_8, pf_82_8, gf_82_9, pf_82_9, gf_82_10, pf_82_10, gf_82_11, pf_82_11, gf_82_12, pf_82_12, gf_82_13, gf_82_14, gf_82_15, gf_82_16, pf_82_16, gf_82_17, gf_82_18, gf_82_19, gf_82_20, gf_82_21, gf_82_22, gf_82_23, gf_82_24, gf_82_25, pf_82_25, ga_83, wi_83, ga_84, wi_84, ga_85, wb_85, ga_86, wi_86, ga_87, wb_87, ga_88, wi_88, ga_89, wi_89, ga_90, wi_90, ga_91, wi_91, ga_92, wi_92, ga_93, wi_93, ga_94, wi_94, ga_95, wi_95, ga_96, wb_96, ga_97, wi_97, ga_98, wi_98, ga_99, wi_99, nl_add, nl_add', nl_mul, nI_add, in_t, cl_n, le_nn, lt_nn, le_ln, le_nl, lt_nl, lt_ln, eq_nn, eq_nl, in_lit, cl_lit, Nat.le_refl, Nat.add_zero, k9, h1]
theorem M_then {n p f : Nat} {b : Nat → Nat} {x y : Int32} (ht : TQ M n b) (hT : TK M n b p) (hpn : p ≤ n) (hf : f < 10) : am_ev X kX9_then 0 [.ref 82, .int (nI f), .int x, .int y] [] (hp M) = some (some (.int (bI (thB n b p f x y))), hp M) := by
  have hn := ht.1
  obtain ⟨b1, b2, b3, b4⟩ := @tB_p n p b hpn
  obtain ⟨k7, k8, -, -, -⟩ := hT
  have e0 := @M_byteAt X M n (tS n b p + f) b ht (by omega)
  have e1 := @M_byteAt X M n (tS n b p + f + 1) b ht (by omega)
  unfold thB
  by_cases h3 : bA n b (tS n b p + f) = x
  · rw [decide_eq_true h3, Bool.true_and]
    by_cases h6 : y = 0
    · rw [decide_eq_true h6, Bool.true_or, bI_t]
      simp (disch := omega) only [iX9_then_0, iX9_then_1, iX9_then_2, iX9_then_5, iX9_then_6, iX9_then_7, iX9_then_10, iX9_then_11, iX9_then_14, iX9_then_15, iX9_then_18, iX9_then_19, iX9_then_20, iX9_then_23, iX9_then_24, iX9_then_25, iX9_then_26, iX9_then_27, iX9_then_30, iX9_then_31, iX9_then_34, iX9_then_35, iX9_then_38, iX9_then_39, true_or, or_true, Option.bind_some, Option.bind_none, kk_hp, kn_hp, el_i, el_b, el_z, am_cat_nil, am_cat_i, am_cat_r, am_cat_l, am_cat_n, gd_i, gd_r, gd_n, gd_u, List.length_cons, List.length_nil, true_and, and_true, ↓reduceIte, Nat.zero_le, Nat.reduceLeDiff, Nat.reduceAdd, e_10, e_01, e_00, e_11, Int32.reduceLE, Int32.reduceLT, Int32.reduceAdd, Int32.reduceSub, b01, if_true, if_false, ite_self, rc_82, gf_82_0, gf_82_1, gf_82_2, gf_82_3, gf_82_4, gf_82_5, gf_82_6, pf_82_6, gf_82_7, pf_82_7, gf_82_8, pf_82_8, gf_82_9, pf_82_9, gf_82_10, pf_82_10, gf_82_11, pf_82_11, gf_82_12, pf_82_12, gf_82_13, gf_82_14, gf_82_15, gf_82_16, pf_82_16, gf_82_17, gf_82_18, gf_82_19, gf_82_20, gf_82_21, gf_82_22, gf_82_23, gf_82_24, gf_82_25, pf_82_25, ga_83, wi_83, ga_84, wi_84, ga_85, wb_85, ga_86, wi_86, ga_87, wb_87, ga_88, wi_88, ga_89, wi_89, ga_90, wi_90, ga_91, wi_91, ga_92, wi_92, ga_93, wi_93, ga_94, wi_94, ga_95, wi_95, ga_96, wb_96, ga_97, wi_97, ga_98, wi_98, ga_99, wi_99, nl_add, nl_add', nl_mul, nI_add, in_t, cl_n, le_nn, lt_nn, le_ln, le_nl, lt_nl, lt_ln, eq_nn, eq_nl, in_lit, cl_lit, Nat.le_refl, Nat.add_zero, k8, e0, h3, h6]
    · rw [decide_eq_false h6, Bool.false_or]
      by_cases h7 : bA n b (tS n b p + f + 1) = y
      · rw [decide_eq_true h7, bI_t]
        simp (disch := omega) only [iX9_then_0, iX9_then_1, iX9_then_2, iX9_then_5, iX9_then_6, iX9_then_7, iX9_then_10, iX9_then_11, iX9_then_14, iX9_then_15, iX9_then_18, iX9_then_19, iX9_then_20, iX9_then_23, iX9_then_24, iX9_then_25, iX9_then_26, iX9_then_27, iX9_then_30, iX9_then_31, iX9_then_34, iX9_then_35, iX9_then_38, iX9_then_39, true_or, or_true, Option.bind_some, Option.bind_none, kk_hp, kn_hp, el_i, el_b, el_z, am_cat_nil, am_cat_i, am_cat_r, am_cat_l, am_cat_n, gd_i, gd_r, gd_n, gd_u, List.length_cons, List.length_nil, true_and, and_true, ↓reduceIte, Nat.zero_le, Nat.reduceLeDiff, Nat.reduceAdd, e_10, e_01, e_00, e_11, Int32.reduceLE, Int32.reduceLT, Int32.reduceAdd, Int32.reduceSub, b01, if_true, if_false, ite_self, rc_82, gf_82_0, gf_82_1, gf_82_2, gf_82_3, gf_82_4, gf_82_5, gf_82_6, pf_82_6, gf_82_7, pf_82_7, gf_82_8, pf_82_8, gf_82_9, pf_82_9, gf_82_10, pf_82_10, gf_82_11, pf_82_11, gf_82_12, pf_82_12, gf_82_13, gf_82_14, gf_82_15, gf_82_16, pf_82_16, gf_82_17, gf_82_18, gf_82_19, gf_82_20, gf_82_21, gf_82_22, gf_82_23, gf_82_24, gf_82_25, pf_82_25, ga_83, wi_83, ga_84, wi_84, ga_85, wb_85, ga_86, wi_86, ga_87, wb_87, ga_88, wi_88, ga_89, wi_89, ga_90, wi_90, ga_91, wi_91, ga_92, wi_92, ga_93, wi_93, ga_94, wi_94, ga_95, wi_95, ga_96, wb_96, ga_97, wi_97, ga_98, wi_98, ga_99, wi_99, nl_add, nl_add', nl_mul, nI_add, in_t, cl_n, le_nn, lt_nn, le_ln, le_nl, lt_nl, lt_ln, eq_nn, eq_nl, in_lit, cl_lit, Nat.le_refl, Nat.add_zero, k8, e0, e1, h3, h6, h7]
      · rw [decide_eq_false h7, bI_f]
        simp (disch := omega) only [iX9_then_0, iX9_then_1, iX9_then_2, iX9_then_5, iX9_then_6, iX9_then_7, iX9_then_10, iX9_then_11, iX9_then_14, iX9_then_15, iX9_then_18, iX9_then_19, iX9_then_20, iX9_then_23, iX9_then_24, iX9_then_25, iX9_then_26, iX9_then_27, iX9_then_30, iX9_then_31, iX9_then_34, iX9_then_35, iX9_then_38, iX9_then_39, true_or, or_true, Option.bind_some, Option.bind_none, kk_hp, kn_hp, el_i, el_b, el_z, am_cat_nil, am_cat_i, am_cat_r, am_cat_l, am_cat_n, gd_i, gd_r, gd_n, gd_u, List.length_cons, List.length_nil, true_and, and_true, ↓reduceIte, Nat.zero_le, Nat.reduceLeDiff, Nat.reduceAdd, e_10, e_01, e_00, e_11, Int32.reduceLE, Int32.reduceLT, Int32.reduceAdd, Int32.reduceSub, b01, if_true, if_false, ite_self, rc_82, gf_82_0, gf_82_1, gf_82_2, gf_82_3, gf_82_4, gf_82_5, gf_82_6, pf_82_6, gf_82_7, pf_82_7, gf_82_8, pf_82_8, gf_82_9, pf_82_9, gf_82_10, pf_82_10, gf_82_11, pf_82_11, gf_82_12, pf_82_12, gf_82_13, gf_82_14, gf_82_15, gf_82_16, pf_82_16, gf_82_17, gf_82_18, gf_82_19, gf_82_20, gf_82_21, gf_82_22, gf_82_23, gf_82_24, gf_82_25, pf_82_25, ga_83, wi_83, ga_84, wi_84, ga_85, wb_85, ga_86, wi_86, ga_87, wb_87, ga_88, wi_88, ga_89, wi_89, ga_90, wi_90, ga_91, wi_91, ga_92, wi_92, ga_93, wi_93, ga_94, wi_94, ga_95, wi_95, ga_96, wb_96, ga_97, wi_97, ga_98, wi_98, ga_99, wi_99, nl_add, nl_add', nl_mul, nI_add, in_t, cl_n, le_nn, lt_nn, le_ln, le_nl, lt_nl, lt_ln, eq_nn, eq_nl, in_lit, cl_lit, Nat.le_refl, Nat.add_zero, k8, e0, e1, h3, h6, h7]
  · rw [decide_eq_false h3, Bool.false_and, bI_f]
    simp (disch := omega) only [iX9_then_0, iX9_then_1, iX9_then_2, iX9_then_5, iX9_then_6, iX9_then_7, iX9_then_10, iX9_then_11, iX9_then_14, iX9_then_15, iX9_then_18, iX9_then_19, iX9_then_20, iX9_then_23, iX9_then_24, iX9_then_25, iX9_then_26, iX9_then_27, iX9_then_30, iX9_then_31, iX9_then_34, iX9_then_35, iX9_then_38, iX9_then_39, true_or, or_true, Option.bind_some, Option.bind_none, kk_hp, kn_hp, el_i, el_b, el_z, am_cat_nil, am_cat_i, am_cat_r, am_cat_l, am_cat_n, gd_i, gd_r, gd_n, gd_u, List.length_cons, List.length_nil, true_and, and_true, ↓reduceIte, Nat.zero_le, Nat.reduceLeDiff, Nat.reduceAdd, e_10, e_01, e_00, e_11, Int32.reduceLE, Int32.reduceLT, Int32.reduceAdd, Int32.reduceSub, b01, if_true, if_false, ite_self, rc_82, gf_82_0, gf_82_1, gf_82_2, gf_82_3, gf_82_4, gf_82_5, gf_82_6, pf_82_6, gf_82_7, pf_82_7, gf_82_8, pf_82_8, gf_82_9, pf_82_9, gf_82_10, pf_82_10, gf_82_11, pf_82_11, gf_82_12, pf_82_12, gf_82_13, gf_82_14, gf_82_15, gf_82_16, pf_82_16, gf_82_17, gf_82_18, gf_82_19, gf_82_20, gf_82_21, gf_82_22, gf_82_23, gf_82_24, gf_82_25, pf_82_25, ga_83, wi_83, ga_84, wi_84, ga_85, wb_85, ga_86, wi_86, ga_87, wb_87, ga_88, wi_88, ga_89, wi_89, ga_90, wi_90, ga_91, wi_91, ga_92, wi_92, ga_93, wi_93, ga_94, wi_94, ga_95, wi_95, ga_96, wb_96, ga_97, wi_97, ga_98, wi_98, ga_99, wi_99, nl_add, nl_add', nl_mul, nI_add, in_t, cl_n, le_nn, lt_nn, le_ln, le_nl, lt_nl, lt_ln, eq_nn, eq_nl, in_lit, cl_lit, Nat.le_refl, Nat.add_zero, k8, e0, h3]
end S91
theorem nm_0 {n p : Nat} {b : Nat → Nat} (hpn : p ≤ n) : nmE n b p 0 = (isB n b p 4 99 111 108 && thB n b p 3 115 0) := by
  obtain ⟨b1, b2, b3, b4⟩ := @tB_p n p b hpn
  unfold nmE isB thB
  by_cases h1 : tK n b p = 1
  · by_cases h2 : tB n b p - tS n b p = 4
    · have hb : ∀ k, k < 4 → bA n b (tS n b p + k) = nI (b (tS n b p + k)) := fun k hk => by unfold bA; rw [if_pos (by omega)]
      have bA0 : bA n b (tS n b p) = nI (b (tS n b p)) := hb 0 (by decide)
      have bA1 : bA n b (tS n b p + 1) = nI (b (tS n b p + 1)) := hb 1 (by decide)
      have bA2 : bA n b (tS n b p + 2) = nI (b (tS n b p + 2)) := hb 2 (by decide)
      have bA3 : bA n b (tS n b p + 3) = nI (b (tS n b p + 3)) := hb 3 (by decide)
      simp [h1, h2, bA0, bA1, bA2, bA3, alF, wL, wB, am_sl, am_sb, Bool.and_assoc]
    · simp [h1, h2, wL, am_sl]
  · simp [h1]
theorem nm_1 {n p : Nat} {b : Nat → Nat} (hpn : p ≤ n) : nmE n b p 1 = (isB n b p 6 114 101 112 && (thB n b p 3 101 97 && thB n b p 5 116 0)) := by
  obtain ⟨b1, b2, b3, b4⟩ := @tB_p n p b hpn
  unfold nmE isB thB
  by_cases h1 : tK n b p = 1
  · by_cases h2 : tB n b p - tS n b p = 6
    · have hb : ∀ k, k < 6 → bA n b (tS n b p + k) = nI (b (tS n b p + k)) := fun k hk => by unfold bA; rw [if_pos (by omega)]
      have bA0 : bA n b (tS n b p) = nI (b (tS n b p)) := hb 0 (by decide)
      have bA1 : bA n b (tS n b p + 1) = nI (b (tS n b p + 1)) := hb 1 (by decide)
      have bA2 : bA n b (tS n b p + 2) = nI (b (tS n b p + 2)) := hb 2 (by decide)
      have bA3 : bA n b (tS n b p + 3) = nI (b (tS n b p + 3)) := hb 3 (by decide)
      have bA4 : bA n b (tS n b p + 4) = nI (b (tS n b p + 4)) := hb 4 (by decide)
      have bA5 : bA n b (tS n b p + 5) = nI (b (tS n b p + 5)) := hb 5 (by decide)
      simp [h1, h2, bA0, bA1, bA2, bA3, bA4, bA5, alF, wL, wB, am_sl, am_sb, Bool.and_assoc]
    · simp [h1, h2, wL, am_sl]
  · simp [h1]
theorem nm_2 {n p : Nat} {b : Nat → Nat} (hpn : p ≤ n) : nmE n b p 2 = isB n b p 3 102 105 120 := by
  obtain ⟨b1, b2, b3, b4⟩ := @tB_p n p b hpn
  unfold nmE isB
  by_cases h1 : tK n b p = 1
  · by_cases h2 : tB n b p - tS n b p = 3
    · have hb : ∀ k, k < 3 → bA n b (tS n b p + k) = nI (b (tS n b p + k)) := fun k hk => by unfold bA; rw [if_pos (by omega)]
      have bA0 : bA n b (tS n b p) = nI (b (tS n b p)) := hb 0 (by decide)
      have bA1 : bA n b (tS n b p + 1) = nI (b (tS n b p + 1)) := hb 1 (by decide)
      have bA2 : bA n b (tS n b p + 2) = nI (b (tS n b p + 2)) := hb 2 (by decide)
      simp [h1, h2, bA0, bA1, bA2, alF, wL, wB, am_sl, am_sb, Bool.and_assoc]
    · simp [h1, h2, wL, am_sl]
  · simp [h1]
theorem nm_3 {n p : Nat} {b : Nat → Nat} (hpn : p ≤ n) : nmE n b p 3 = (isB n b p 4 97 117 116 && thB n b p 3 111 0) := by
  obtain ⟨b1, b2, b3, b4⟩ := @tB_p n p b hpn
  unfold nmE isB thB
  by_cases h1 : tK n b p = 1
  · by_cases h2 : tB n b p - tS n b p = 4
    · have hb : ∀ k, k < 4 → bA n b (tS n b p + k) = nI (b (tS n b p + k)) := fun k hk => by unfold bA; rw [if_pos (by omega)]
      have bA0 : bA n b (tS n b p) = nI (b (tS n b p)) := hb 0 (by decide)
      have bA1 : bA n b (tS n b p + 1) = nI (b (tS n b p + 1)) := hb 1 (by decide)
      have bA2 : bA n b (tS n b p + 2) = nI (b (tS n b p + 2)) := hb 2 (by decide)
      have bA3 : bA n b (tS n b p + 3) = nI (b (tS n b p + 3)) := hb 3 (by decide)
      simp [h1, h2, bA0, bA1, bA2, bA3, alF, wL, wB, am_sl, am_sb, Bool.and_assoc]
    · simp [h1, h2, wL, am_sl]
  · simp [h1]
theorem nm_4 {n p : Nat} {b : Nat → Nat} (hpn : p ≤ n) : nmE n b p 4 = (isB n b p 4 102 108 101 && thB n b p 3 120 0) := by
  obtain ⟨b1, b2, b3, b4⟩ := @tB_p n p b hpn
  unfold nmE isB thB
  by_cases h1 : tK n b p = 1
  · by_cases h2 : tB n b p - tS n b p = 4
    · have hb : ∀ k, k < 4 → bA n b (tS n b p + k) = nI (b (tS n b p + k)) := fun k hk => by unfold bA; rw [if_pos (by omega)]
      have bA0 : bA n b (tS n b p) = nI (b (tS n b p)) := hb 0 (by decide)
      have bA1 : bA n b (tS n b p + 1) = nI (b (tS n b p + 1)) := hb 1 (by decide)
      have bA2 : bA n b (tS n b p + 2) = nI (b (tS n b p + 2)) := hb 2 (by decide)
      have bA3 : bA n b (tS n b p + 3) = nI (b (tS n b p + 3)) := hb 3 (by decide)
      simp [h1, h2, bA0, bA1, bA2, bA3, alF, wL, wB, am_sl, am_sb, Bool.and_assoc]
    · simp [h1, h2, wL, am_sl]
  · simp [h1]
theorem nm_5 {n p : Nat} {b : Nat → Nat} (hpn : p ≤ n) : nmE n b p 5 = isB n b p 3 103 97 112 := by
  obtain ⟨b1, b2, b3, b4⟩ := @tB_p n p b hpn
  unfold nmE isB
  by_cases h1 : tK n b p = 1
  · by_cases h2 : tB n b p - tS n b p = 3
    · have hb : ∀ k, k < 3 → bA n b (tS n b p + k) = nI (b (tS n b p + k)) := fun k hk => by unfold bA; rw [if_pos (by omega)]
      have bA0 : bA n b (tS n b p) = nI (b (tS n b p)) := hb 0 (by decide)
      have bA1 : bA n b (tS n b p + 1) = nI (b (tS n b p + 1)) := hb 1 (by decide)
      have bA2 : bA n b (tS n b p + 2) = nI (b (tS n b p + 2)) := hb 2 (by decide)
      simp [h1, h2, bA0, bA1, bA2, alF, wL, wB, am_sl, am_sb, Bool.and_assoc]
    · simp [h1, h2, wL, am_sl]
  · simp [h1]
theorem nm_6 {n p : Nat} {b : Nat → Nat} (hpn : p ≤ n) : nmE n b p 6 = (isB n b p 5 119 105 100 && thB n b p 3 116 104) := by
  obtain ⟨b1, b2, b3, b4⟩ := @tB_p n p b hpn
  unfold nmE isB thB
  by_cases h1 : tK n b p = 1
  · by_cases h2 : tB n b p - tS n b p = 5
    · have hb : ∀ k, k < 5 → bA n b (tS n b p + k) = nI (b (tS n b p + k)) := fun k hk => by unfold bA; rw [if_pos (by omega)]
      have bA0 : bA n b (tS n b p) = nI (b (tS n b p)) := hb 0 (by decide)
      have bA1 : bA n b (tS n b p + 1) = nI (b (tS n b p + 1)) := hb 1 (by decide)
      have bA2 : bA n b (tS n b p + 2) = nI (b (tS n b p + 2)) := hb 2 (by decide)
      have bA3 : bA n b (tS n b p + 3) = nI (b (tS n b p + 3)) := hb 3 (by decide)
      have bA4 : bA n b (tS n b p + 4) = nI (b (tS n b p + 4)) := hb 4 (by decide)
      simp [h1, h2, bA0, bA1, bA2, bA3, bA4, alF, wL, wB, am_sl, am_sb, Bool.and_assoc]
    · simp [h1, h2, wL, am_sl]
  · simp [h1]
theorem nm_7 {n p : Nat} {b : Nat → Nat} (hpn : p ≤ n) : nmE n b p 7 = (isB n b p 4 104 105 103 && thB n b p 3 104 0) := by
  obtain ⟨b1, b2, b3, b4⟩ := @tB_p n p b hpn
  unfold nmE isB thB
  by_cases h1 : tK n b p = 1
  · by_cases h2 : tB n b p - tS n b p = 4
    · have hb : ∀ k, k < 4 → bA n b (tS n b p + k) = nI (b (tS n b p + k)) := fun k hk => by unfold bA; rw [if_pos (by omega)]
      have bA0 : bA n b (tS n b p) = nI (b (tS n b p)) := hb 0 (by decide)
      have bA1 : bA n b (tS n b p + 1) = nI (b (tS n b p + 1)) := hb 1 (by decide)
      have bA2 : bA n b (tS n b p + 2) = nI (b (tS n b p + 2)) := hb 2 (by decide)
      have bA3 : bA n b (tS n b p + 3) = nI (b (tS n b p + 3)) := hb 3 (by decide)
      simp [h1, h2, bA0, bA1, bA2, bA3, alF, wL, wB, am_sl, am_sb, Bool.and_assoc]
    · simp [h1, h2, wL, am_sl]
  · simp [h1]
theorem nm_8 {n p : Nat} {b : Nat → Nat} (hpn : p ≤ n) : nmE n b p 8 = (isB n b p 4 108 105 110 && thB n b p 3 101 0) := by
  obtain ⟨b1, b2, b3, b4⟩ := @tB_p n p b hpn
  unfold nmE isB thB
  by_cases h1 : tK n b p = 1
  · by_cases h2 : tB n b p - tS n b p = 4
    · have hb : ∀ k, k < 4 → bA n b (tS n b p + k) = nI (b (tS n b p + k)) := fun k hk => by unfold bA; rw [if_pos (by omega)]
      have bA0 : bA n b (tS n b p) = nI (b (tS n b p)) := hb 0 (by decide)
      have bA1 : bA n b (tS n b p + 1) = nI (b (tS n b p + 1)) := hb 1 (by decide)
      have bA2 : bA n b (tS n b p + 2) = nI (b (tS n b p + 2)) := hb 2 (by decide)
      have bA3 : bA n b (tS n b p + 3) = nI (b (tS n b p + 3)) := hb 3 (by decide)
      simp [h1, h2, bA0, bA1, bA2, bA3, alF, wL, wB, am_sl, am_sb, Bool.and_assoc]
    · simp [h1, h2, wL, am_sl]
  · simp [h1]
theorem nm_9 {n p : Nat} {b : Nat → Nat} (hpn : p ≤ n) : nmE n b p 9 = (isB n b p 4 105 116 101 && thB n b p 3 109 0) := by
  obtain ⟨b1, b2, b3, b4⟩ := @tB_p n p b hpn
  unfold nmE isB thB
  by_cases h1 : tK n b p = 1
  · by_cases h2 : tB n b p - tS n b p = 4
    · have hb : ∀ k, k < 4 → bA n b (tS n b p + k) = nI (b (tS n b p + k)) := fun k hk => by unfold bA; rw [if_pos (by omega)]
      have bA0 : bA n b (tS n b p) = nI (b (tS n b p)) := hb 0 (by decide)
      have bA1 : bA n b (tS n b p + 1) = nI (b (tS n b p + 1)) := hb 1 (by decide)
      have bA2 : bA n b (tS n b p + 2) = nI (b (tS n b p + 2)) := hb 2 (by decide)
      have bA3 : bA n b (tS n b p + 3) = nI (b (tS n b p + 3)) := hb 3 (by decide)
      simp [h1, h2, bA0, bA1, bA2, bA3, alF, wL, wB, am_sl, am_sb, Bool.and_assoc]
    · simp [h1, h2, wL, am_sl]
  · simp [h1]
theorem nm_10 {n p : Nat} {b : Nat → Nat} (hpn : p ≤ n) : nmE n b p 10 = isB n b p 3 114 111 119 := by
  obtain ⟨b1, b2, b3, b4⟩ := @tB_p n p b hpn
  unfold nmE isB
  by_cases h1 : tK n b p = 1
  · by_cases h2 : tB n b p - tS n b p = 3
    · have hb : ∀ k, k < 3 → bA n b (tS n b p + k) = nI (b (tS n b p + k)) := fun k hk => by unfold bA; rw [if_pos (by omega)]
      have bA0 : bA n b (tS n b p) = nI (b (tS n b p)) := hb 0 (by decide)
      have bA1 : bA n b (tS n b p + 1) = nI (b (tS n b p + 1)) := hb 1 (by decide)
      have bA2 : bA n b (tS n b p + 2) = nI (b (tS n b p + 2)) := hb 2 (by decide)
      simp [h1, h2, bA0, bA1, bA2, alF, wL, wB, am_sl, am_sb, Bool.and_assoc]
    · simp [h1, h2, wL, am_sl]
  · simp [h1]
theorem nm_11 {n p : Nat} {b : Nat → Nat} (hpn : p ≤ n) : nmE n b p 11 = isB n b p 2 97 116 0 := by
  obtain ⟨b1, b2, b3, b4⟩ := @tB_p n p b hpn
  unfold nmE isB
  by_cases h1 : tK n b p = 1
  · by_cases h2 : tB n b p - tS n b p = 2
    · have hb : ∀ k, k < 2 → bA n b (tS n b p + k) = nI (b (tS n b p + k)) := fun k hk => by unfold bA; rw [if_pos (by omega)]
      have bA0 : bA n b (tS n b p) = nI (b (tS n b p)) := hb 0 (by decide)
      have bA1 : bA n b (tS n b p + 1) = nI (b (tS n b p + 1)) := hb 1 (by decide)
      simp [h1, h2, bA0, bA1, alF, wL, wB, am_sl, am_sb, Bool.and_assoc]
    · simp [h1, h2, wL, am_sl]
  · simp [h1]
theorem nm_12 {n p : Nat} {b : Nat → Nat} (hpn : p ≤ n) : nmE n b p 12 = isB n b p 3 99 111 108 := by
  obtain ⟨b1, b2, b3, b4⟩ := @tB_p n p b hpn
  unfold nmE isB
  by_cases h1 : tK n b p = 1
  · by_cases h2 : tB n b p - tS n b p = 3
    · have hb : ∀ k, k < 3 → bA n b (tS n b p + k) = nI (b (tS n b p + k)) := fun k hk => by unfold bA; rw [if_pos (by omega)]
      have bA0 : bA n b (tS n b p) = nI (b (tS n b p)) := hb 0 (by decide)
      have bA1 : bA n b (tS n b p + 1) = nI (b (tS n b p + 1)) := hb 1 (by decide)
      have bA2 : bA n b (tS n b p + 2) = nI (b (tS n b p + 2)) := hb 2 (by decide)
      simp [h1, h2, bA0, bA1, bA2, alF, wL, wB, am_sl, am_sb, Bool.and_assoc]
    · simp [h1, h2, wL, am_sl]
  · simp [h1]
