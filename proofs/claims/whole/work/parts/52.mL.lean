/-! shares by need, the reference -/
def nbX (s : Nat → Int32) : Nat → Int32 := fun c => s (11 + c)
section S52
variable {X : am_X} {M : Nat → Nat → Int32}
theorem findFlexFree_i {sz : Nat → Int32} (hwf : wf (M 83)) (hC : stX (M 83) (M 90)) (hs : ∀ c, c < nC (M 83) → M 92 c = sz c) :
    ∃ uv : Value × Value × Value, am_ev X kX9_findFlexFree 4 [.ref 82, .int 0, .int (nI 0), am_u, am_u, am_u] [] (hp M) = am_ev X kX9_findFlexFree 4 [.ref 82, .int ((glX (M 83) (M 90) (mI (M 83))).foldl (sh1 (kdX (M 83)) (nbX (M 83)) sz (M 83 1)) 0), .int (nI (mI (M 83))), uv.1, uv.2.1, uv.2.2] [] (hp M) := by
  have hn := hwf.1.2
  have hm := hwf.2.1.2
  have h25 := hwf.2.1.1
  have hlp := loop_inv (fun i (uv : Value × Value × Value) => am_ev X kX9_findFlexFree 4 [.ref 82, .int ((glX (M 83) (M 90) i).foldl (sh1 (kdX (M 83)) (nbX (M 83)) sz (M 83 1)) 0), .int (nI i), uv.1, uv.2.1, uv.2.2] [] (hp M)) (fun _ _ => True) 0 (mI (M 83)) (by omega) (am_u, am_u, am_u) trivial ?_
  · obtain ⟨uv, e, -⟩ := hlp
    exact ⟨uv, e⟩
  intro i uv _ hi _
  have hl : ¬ mI (M 83) ≤ i := by omega
  have hw := (hwf.2.2.1 i hi).1.1
  rcases hC i hi with hz | ⟨a, ha, haw⟩
  · refine ⟨(.int 0, .int 0, uv.2.2), ?_, trivial⟩
    have eg : glX (M 83) (M 90) (i + 1) = glX (M 83) (M 90) i := by unfold glX; rw [gst, if_pos hz]
    rw [eg]
    conv => lhs; rw [iX9_findFlexFree_4]
    simp (disch := omega) only [iX9_findFlexFree_5, iX9_findFlexFree_6, iX9_findFlexFree_9, iX9_findFlexFree_11, iX9_findFlexFree_12, iX9_findFlexFree_15, iX9_findFlexFree_16, iX9_findFlexFree_19, iX9_findFlexFree_20, iX9_findFlexFree_21, iX9_findFlexFree_23, iX9_findFlexFree_26, iX9_findFlexFree_27, iX9_findFlexFree_30, iX9_findFlexFree_31, iX9_findFlexFree_32, iX9_findFlexFree_33, iX9_findFlexFree_34, iX9_findFlexFree_37, iX9_findFlexFree_38, iX9_findFlexFree_39, iX9_findFlexFree_42, iX9_findFlexFree_43, iX9_findFlexFree_46, iX9_findFlexFree_47, iX9_findFlexFree_48, iX9_findFlexFree_51, iX9_findFlexFree_53, iX9_findFlexFree_55, iX9_findFlexFree_58, iX9_findFlexFree_60, iX9_findFlexFree_61, iX9_findFlexFree_62, iX9_findFlexFree_63, iX9_findFlexFree_64, iX9_findFlexFree_65, iX9_findFlexFree_66, iX9_findFlexFree_68, iX9_findFlexFree_70, iX9_findFlexFree_71, iX9_findFlexFree_74, iX9_findFlexFree_76, iX9_findFlexFree_79, iX9_findFlexFree_80, iX9_findFlexFree_81, iX9_findFlexFree_84, true_or, or_true, Option.bind_some, Option.bind_none, kk_hp, kn_hp, el_i, el_b, el_z, am_cat_nil, am_cat_i, am_cat_r, am_cat_l, am_cat_n, gd_i, gd_r, gd_n, gd_u, List.length_cons, List.length_nil, true_and, and_true, ↓reduceIte, Nat.zero_le, Nat.reduceLeDiff, Nat.reduceAdd, e_10, e_01, e_00, e_11, Int32.reduceLE, Int32.reduceLT, Int32.reduceAdd, Int32.reduceSub, b01, if_true, if_false, ite_self, rc_82, gf_82_0, gf_82_1, gf_82_2, gf_82_3, gf_82_4, gf_82_5, gf_82_6, pf_82_6, gf_82_7, pf_82_7, gf_82_8, pf_82_8, gf_82_9, pf_82_9, gf_82_10, pf_82_10, gf_82_11, pf_82_11, gf_82_12, pf_82_12, gf_82_13, gf_82_14, gf_82_15, gf_82_16, pf_82_16, gf_82_17, gf_82_18, gf_82_19, gf_82_20, gf_82_21, gf_82_22, gf_82_23, gf_82_24, gf_82_25, pf_82_25, ga_83, wi_83, ga_84, wi_84, ga_85, wb_85, ga_86, wi_86, ga_87, wb_87, ga_88, wi_88, ga_89, wi_89, ga_90, wi_90, ga_91, wi_91, ga_92, wi_92, ga_93, wi_93, ga_94, wi_94, ga_95, wi_95, ga_96, wb_96, ga_97, wi_97, ga_98, wi_98, ga_99, wi_99, nl_add, nl_add', nl_mul, nI_add, in_t, cl_n, le_nn, lt_nn, le_ln, le_nl, lt_nl, lt_ln, eq_nn, eq_nl, in_lit, cl_lit, Nat.le_refl, Nat.add_zero, h25, hz, hl]
  · have hne : ¬ M 90 i = -4 := by rw [ha]; exact nI_ne (by omega)
    have eg : glX (M 83) (M 90) (i + 1) = glX (M 83) (M 90) i ++ [(a, wI (M 83) i, M 83 (26 + 6 * i + 2))] := by
      unfold glX
      rw [gst, if_neg hne, ha, nI_clamp (by omega)]
    rw [eg, List.foldl_append]
    generalize (glX (M 83) (M 90) i).foldl (sh1 (kdX (M 83)) (nbX (M 83)) sz (M 83 1)) 0 = x at *
    show ∃ s' : Value × Value × Value, _ = am_ev X kX9_findFlexFree 4 [.ref 82, .int (sh1 (kdX (M 83)) (nbX (M 83)) sz (M 83 1) x (a, wI (M 83) i, M 83 (26 + 6 * i + 2))), _, _, _, _] [] _ ∧ _
    have ec := @M_columnsOf X M i a (wI (M 83) i) 2 1 (by omega) ha hw (by omega)
    have ec2 : cOf (M 83) a 2 1 (wI (M 83) i) = sS (kdX (M 83)) (nbX (M 83)) a (wI (M 83) i) := by
      unfold cOf sS kdX nbX
      refine sm_ext (fun j _ => ?_)
      rw [if_neg (show ¬ (1 : Int32) = 0 by decide), Nat.add_assoc, Nat.add_assoc]
    obtain ⟨S, eSn, S1, S2⟩ := @flex_S (kdX (M 83)) (nbX (M 83)) a (wI (M 83) i) (fun d hd h2 => hwf.2.2.2 (a + d) (by omega) h2)
    have hSS : sS (kdX (M 83)) (nbX (M 83)) a (wI (M 83) i) = nI S := eSn
    rw [ec2, hSS] at ec
    have elk := @M_lacksX X M i a (wI (M 83) i) (by omega) ha hw (by omega)
    have elk2 : (M 83 (26 + 6 * i + 2) - if wI (M 83) i ≤ 0 then 0 else (nI (wI (M 83) i) - 1) * M 83 1) - sm (fun d => if M 83 (5 + a + d) = 2 then 0 else M 92 (a + d)) (wI (M 83) i) = lk (kdX (M 83)) sz (M 83 1) (a, wI (M 83) i, M 83 (26 + 6 * i + 2)) := by
      unfold lk kdX
      dsimp only
      congr 1
      refine sm_ext (fun d hd => ?_)
      rw [Nat.add_assoc, hs (a + d) (by omega)]
    rw [elk2] at elk
    have hfl := fc_le (kdX (M 83)) a (wI (M 83) i)
    unfold sh1
    dsimp only
    rw [hSS]
    generalize lk (kdX (M 83)) sz (M 83 1) (a, wI (M 83) i, M 83 (26 + 6 * i + 2)) = y at *
    by_cases h1 : fc (kdX (M 83)) a (wI (M 83) i) = 0
    · have hS0 : S = 0 := by omega
      subst hS0
      refine ⟨(.int (nI 0), .int 0, uv.2.2), ?_, trivial⟩
      rw [if_pos (Or.inl h1)]
      conv => lhs; rw [iX9_findFlexFree_4]
      simp (disch := omega) only [iX9_findFlexFree_5, iX9_findFlexFree_6, iX9_findFlexFree_9, iX9_findFlexFree_11, iX9_findFlexFree_12, iX9_findFlexFree_15, iX9_findFlexFree_16, iX9_findFlexFree_19, iX9_findFlexFree_20, iX9_findFlexFree_21, iX9_findFlexFree_23, iX9_findFlexFree_26, iX9_findFlexFree_27, iX9_findFlexFree_30, iX9_findFlexFree_31, iX9_findFlexFree_32, iX9_findFlexFree_33, iX9_findFlexFree_34, iX9_findFlexFree_37, iX9_findFlexFree_38, iX9_findFlexFree_39, iX9_findFlexFree_42, iX9_findFlexFree_43, iX9_findFlexFree_46, iX9_findFlexFree_47, iX9_findFlexFree_48, iX9_findFlexFree_51, iX9_findFlexFree_53, iX9_findFlexFree_55, iX9_findFlexFree_58, iX9_findFlexFree_60, iX9_findFlexFree_61, iX9_findFlexFree_62, iX9_findFlexFree_63, iX9_findFlexFree_64, iX9_findFlexFree_65, iX9_findFlexFree_66, iX9_findFlexFree_68, iX9_findFlexFree_70, iX9_findFlexFree_71, iX9_findFlexFree_74, iX9_findFlexFree_76, iX9_findFlexFree_79, iX9_findFlexFree_80, iX9_findFlexFree_81, iX9_findFlexFree_84, true_or, or_true, Option.bind_some, Option.bind_none, kk_hp, kn_hp, el_i, el_b, el_z, am_cat_nil, am_cat_i, am_cat_r, am_cat_l, am_cat_n, gd_i, gd_r, gd_n, gd_u, List.length_cons, List.length_nil, true_and, and_true, ↓reduceIte, Nat.zero_le, Nat.reduceLeDiff, Nat.reduceAdd, e_10, e_01, e_00, e_11, Int32.reduceLE, Int32.reduceLT, Int32.reduceAdd, Int32.reduceSub, b01, if_true, if_false, ite_self, rc_82, gf_82_0, gf_82_1, gf_82_2, gf_82_3, gf_82_4, gf_82_5, gf_82_6, pf_82_6, gf_82_7, pf_82_7, gf_82_8, pf_82_8, gf_82_9, pf_82_9, gf_82_10, pf_82_10, gf_82_11, pf_82_11, gf_82_12, pf_82_12, gf_82_13, gf_82_14, gf_82_15, gf_82_16, pf_82_16, gf_82_17, gf_82_18, gf_82_19, gf_82_20, gf_82_21, gf_82_22, gf_82_23, gf_82_24, gf_82_25, pf_82_25, ga_83, wi_83, ga_84, wi_84, ga_85, wb_85, ga_86, wi_86, ga_87, wb_87, ga_88, wi_88, ga_89, wi_89, ga_90, wi_90, ga_91, wi_91, ga_92, wi_92, ga_93, wi_93, ga_94, wi_94, ga_95, wi_95, ga_96, wb_96, ga_97, wi_97, ga_98, wi_98, ga_99, wi_99, nl_add, nl_add', nl_mul, nI_add, in_t, cl_n, le_nn, lt_nn, le_ln, le_nl, lt_nl, lt_ln, eq_nn, eq_nl, in_lit, cl_lit, Nat.le_refl, Nat.add_zero, h25, hne, hl, ec, nI_0]
    · have hSz := nI_ne0 (show 0 < S by omega) (show S < 2 ^ 31 by omega)
      by_cases h2 : y ≤ 0
      · refine ⟨(.int (nI S), .int y, uv.2.2), ?_, trivial⟩
        rw [if_pos (Or.inr h2)]
        conv => lhs; rw [iX9_findFlexFree_4]
        simp (disch := omega) only [iX9_findFlexFree_5, iX9_findFlexFree_6, iX9_findFlexFree_9, iX9_findFlexFree_11, iX9_findFlexFree_12, iX9_findFlexFree_15, iX9_findFlexFree_16, iX9_findFlexFree_19, iX9_findFlexFree_20, iX9_findFlexFree_21, iX9_findFlexFree_23, iX9_findFlexFree_26, iX9_findFlexFree_27, iX9_findFlexFree_30, iX9_findFlexFree_31, iX9_findFlexFree_32, iX9_findFlexFree_33, iX9_findFlexFree_34, iX9_findFlexFree_37, iX9_findFlexFree_38, iX9_findFlexFree_39, iX9_findFlexFree_42, iX9_findFlexFree_43, iX9_findFlexFree_46, iX9_findFlexFree_47, iX9_findFlexFree_48, iX9_findFlexFree_51, iX9_findFlexFree_53, iX9_findFlexFree_55, iX9_findFlexFree_58, iX9_findFlexFree_60, iX9_findFlexFree_61, iX9_findFlexFree_62, iX9_findFlexFree_63, iX9_findFlexFree_64, iX9_findFlexFree_65, iX9_findFlexFree_66, iX9_findFlexFree_68, iX9_findFlexFree_70, iX9_findFlexFree_71, iX9_findFlexFree_74, iX9_findFlexFree_76, iX9_findFlexFree_79, iX9_findFlexFree_80, iX9_findFlexFree_81, iX9_findFlexFree_84, true_or, or_true, Option.bind_some, Option.bind_none, kk_hp, kn_hp, el_i, el_b, el_z, am_cat_nil, am_cat_i, am_cat_r, am_cat_l, am_cat_n, gd_i, gd_r, gd_n, gd_u, List.length_cons, List.length_nil, true_and, and_true, ↓reduceIte, Nat.zero_le, Nat.reduceLeDiff, Nat.reduceAdd, e_10, e_01, e_00, e_11, Int32.reduceLE, Int32.reduceLT, Int32.reduceAdd, Int32.reduceSub, b01, if_true, if_false, ite_self, rc_82, gf_82_0, gf_82_1, gf_82_2, gf_82_3, gf_82_4, gf_82_5, gf_82_6, pf_82_6, gf_82_7, pf_82_7, gf_82_8, pf_82_8, gf_82_9, pf_82_9, gf_82_10, pf_82_10, gf_82_11, pf_82_11, gf_82_12, pf_82_12, gf_82_13, gf_82_14, gf_82_15, gf_82_16, pf_82_16, gf_82_17, gf_82_18, gf_82_19, gf_82_20, gf_82_21, gf_82_22, gf_82_23, gf_82_24, gf_82_25, pf_82_25, ga_83, wi_83, ga_84, wi_84, ga_85, wb_85, ga_86, wi_86, ga_87, wb_87, ga_88, wi_88, ga_89, wi_89, ga_90, wi_90, ga_91, wi_91, ga_92, wi_92, ga_93, wi_93, ga_94, wi_94, ga_95, wi_95, ga_96, wb_96, ga_97, wi_97, ga_98, wi_98, ga_99, wi_99, nl_add, nl_add', nl_mul, nI_add, in_t, cl_n, le_nn, lt_nn, le_ln, le_nl, lt_nl, lt_ln, eq_nn, eq_nl, in_lit, cl_lit, Nat.le_refl, Nat.add_zero, h25, hne, hl, ec, hSz, elk, h2]
      · refine ⟨(.int (nI S), .int y, .int ((y + nI S - 1) / nI S)), ?_, trivial⟩
        rw [if_neg (not_or.mpr ⟨h1, h2⟩)]
        conv => lhs; rw [iX9_findFlexFree_4]
        simp (disch := omega) only [iX9_findFlexFree_5, iX9_findFlexFree_6, iX9_findFlexFree_9, iX9_findFlexFree_11, iX9_findFlexFree_12, iX9_findFlexFree_15, iX9_findFlexFree_16, iX9_findFlexFree_19, iX9_findFlexFree_20, iX9_findFlexFree_21, iX9_findFlexFree_23, iX9_findFlexFree_26, iX9_findFlexFree_27, iX9_findFlexFree_30, iX9_findFlexFree_31, iX9_findFlexFree_32, iX9_findFlexFree_33, iX9_findFlexFree_34, iX9_findFlexFree_37, iX9_findFlexFree_38, iX9_findFlexFree_39, iX9_findFlexFree_42, iX9_findFlexFree_43, iX9_findFlexFree_46, iX9_findFlexFree_47, iX9_findFlexFree_48, iX9_findFlexFree_51, iX9_findFlexFree_53, iX9_findFlexFree_55, iX9_findFlexFree_58, iX9_findFlexFree_60, iX9_findFlexFree_61, iX9_findFlexFree_62, iX9_findFlexFree_63, iX9_findFlexFree_64, iX9_findFlexFree_65, iX9_findFlexFree_66, iX9_findFlexFree_68, iX9_findFlexFree_70, iX9_findFlexFree_71, iX9_findFlexFree_74, iX9_findFlexFree_76, iX9_findFlexFree_79, iX9_findFlexFree_80, iX9_findFlexFree_81, iX9_findFlexFree_84, true_or, or_true, Option.bind_some, Option.bind_none, kk_hp, kn_hp, el_i, el_b, el_z, am_cat_nil, am_cat_i, am_cat_r, am_cat_l, am_cat_n, gd_i, gd_r, gd_n, gd_u, List.length_cons, List.length_nil, true_and, and_true, ↓reduceIte, Nat.zero_le, Nat.reduceLeDiff, Nat.reduceAdd, e_10, e_01, e_00, e_11, Int32.reduceLE, Int32.reduceLT, Int32.reduceAdd, Int32.reduceSub, b01, if_true, if_false, ite_self, rc_82, gf_82_0, gf_82_1, gf_82_2, gf_82_3, gf_82_4, gf_82_5, gf_82_6, pf_82_6, gf_82_7, pf_82_7, gf_82_8, pf_82_8, gf_82_9, pf_82_9, gf_82_10, pf_82_10, gf_82_11, pf_82_11, gf_82_12, pf_82_12, gf_82_13, gf_82_14, gf_82_15, gf_82_16, pf_82_16, gf_82_17, gf_82_18, gf_82_19, gf_82_20, gf_82_21, gf_82_22, gf_82_23, gf_82_24, gf_82_25, pf_82_25, ga_83, wi_83, ga_84, wi_84, ga_85, wb_85, ga_86, wi_86, ga_87, wb_87, ga_88, wi_88, ga_89, wi_89, ga_90, wi_90, ga_91, wi_91, ga_92, wi_92, ga_93, wi_93, ga_94, wi_94, ga_95, wi_95, ga_96, wb_96, ga_97, wi_97, ga_98, wi_98, ga_99, wi_99, nl_add, nl_add', nl_mul, nI_add, in_t, cl_n, le_nn, lt_nn, le_ln, le_nl, lt_nl, lt_ln, eq_nn, eq_nl, in_lit, cl_lit, Nat.le_refl, Nat.add_zero, h25, hne, hl, ec, hSz, elk, h2]
        split <;> rfl
end S52
