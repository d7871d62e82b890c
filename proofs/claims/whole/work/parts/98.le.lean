/-! lines: an item, ii -/
def itK (d : Nat → Int32) (v0 v1 v2 v3 : Int32) : Nat → Int32 := upd (upd (upd (upd (app d 1 1 0 0) (26 + 6 * mI d) v0) (26 + 6 * mI d + 1) v1) (26 + 6 * mI d + 2) v2) (26 + 6 * mI d + 3) v3
theorem itK_lo {d : Nat → Int32} {v0 v1 v2 v3 : Int32} {j : Nat} (h : j ≠ 25) (h2 : j < 26 + 6 * mI d) : itK d v0 v1 v2 v3 j = d j := by
  unfold itK
  rw [pk_un (by omega), pk_un (by omega), pk_un (by omega), pk_un (by omega), app_lo h h2]
theorem itK_25 {d : Nat → Int32} {v0 v1 v2 v3 : Int32} : itK d v0 v1 v2 v3 25 = nI (mI d + 1) := by
  unfold itK
  rw [pk_un (by omega), pk_un (by omega), pk_un (by omega), pk_un (by omega), app_25]
theorem itK_4 {d : Nat → Int32} {v0 v1 v2 v3 : Int32} : itK d v0 v1 v2 v3 (26 + 6 * mI d + 4) = -4 ∧ itK d v0 v1 v2 v3 (26 + 6 * mI d + 5) = -4 ∧ itK d v0 v1 v2 v3 (26 + 6 * mI d) = v0 ∧ itK d v0 v1 v2 v3 (26 + 6 * mI d + 1) = v1 := by
  unfold itK
  refine ⟨?_, ?_, ?_, ?_⟩
  · rw [pk_un (by omega), pk_un (by omega), pk_un (by omega), pk_un (by omega), app_4]
  · rw [pk_un (by omega), pk_un (by omega), pk_un (by omega), pk_un (by omega), app_5]
  · rw [pk_un (by omega), pk_un (by omega), pk_un (by omega), pk_us]
  · rw [pk_un (by omega), pk_un (by omega), pk_us]
theorem it_eq {d : Nat → Int32} {v0 v1 v2 v3 : Int32} (h25 : d 25 = nI (mI d)) : upd (upd (upd (upd (upd (upd d (26 + 6 * mI d + 4) (-4)) (26 + 6 * mI d + 5) (-4)) (26 + 6 * mI d) v0) (26 + 6 * mI d + 1) v1) (26 + 6 * mI d + 2) v2) (26 + 6 * mI d + 3) v3 = upd (itK d v0 v1 v2 v3) 25 (nI (mI d)) := by
  unfold itK
  funext j
  by_cases e25 : j = 25
  · rw [e25, pk_us, pk_un (by omega), pk_un (by omega), pk_un (by omega), pk_un (by omega), pk_un (by omega), pk_un (by omega)]; exact h25
  · rw [pk_un e25]
    by_cases e3 : j = 26 + 6 * mI d + 3
    · rw [e3, pk_us, pk_us]
    · rw [pk_un e3, pk_un e3]
      by_cases e2 : j = 26 + 6 * mI d + 2
      · rw [e2, pk_us, pk_us]
      · rw [pk_un e2, pk_un e2]
        by_cases e1 : j = 26 + 6 * mI d + 1
        · rw [e1, pk_us, pk_us]
        · rw [pk_un e1, pk_un e1]
          by_cases e0 : j = 26 + 6 * mI d
          · rw [e0, pk_us, pk_us]
          · rw [pk_un e0, pk_un e0]
            by_cases e5 : j = 26 + 6 * mI d + 5
            · rw [e5, pk_us, app_5]
            · rw [pk_un e5]
              by_cases e4 : j = 26 + 6 * mI d + 4
              · rw [e4, pk_us, app_4]
              · rw [pk_un e4]
                unfold app
                rw [pk_un e25, pk_un e5, pk_un e4, pk_un e3, pk_un e2, pk_un e1, pk_un e0]
theorem dW_it {d : Nat → Int32} {v0 v1 v2 v3 : Int32} (h : dW d) (hm : mI d < 10) {w t : Nat} (hv0 : v0 = nI w) (hw : 1 ≤ w ∧ w ≤ 6) (hv1 : v1 = nI t) (ht : 1 ≤ t ∧ t ≤ 4) : dW (itK d v0 v1 v2 v3) := by
  obtain ⟨a1, a2, a3, a4, a5⟩ := h
  have en : nC (itK d v0 v1 v2 v3) = nC d := by unfold nC; rw [itK_lo (by decide) (by omega)]
  have em : mI (itK d v0 v1 v2 v3) = mI d + 1 := by show (itK d v0 v1 v2 v3 25).toNatClampNeg = _; rw [itK_25, nI_clamp (by omega)]
  obtain ⟨k4, k5, k0, k1⟩ := @itK_4 d v0 v1 v2 v3
  have := a1.2
  refine ⟨by rw [itK_lo (by decide) (by omega), en]; exact a1, by rw [em, itK_25]; exact ⟨rfl, by omega⟩, fun i hi => ?_, fun v hv => by rw [itK_lo (by omega) (by omega)]; exact a4 v hv, fun c hc => by rw [en] at hc; rw [itK_lo (by omega) (by omega), itK_lo (by omega) (by omega)]; exact a5 c hc⟩
  rw [em] at hi
  by_cases him : i = mI d
  · subst him
    unfold dI
    rw [k0, k1, k4, k5]
    exact ⟨⟨w, hv0, hw⟩, ⟨t, hv1, ht⟩, Or.inl rfl, Or.inl rfl⟩
  · exact dI_ext (a3 i (by omega)) (fun q hq => itK_lo (by omega) (by omega))
section S98
variable {X : am_X} {M : Nat → Nat → Int32}
theorem f15_w {w : Nat} (hw : w < 6) {K : Value → Option am_Q} : am_ela (am_gq (hp M) 18) (nI w) K = K (.ref (19 + w)) := fG (g := 15) (Or.inr (Or.inl rfl)) hw
theorem w15_w {w : Nat} (hw : w < 6) {i x : Int32} : am_wi (hp M) (19 + w) i x = if am_in i 10 = true then some (hp (up M (19 + w) i.toNatClampNeg x)) else none := wGr (g := 15) (Or.inr (Or.inl rfl)) hw
theorem itemN {n q w i : Nat} {b : Nat → Nat} (ht : TP M n b) (h5 : M 13 5 = nI q) (hq : q ≤ n) (hw : w < 4) (hi : i < 10) : ∃ K', (nO n b q (([1, 1, 0, 0] : List Int32).getD w 0) (([6, 4, 99, 99] : List Int32).getD w 0) = none → am_ev X kX6_takeItemLine 30 [.ref 12, .int (nI i), .int (nI w)] [] (hp M) = am_ev X kX6_takeItemLine 30 [.ref 12, .int (nI i), .int (nI (w + 1))] [] (hp (up K' (19 + w) i (tV n b q))) ∧ K' 12 = M 12) ∧
    (∀ c, nO n b q (([1, 1, 0, 0] : List Int32).getD w 0) (([6, 4, 99, 99] : List Int32).getD w 0) = some c → am_ev X kX6_takeItemLine 30 [.ref 12, .int (nI i), .int (nI w)] [] (hp M) = some (some (.int 0), hp K') ∧ cF K' c (tS n b q)) ∧ cS M K' ∧ TP K' n b ∧ CK K' n b q := by
  obtain ⟨K1, e1, c1, p1, k1, n1, s1⟩ := @C_takeNumber X M n q b (([1, 1, 0, 0] : List Int32).getD w 0) (([6, 4, 99, 99] : List Int32).getD w 0) ht h5 hq
  refine ⟨K1, fun hO => ⟨?_, n1 hO⟩, fun c hO => ⟨?_, s1 c hO⟩, c1, p1, k1⟩
  · rw [if_pos hO] at e1
    have kv := k1.2.2.2 (nO_n hO).1
    conv => lhs; rw [iX6_takeItemLine_30]
    simp (disch := omega) only [iX6_takeItemLine_31, iX6_takeItemLine_32, iX6_takeItemLine_35, iX6_takeItemLine_36, iX6_takeItemLine_39, iX6_takeItemLine_40, iX6_takeItemLine_41, iX6_takeItemLine_44, iX6_takeItemLine_45, iX6_takeItemLine_46, iX6_takeItemLine_49, iX6_takeItemLine_52, iX6_takeItemLine_53, iX6_takeItemLine_54, iX6_takeItemLine_55, iX6_takeItemLine_58, iX6_takeItemLine_61, iX6_takeItemLine_62, iX6_takeItemLine_63, iX6_takeItemLine_64, iX6_takeItemLine_65, iX6_takeItemLine_68, iX6_takeItemLine_71, iX6_takeItemLine_72, iX6_takeItemLine_75, true_or, or_true, Option.bind_some, Option.bind_none, kk_hp, kn_hp, el_i, el_b, el_z, am_cat_nil, am_cat_i, am_cat_r, am_cat_l, am_cat_n, gd_i, gd_r, gd_n, gd_u, List.length_cons, List.length_nil, true_and, and_true, ↓reduceIte, Nat.zero_le, Nat.reduceLeDiff, Nat.reduceAdd, e_10, e_01, e_00, e_11, Int32.reduceLE, Int32.reduceLT, Int32.reduceAdd, Int32.reduceSub, b01, if_true, if_false, ite_self, rc_12, gf_12_0, gf_12_1, gf_12_2, pf_12_2, gf_12_3, pf_12_3, gf_12_4, pf_12_4, gf_12_5, pf_12_5, gf_12_6, pf_12_6, gf_12_7, pf_12_7, rc_13, gf_13_0, gf_13_1, pf_13_1, gf_13_2, pf_13_2, gf_13_3, pf_13_3, gf_13_4, pf_13_4, gf_13_5, pf_13_5, rc_15, gf_15_0, pf_15_0, gf_15_1, gf_15_2, gf_15_3, pf_15_3, gf_15_4, pf_15_4, gf_15_5, pf_15_5, gf_15_6, pf_15_6, gf_15_7, pf_15_7, gf_15_8, gf_15_9, nl_add, nl_add', nl_mul, nI_add, in_t, cl_n, le_nn, lt_nn, le_ln, le_nl, lt_nl, lt_ln, eq_nn, eq_nl, in_lit, cl_lit, Nat.le_refl, Nat.add_zero, ga_2000, ga_2001, f15_w, w15_w, show ¬ 4 ≤ w by omega, e1, kv]
  · rw [hO, if_neg (by simp)] at e1
    conv => lhs; rw [iX6_takeItemLine_30]
    simp (disch := omega) only [iX6_takeItemLine_31, iX6_takeItemLine_32, iX6_takeItemLine_35, iX6_takeItemLine_36, iX6_takeItemLine_39, iX6_takeItemLine_40, iX6_takeItemLine_41, iX6_takeItemLine_44, iX6_takeItemLine_45, iX6_takeItemLine_46, iX6_takeItemLine_49, iX6_takeItemLine_52, iX6_takeItemLine_53, iX6_takeItemLine_54, iX6_takeItemLine_55, iX6_takeItemLine_58, iX6_takeItemLine_61, iX6_takeItemLine_62, iX6_takeItemLine_63, iX6_takeItemLine_64, iX6_takeItemLine_65, iX6_takeItemLine_68, iX6_takeItemLine_71, iX6_takeItemLine_72, iX6_takeItemLine_75, true_or, or_true, Option.bind_some, Option.bind_none, kk_hp, kn_hp, el_i, el_b, el_z, am_cat_nil, am_cat_i, am_cat_r, am_cat_l, am_cat_n, gd_i, gd_r, gd_n, gd_u, List.length_cons, List.length_nil, true_and, and_true, ↓reduceIte, Nat.zero_le, Nat.reduceLeDiff, Nat.reduceAdd, e_10, e_01, e_00, e_11, Int32.reduceLE, Int32.reduceLT, Int32.reduceAdd, Int32.reduceSub, b01, if_true, if_false, ite_self, rc_12, gf_12_0, gf_12_1, gf_12_2, pf_12_2, gf_12_3, pf_12_3, gf_12_4, pf_12_4, gf_12_5, pf_12_5, gf_12_6, pf_12_6, gf_12_7, pf_12_7, rc_13, gf_13_0, gf_13_1, pf_13_1, gf_13_2, pf_13_2, gf_13_3, pf_13_3, gf_13_4, pf_13_4, gf_13_5, pf_13_5, rc_15, gf_15_0, pf_15_0, gf_15_1, gf_15_2, gf_15_3, pf_15_3, gf_15_4, pf_15_4, gf_15_5, pf_15_5, gf_15_6, pf_15_6, gf_15_7, pf_15_7, gf_15_8, gf_15_9, nl_add, nl_add', nl_mul, nI_add, in_t, cl_n, le_nn, lt_nn, le_ln, le_nl, lt_nl, lt_ln, eq_nn, eq_nl, in_lit, cl_lit, Nat.le_refl, Nat.add_zero, ga_2000, ga_2001, show ¬ 4 ≤ w by omega, e1]
theorem rI_0 {n q c : Nat} {b : Nat → Nat} (ht : TQ M n b) (hT : TK M n b q) (hq : q ≤ n) (hc : c + 6 ≤ 86) : ∃ R, rS M R ∧ am_ev X kX9_readItem 34 [.ref 82, .int (nI c)] [] (hp M) = am_ev X kX9_readItem 49 [.ref 82, .int (nI c)] [] (hp (up R 86 (c) (if nO n b q 1 6 = none then tV n b q else 0))) ∧ (nO n b q 1 6 = none → TK R n b (tB n b q)) ∧ ∀ x, nO n b q 1 6 = some x → rF R x (tS n b q) := by
  obtain ⟨R1, r1, r2, r3, r4⟩ := @M_readNumber X M n q b 1 6 ht hT hq
  refine ⟨R1, r2, ?_, r3, r4⟩
  simp (disch := omega) only [iX9_readItem_34, iX9_readItem_35, iX9_readItem_38, iX9_readItem_39, iX9_readItem_40, iX9_readItem_41, iX9_readItem_42, iX9_readItem_43, iX9_readItem_45, iX9_readItem_48, true_or, or_true, Option.bind_some, Option.bind_none, kk_hp, kn_hp, el_i, el_b, el_z, am_cat_nil, am_cat_i, am_cat_r, am_cat_l, am_cat_n, gd_i, gd_r, gd_n, gd_u, List.length_cons, List.length_nil, true_and, and_true, ↓reduceIte, Nat.zero_le, Nat.reduceLeDiff, Nat.reduceAdd, e_10, e_01, e_00, e_11, Int32.reduceLE, Int32.reduceLT, Int32.reduceAdd, Int32.reduceSub, b01, if_true, if_false, ite_self, rc_82, gf_82_0, gf_82_1, gf_82_2, gf_82_3, gf_82_4, gf_82_5, gf_82_6, pf_82_6, gf_82_7, pf_82_7, gf_82_8, pf_82_8, gf_82_9, pf_82_9, gf_82_10, pf_82_10, gf_82_11, pf_82_11, gf_82_12, pf_82_12, gf_82_13, gf_82_14, gf_82_15, gf_82_16, pf_82_16, gf_82_17, gf_82_18, gf_82_19, gf_82_20, gf_82_21, gf_82_22, gf_82_23, gf_82_24, gf_82_25, pf_82_25, ga_83, wi_83, ga_84, wi_84, ga_85, wb_85, ga_86, wi_86, ga_87, wb_87, ga_88, wi_88, ga_89, wi_89, ga_90, wi_90, ga_91, wi_91, ga_92, wi_92, ga_93, wi_93, ga_94, wi_94, ga_95, wi_95, ga_96, wb_96, ga_97, wi_97, ga_98, wi_98, ga_99, wi_99, nl_add, nl_add', nl_mul, nI_add, in_t, cl_n, le_nn, lt_nn, le_ln, le_nl, lt_nl, lt_ln, eq_nn, eq_nl, in_lit, cl_lit, Nat.le_refl, Nat.add_zero, r1]
theorem rIF_0 {c : Nat} (h : 0 < M 82 11) (hc : c + 6 ≤ 86) : am_ev X kX9_readItem 34 [.ref 82, .int (nI c)] [] (hp M) = am_ev X kX9_readItem 49 [.ref 82, .int (nI c)] [] (hp (up M 86 (c) 0)) := by
  have r1 := @M_readNumberF X M 1 6 h
  simp (disch := omega) only [iX9_readItem_34, iX9_readItem_35, iX9_readItem_38, iX9_readItem_39, iX9_readItem_40, iX9_readItem_41, iX9_readItem_42, iX9_readItem_43, iX9_readItem_45, iX9_readItem_48, true_or, or_true, Option.bind_some, Option.bind_none, kk_hp, kn_hp, el_i, el_b, el_z, am_cat_nil, am_cat_i, am_cat_r, am_cat_l, am_cat_n, gd_i, gd_r, gd_n, gd_u, List.length_cons, List.length_nil, true_and, and_true, ↓reduceIte, Nat.zero_le, Nat.reduceLeDiff, Nat.reduceAdd, e_10, e_01, e_00, e_11, Int32.reduceLE, Int32.reduceLT, Int32.reduceAdd, Int32.reduceSub, b01, if_true, if_false, ite_self, rc_82, gf_82_0, gf_82_1, gf_82_2, gf_82_3, gf_82_4, gf_82_5, gf_82_6, pf_82_6, gf_82_7, pf_82_7, gf_82_8, pf_82_8, gf_82_9, pf_82_9, gf_82_10, pf_82_10, gf_82_11, pf_82_11, gf_82_12, pf_82_12, gf_82_13, gf_82_14, gf_82_15, gf_82_16, pf_82_16, gf_82_17, gf_82_18, gf_82_19, gf_82_20, gf_82_21, gf_82_22, gf_82_23, gf_82_24, gf_82_25, pf_82_25, ga_83, wi_83, ga_84, wi_84, ga_85, wb_85, ga_86, wi_86, ga_87, wb_87, ga_88, wi_88, ga_89, wi_89, ga_90, wi_90, ga_91, wi_91, ga_92, wi_92, ga_93, wi_93, ga_94, wi_94, ga_95, wi_95, ga_96, wb_96, ga_97, wi_97, ga_98, wi_98, ga_99, wi_99, nl_add, nl_add', nl_mul, nI_add, in_t, cl_n, le_nn, lt_nn, le_ln, le_nl, lt_nl, lt_ln, eq_nn, eq_nl, in_lit, cl_lit, Nat.le_refl, Nat.add_zero, r1]
theorem rI_1 {n q c : Nat} {b : Nat → Nat} (ht : TQ M n b) (hT : TK M n b q) (hq : q ≤ n) (hc : c + 6 ≤ 86) : ∃ R, rS M R ∧ am_ev X kX9_readItem 49 [.ref 82, .int (nI c)] [] (hp M) = am_ev X kX9_readItem 63 [.ref 82, .int (nI c)] [] (hp (up R 86 (c + 1) (if nO n b q 1 4 = none then tV n b q else 0))) ∧ (nO n b q 1 4 = none → TK R n b (tB n b q)) ∧ ∀ x, nO n b q 1 4 = some x → rF R x (tS n b q) := by
  obtain ⟨R1, r1, r2, r3, r4⟩ := @M_readNumber X M n q b 1 4 ht hT hq
  refine ⟨R1, r2, ?_, r3, r4⟩
  simp (disch := omega) only [iX9_readItem_49, iX9_readItem_50, iX9_readItem_53, iX9_readItem_54, iX9_readItem_55, iX9_readItem_56, iX9_readItem_57, iX9_readItem_58, iX9_readItem_59, iX9_readItem_62, true_or, or_true, Option.bind_some, Option.bind_none, kk_hp, kn_hp, el_i, el_b, el_z, am_cat_nil, am_cat_i, am_cat_r, am_cat_l, am_cat_n, gd_i, gd_r, gd_n, gd_u, List.length_cons, List.length_nil, true_and, and_true, ↓reduceIte, Nat.zero_le, Nat.reduceLeDiff, Nat.reduceAdd, e_10, e_01, e_00, e_11, Int32.reduceLE, Int32.reduceLT, Int32.reduceAdd, Int32.reduceSub, b01, if_true, if_false, ite_self, rc_82, gf_82_0, gf_82_1, gf_82_2, gf_82_3, gf_82_4, gf_82_5, gf_82_6, pf_82_6, gf_82_7, pf_82_7, gf_82_8, pf_82_8, gf_82_9, pf_82_9, gf_82_10, pf_82_10, gf_82_11, pf_82_11, gf_82_12, pf_82_12, gf_82_13, gf_82_14, gf_82_15, gf_82_16, pf_82_16, gf_82_17, gf_82_18, gf_82_19, gf_82_20, gf_82_21, gf_82_22, gf_82_23, gf_82_24, gf_82_25, pf_82_25, ga_83, wi_83, ga_84, wi_84, ga_85, wb_85, ga_86, wi_86, ga_87, wb_87, ga_88, wi_88, ga_89, wi_89, ga_90, wi_90, ga_91, wi_91, ga_92, wi_92, ga_93, wi_93, ga_94, wi_94, ga_95, wi_95, ga_96, wb_96, ga_97, wi_97, ga_98, wi_98, ga_99, wi_99, nl_add, nl_add', nl_mul, nI_add, in_t, cl_n, le_nn, lt_nn, le_ln, le_nl, lt_nl, lt_ln, eq_nn, eq_nl, in_lit, cl_lit, Nat.le_refl, Nat.add_zero, r1]
theorem rIF_1 {c : Nat} (h : 0 < M 82 11) (hc : c + 6 ≤ 86) : am_ev X kX9_readItem 49 [.ref 82, .int (nI c)] [] (hp M) = am_ev X kX9_readItem 63 [.ref 82, .int (nI c)] [] (hp (up M 86 (c + 1) 0)) := by
  have r1 := @M_readNumberF X M 1 4 h
  simp (disch := omega) only [iX9_readItem_49, iX9_readItem_50, iX9_readItem_53, iX9_readItem_54, iX9_readItem_55, iX9_readItem_56, iX9_readItem_57, iX9_readItem_58, iX9_readItem_59, iX9_readItem_62, true_or, or_true, Option.bind_some, Option.bind_none, kk_hp, kn_hp, el_i, el_b, el_z, am_cat_nil, am_cat_i, am_cat_r, am_cat_l, am_cat_n, gd_i, gd_r, gd_n, gd_u, List.length_cons, List.length_nil, true_and, and_true, ↓reduceIte, Nat.zero_le, Nat.reduceLeDiff, Nat.reduceAdd, e_10, e_01, e_00, e_11, Int32.reduceLE, Int32.reduceLT, Int32.reduceAdd, Int32.reduceSub, b01, if_true, if_false, ite_self, rc_82, gf_82_0, gf_82_1, gf_82_2, gf_82_3, gf_82_4, gf_82_5, gf_82_6, pf_82_6, gf_82_7, pf_82_7, gf_82_8, pf_82_8, gf_82_9, pf_82_9, gf_82_10, pf_82_10, gf_82_11, pf_82_11, gf_82_12, pf_82_12, gf_82_13, gf_82_14, gf_82_15, gf_82_16, pf_82_16, gf_82_17, gf_82_18, gf_82_19, gf_82_20, gf_82_21, gf_82_22, gf_82_23, gf_82_24, gf_82_25, pf_82_25, ga_83, wi_83, ga_84, wi_84, ga_85, wb_85, ga_86, wi_86, ga_87, wb_87, ga_88, wi_88, ga_89, wi_89, ga_90, wi_90, ga_91, wi_91, ga_92, wi_92, ga_93, wi_93, ga_94, wi_94, ga_95, wi_95, ga_96, wb_96, ga_97, wi_97, ga_98, wi_98, ga_99, wi_99, nl_add, nl_add', nl_mul, nI_add, in_t, cl_n, le_nn, lt_nn, le_ln, le_nl, lt_nl, lt_ln, eq_nn, eq_nl, in_lit, cl_lit, Nat.le_refl, Nat.add_zero, r1]
theorem rI_2 {n q c : Nat} {b : Nat → Nat} (ht : TQ M n b) (hT : TK M n b q) (hq : q ≤ n) (hc : c + 6 ≤ 86) : ∃ R, rS M R ∧ am_ev X kX9_readItem 63 [.ref 82, .int (nI c)] [] (hp M) = am_ev X kX9_readItem 78 [.ref 82, .int (nI c)] [] (hp (up R 86 (c + 2) (if nO n b q 0 99 = none then tV n b q else 0))) ∧ (nO n b q 0 99 = none → TK R n b (tB n b q)) ∧ ∀ x, nO n b q 0 99 = some x → rF R x (tS n b q) := by
  obtain ⟨R1, r1, r2, r3, r4⟩ := @M_readNumber X M n q b 0 99 ht hT hq
  refine ⟨R1, r2, ?_, r3, r4⟩
  simp (disch := omega) only [iX9_readItem_63, iX9_readItem_64, iX9_readItem_67, iX9_readItem_68, iX9_readItem_69, iX9_readItem_70, iX9_readItem_71, iX9_readItem_72, iX9_readItem_74, iX9_readItem_77, true_or, or_true, Option.bind_some, Option.bind_none, kk_hp, kn_hp, el_i, el_b, el_z, am_cat_nil, am_cat_i, am_cat_r, am_cat_l, am_cat_n, gd_i, gd_r, gd_n, gd_u, List.length_cons, List.length_nil, true_and, and_true, ↓reduceIte, Nat.zero_le, Nat.reduceLeDiff, Nat.reduceAdd, e_10, e_01, e_00, e_11, Int32.reduceLE, Int32.reduceLT, Int32.reduceAdd, Int32.reduceSub, b01, if_true, if_false, ite_self, rc_82, gf_82_0, gf_82_1, gf_82_2, gf_82_3, gf_82_4, gf_82_5, gf_82_6, pf_82_6, gf_82_7, pf_82_7, gf_82_8, pf_82_8, gf_82_9, pf_82_9, gf_82_10, pf_82_10, gf_82_11, pf_82_11, gf_82_12, pf_82_12, gf_82_13, gf_82_14, gf_82_15, gf_82_16, pf_82_16, gf_82_17, gf_82_18, gf_82_19, gf_82_20, gf_82_21, gf_82_22, gf_82_23, gf_82_24, gf_82_25, pf_82_25, ga_83, wi_83, ga_84, wi_84, ga_85, wb_85, ga_86, wi_86, ga_87, wb_87, ga_88, wi_88, ga_89, wi_89, ga_90, wi_90, ga_91, wi_91, ga_92, wi_92, ga_93, wi_93, ga_94, wi_94, ga_95, wi_95, ga_96, wb_96, ga_97, wi_97, ga_98, wi_98, ga_99, wi_99, nl_add, nl_add', nl_mul, nI_add, in_t, cl_n, le_nn, lt_nn, le_ln, le_nl, lt_nl, lt_ln, eq_nn, eq_nl, in_lit, cl_lit, Nat.le_refl, Nat.add_zero, r1]
theorem rIF_2 {c : Nat} (h : 0 < M 82 11) (hc : c + 6 ≤ 86) : am_ev X kX9_readItem 63 [.ref 82, .int (nI c)] [] (hp M) = am_ev X kX9_readItem 78 [.ref 82, .int (nI c)] [] (hp (up M 86 (c + 2) 0)) := by
  have r1 := @M_readNumberF X M 0 99 h
  simp (disch := omega) only [iX9_readItem_63, iX9_readItem_64, iX9_readItem_67, iX9_readItem_68, iX9_readItem_69, iX9_readItem_70, iX9_readItem_71, iX9_readItem_72, iX9_readItem_74, iX9_readItem_77, true_or, or_true, Option.bind_some, Option.bind_none, kk_hp, kn_hp, el_i, el_b, el_z, am_cat_nil, am_cat_i, am_cat_r, am_cat_l, am_cat_n, gd_i, gd_r, gd_n, gd_u, List.length_cons, List.length_nil, true_and, and_true, ↓reduceIte, Nat.zero_le, Nat.reduceLeDiff, Nat.reduceAdd, e_10, e_01, e_00, e_11, Int32.reduceLE, Int32.reduceLT, Int32.reduceAdd, Int32.reduceSub, b01, if_true, if_false, ite_self, rc_82, gf_82_0, gf_82_1, gf_82_2, gf_82_3, gf_82_4, gf_82_5, gf_82_6, pf_82_6, gf_82_7, pf_82_7, gf_82_8, pf_82_8, gf_82_9, pf_82_9, gf_82_10, pf_82_10, gf_82_11, pf_82_11, gf_82_12, pf_82_12, gf_82_13, gf_82_14, gf_82_15, gf_82_16, pf_82_16, gf_82_17, gf_82_18, gf_82_19, gf_82_20, gf_82_21, gf_82_22, gf_82_23, gf_82_24, gf_82_25, pf_82_25, ga_83, wi_83, ga_84, wi_84, ga_85, wb_85, ga_86, wi_86, ga_87, wb_87, ga_88, wi_88, ga_89, wi_89, ga_90, wi_90, ga_91, wi_91, ga_92, wi_92, ga_93, wi_93, ga_94, wi_94, ga_95, wi_95, ga_96, wb_96, ga_97, wi_97, ga_98, wi_98, ga_99, wi_99, nl_add, nl_add', nl_mul, nI_add, in_t, cl_n, le_nn, lt_nn, le_ln, le_nl, lt_nl, lt_ln, eq_nn, eq_nl, in_lit, cl_lit, Nat.le_refl, Nat.add_zero, r1]
theorem rI_3 {n q c : Nat} {b : Nat → Nat} (ht : TQ M n b) (hT : TK M n b q) (hq : q ≤ n) (hc : c + 6 ≤ 86) : ∃ R, rS M R ∧ am_ev X kX9_readItem 78 [.ref 82, .int (nI c)] [] (hp M) = am_ev X kX9_readItem 93 [.ref 82, .int (nI c)] [] (hp (up R 86 (c + 3) (if nO n b q 0 99 = none then tV n b q else 0))) ∧ (nO n b q 0 99 = none → TK R n b (tB n b q)) ∧ ∀ x, nO n b q 0 99 = some x → rF R x (tS n b q) := by
  obtain ⟨R1, r1, r2, r3, r4⟩ := @M_readNumber X M n q b 0 99 ht hT hq
  refine ⟨R1, r2, ?_, r3, r4⟩
  simp (disch := omega) only [iX9_readItem_78, iX9_readItem_79, iX9_readItem_82, iX9_readItem_83, iX9_readItem_84, iX9_readItem_85, iX9_readItem_86, iX9_readItem_87, iX9_readItem_89, iX9_readItem_92, true_or, or_true, Option.bind_some, Option.bind_none, kk_hp, kn_hp, el_i, el_b, el_z, am_cat_nil, am_cat_i, am_cat_r, am_cat_l, am_cat_n, gd_i, gd_r, gd_n, gd_u, List.length_cons, List.length_nil, true_and, and_true, ↓reduceIte, Nat.zero_le, Nat.reduceLeDiff, Nat.reduceAdd, e_10, e_01, e_00, e_11, Int32.reduceLE, Int32.reduceLT, Int32.reduceAdd, Int32.reduceSub, b01, if_true, if_false, ite_self, rc_82, gf_82_0, gf_82_1, gf_82_2, gf_82_3, gf_82_4, gf_82_5, gf_82_6, pf_82_6, gf_82_7, pf_82_7, gf_82_8, pf_82_8, gf_82_9, pf_82_9, gf_82_10, pf_82_10, gf_82_11, pf_82_11, gf_82_12, pf_82_12, gf_82_13, gf_82_14, gf_82_15, gf_82_16, pf_82_16, gf_82_17, gf_82_18, gf_82_19, gf_82_20, gf_82_21, gf_82_22, gf_82_23, gf_82_24, gf_82_25, pf_82_25, ga_83, wi_83, ga_84, wi_84, ga_85, wb_85, ga_86, wi_86, ga_87, wb_87, ga_88, wi_88, ga_89, wi_89, ga_90, wi_90, ga_91, wi_91, ga_92, wi_92, ga_93, wi_93, ga_94, wi_94, ga_95, wi_95, ga_96, wb_96, ga_97, wi_97, ga_98, wi_98, ga_99, wi_99, nl_add, nl_add', nl_mul, nI_add, in_t, cl_n, le_nn, lt_nn, le_ln, le_nl, lt_nl, lt_ln, eq_nn, eq_nl, in_lit, cl_lit, Nat.le_refl, Nat.add_zero, r1]
theorem rIF_3 {c : Nat} (h : 0 < M 82 11) (hc : c + 6 ≤ 86) : am_ev X kX9_readItem 78 [.ref 82, .int (nI c)] [] (hp M) = am_ev X kX9_readItem 93 [.ref 82, .int (nI c)] [] (hp (up M 86 (c + 3) 0)) := by
  have r1 := @M_readNumberF X M 0 99 h
  simp (disch := omega) only [iX9_readItem_78, iX9_readItem_79, iX9_readItem_82, iX9_readItem_83, iX9_readItem_84, iX9_readItem_85, iX9_readItem_86, iX9_readItem_87, iX9_readItem_89, iX9_readItem_92, true_or, or_true, Option.bind_some, Option.bind_none, kk_hp, kn_hp, el_i, el_b, el_z, am_cat_nil, am_cat_i, am_cat_r, am_cat_l, am_cat_n, gd_i, gd_r, gd_n, gd_u, List.length_cons, List.length_nil, true_and, and_true, ↓reduceIte, Nat.zero_le, Nat.reduceLeDiff, Nat.reduceAdd, e_10, e_01, e_00, e_11, Int32.reduceLE, Int32.reduceLT, Int32.reduceAdd, Int32.reduceSub, b01, if_true, if_false, ite_self, rc_82, gf_82_0, gf_82_1, gf_82_2, gf_82_3, gf_82_4, gf_82_5, gf_82_6, pf_82_6, gf_82_7, pf_82_7, gf_82_8, pf_82_8, gf_82_9, pf_82_9, gf_82_10, pf_82_10, gf_82_11, pf_82_11, gf_82_12, pf_82_12, gf_82_13, gf_82_14, gf_82_15, gf_82_16, pf_82_16, gf_82_17, gf_82_18, gf_82_19, gf_82_20, gf_82_21, gf_82_22, gf_82_23, gf_82_24, gf_82_25, pf_82_25, ga_83, wi_83, ga_84, wi_84, ga_85, wb_85, ga_86, wi_86, ga_87, wb_87, ga_88, wi_88, ga_89, wi_89, ga_90, wi_90, ga_91, wi_91, ga_92, wi_92, ga_93, wi_93, ga_94, wi_94, ga_95, wi_95, ga_96, wb_96, ga_97, wi_97, ga_98, wi_98, ga_99, wi_99, nl_add, nl_add', nl_mul, nI_add, in_t, cl_n, le_nn, lt_nn, le_ln, le_nl, lt_nl, lt_ln, eq_nn, eq_nl, in_lit, cl_lit, Nat.le_refl, Nat.add_zero, r1]
theorem rIE_4 {c : Nat} (h : 0 < M 82 11) : ∃ f, am_ev X kX9_readItem 93 [.ref 82, .int (nI c)] [] (hp M) = some (none, hp (ua M 86 f)) := by
  have hz : ¬ M 82 11 = 0 := fun z => by rw [z] at h; exact absurd h (by decide)
  refine ⟨upd (M 86) 25 (M 86 25 + 1), ?_⟩
  simp (disch := omega) only [iX9_readItem_93, iX9_readItem_94, iX9_readItem_97, iX9_readItem_117, iX9_readItem_118, iX9_readItem_121, iX9_readItem_123, iX9_readItem_124, iX9_readItem_125, iX9_readItem_126, iX9_readItem_127, iX9_readItem_128, true_or, or_true, Option.bind_some, Option.bind_none, kk_hp, kn_hp, el_i, el_b, el_z, am_cat_nil, am_cat_i, am_cat_r, am_cat_l, am_cat_n, gd_i, gd_r, gd_n, gd_u, List.length_cons, List.length_nil, true_and, and_true, ↓reduceIte, Nat.zero_le, Nat.reduceLeDiff, Nat.reduceAdd, e_10, e_01, e_00, e_11, Int32.reduceLE, Int32.reduceLT, Int32.reduceAdd, Int32.reduceSub, b01, if_true, if_false, ite_self, rc_82, gf_82_0, gf_82_1, gf_82_2, gf_82_3, gf_82_4, gf_82_5, gf_82_6, pf_82_6, gf_82_7, pf_82_7, gf_82_8, pf_82_8, gf_82_9, pf_82_9, gf_82_10, pf_82_10, gf_82_11, pf_82_11, gf_82_12, pf_82_12, gf_82_13, gf_82_14, gf_82_15, gf_82_16, pf_82_16, gf_82_17, gf_82_18, gf_82_19, gf_82_20, gf_82_21, gf_82_22, gf_82_23, gf_82_24, gf_82_25, pf_82_25, ga_83, wi_83, ga_84, wi_84, ga_85, wb_85, ga_86, wi_86, ga_87, wb_87, ga_88, wi_88, ga_89, wi_89, ga_90, wi_90, ga_91, wi_91, ga_92, wi_92, ga_93, wi_93, ga_94, wi_94, ga_95, wi_95, ga_96, wb_96, ga_97, wi_97, ga_98, wi_98, ga_99, wi_99, nl_add, nl_add', nl_mul, nI_add, in_t, cl_n, le_nn, lt_nn, le_ln, le_nl, lt_nl, lt_ln, eq_nn, eq_nl, in_lit, cl_lit, Nat.le_refl, Nat.add_zero, hz]
  rw [up_ua]
theorem rIE_3 {c : Nat} (h : 0 < M 82 11) (hc : c + 6 ≤ 86) : ∃ f, am_ev X kX9_readItem 78 [.ref 82, .int (nI c)] [] (hp M) = some (none, hp (ua M 86 f)) := by
  rw [rIF_3 h hc]
  obtain ⟨f, e⟩ := @rIE_4 X (up M 86 (c + 3) 0) c h
  refine ⟨f, ?_⟩
  rw [e, up_ua, up_up]
theorem rIE_2 {c : Nat} (h : 0 < M 82 11) (hc : c + 6 ≤ 86) : ∃ f, am_ev X kX9_readItem 63 [.ref 82, .int (nI c)] [] (hp M) = some (none, hp (ua M 86 f)) := by
  rw [rIF_2 h hc]
  obtain ⟨f, e⟩ := @rIE_3 X (up M 86 (c + 2) 0) c h hc
  refine ⟨f, ?_⟩
  rw [e, up_ua, up_up]
theorem rIE_1 {c : Nat} (h : 0 < M 82 11) (hc : c + 6 ≤ 86) : ∃ f, am_ev X kX9_readItem 49 [.ref 82, .int (nI c)] [] (hp M) = some (none, hp (ua M 86 f)) := by
  rw [rIF_1 h hc]
  obtain ⟨f, e⟩ := @rIE_2 X (up M 86 (c + 1) 0) c h hc
  refine ⟨f, ?_⟩
  rw [e, up_ua, up_up]
theorem rX_a {M : Nat → Nat → Int32} {f : Nat → Int32} : rX M (ua M 86 f) := ⟨fun a _ h2 _ => ua_n _ _ h2, fun j _ => rfl⟩
theorem Litem {n q : Nat} {b : Nat → Nat} {d : Nat → Int32} {td : Nat → Bool} (hX : X.2.2 = .null ∨ X.2.2 = .ref 1200) (ht : TP M n b) (h5 : M 13 5 = nI q) (hq : q ≤ n) (hR : RG M 15 d) (hd : dW d) (htd : tdC M td) (hm : mI d < 10) :
    ∃ r v M', am_ev X kX6_takeItemLine 0 [.ref 12, am_u, am_u] [] (hp M) = some (some (.int v), hp M') ∧ cX M M' ∧ lnC M M' n b q td v r ∧
      ∀ Mr u, TQ Mr n b → TK Mr n b q → Mr 86 = d → tdM Mr td → ∃ Mr1 Mr', am_ev X kX9_readLineOf 0 [.ref 82, .int 5] [] (hp Mr) = some (none, hp Mr1) ∧ am_ev X kX9_readLine 107 [.ref 82, .int u] [] (hp Mr1) = some (none, hp Mr') ∧ rX Mr Mr' ∧ lnM Mr' n b td r := by
  have h25 := hd.2.1.1
  obtain ⟨g1, g2⟩ := @tB_ge n q b hq
  obtain ⟨g3, g4⟩ := @tB_ge n (tB n b q) b g2
  obtain ⟨g5, g6⟩ := @tB_ge n (tB n b (tB n b q)) b g4
  obtain ⟨g7, g8⟩ := @tB_ge n (tB n b (tB n b (tB n b q))) b g6
  obtain ⟨K0, a0, f0, hR0⟩ := @C_append X M 15 d 1 1 0 0 (Or.inr (Or.inl rfl)) hR h25 hm hd.1.2
  have q7 : M 15 7 = nI (mI d) := hR.1.2.2.2.2.2.trans h25
  have t0 : TP K0 n b := TP_S ht (by rw [f0 13 (by decide)]; exact ht.2.1) (f0 14 (by decide))
  have k05 : K0 13 5 = nI q := by rw [f0 13 (by decide)]; exact h5
  have start : am_ev X kX6_takeItemLine 0 [.ref 12, am_u, am_u] [] (hp M) = am_ev X kX6_takeItemLine 30 [.ref 12, .int (nI (mI d)), .int (nI 0)] [] (hp K0) := by
    rw [nI_0]
    simp (disch := omega) only [iX6_takeItemLine_0, iX6_takeItemLine_1, iX6_takeItemLine_4, iX6_takeItemLine_7, iX6_takeItemLine_8, iX6_takeItemLine_9, iX6_takeItemLine_12, iX6_takeItemLine_13, iX6_takeItemLine_14, iX6_takeItemLine_15, iX6_takeItemLine_16, iX6_takeItemLine_19, iX6_takeItemLine_22, iX6_takeItemLine_23, iX6_takeItemLine_24, iX6_takeItemLine_27, iX6_takeItemLine_28, iX6_takeItemLine_29, true_or, or_true, Option.bind_some, Option.bind_none, kk_hp, kn_hp, el_i, el_b, el_z, am_cat_nil, am_cat_i, am_cat_r, am_cat_l, am_cat_n, gd_i, gd_r, gd_n, gd_u, List.length_cons, List.length_nil, true_and, and_true, ↓reduceIte, Nat.zero_le, Nat.reduceLeDiff, Nat.reduceAdd, e_10, e_01, e_00, e_11, Int32.reduceLE, Int32.reduceLT, Int32.reduceAdd, Int32.reduceSub, b01, if_true, if_false, ite_self, rc_12, gf_12_0, gf_12_1, gf_12_2, pf_12_2, gf_12_3, pf_12_3, gf_12_4, pf_12_4, gf_12_5, pf_12_5, gf_12_6, pf_12_6, gf_12_7, pf_12_7, rc_15, gf_15_0, pf_15_0, gf_15_1, gf_15_2, gf_15_3, pf_15_3, gf_15_4, pf_15_4, gf_15_5, pf_15_5, gf_15_6, pf_15_6, gf_15_7, pf_15_7, gf_15_8, gf_15_9, nl_add, nl_add', nl_mul, nI_add, in_t, cl_n, le_nn, lt_nn, le_ln, le_nl, lt_nl, lt_ln, eq_nn, eq_nl, in_lit, cl_lit, Nat.le_refl, Nat.add_zero, q7, a0]
  have rstart : ∀ Mr : Nat → Nat → Int32, Mr 86 = d → am_ev X kX9_readLineOf 0 [.ref 82, .int 5] [] (hp Mr) = (am_ev X kX9_readItem 34 [.ref 82, .int (nI (26 + 6 * mI d))] [] (hp (up (up Mr 86 (26 + 6 * mI d + 4) (-4)) 86 (26 + 6 * mI d + 5) (-4)))).bind (am_kk X kX9_readLineOf 116 [.ref 82, .int 5] [] (hp Mr)) := by
    intro Mr q3
    have q25 : Mr 86 25 = nI (mI d) := by rw [q3]; exact h25
    simp (disch := omega) only [iX9_readLineOf_0, iX9_readLineOf_1, iX9_readLineOf_112, iX9_readLineOf_113, iX9_readItem_0, iX9_readItem_2, iX9_readItem_4, iX9_readItem_5, iX9_readItem_8, iX9_readItem_10, iX9_readItem_11, iX9_readItem_12, iX9_readItem_13, iX9_readItem_14, iX9_readItem_15, iX9_readItem_18, iX9_readItem_19, iX9_readItem_20, iX9_readItem_21, iX9_readItem_23, iX9_readItem_24, iX9_readItem_25, iX9_readItem_28, iX9_readItem_29, iX9_readItem_30, iX9_readItem_31, iX9_readItem_33, true_or, or_true, Option.bind_some, Option.bind_none, kk_hp, kn_hp, el_i, el_b, el_z, am_cat_nil, am_cat_i, am_cat_r, am_cat_l, am_cat_n, gd_i, gd_r, gd_n, gd_u, List.length_cons, List.length_nil, true_and, and_true, ↓reduceIte, Nat.zero_le, Nat.reduceLeDiff, Nat.reduceAdd, e_10, e_01, e_00, e_11, Int32.reduceLE, Int32.reduceLT, Int32.reduceAdd, Int32.reduceSub, b01, if_true, if_false, ite_self, rc_82, gf_82_0, gf_82_1, gf_82_2, gf_82_3, gf_82_4, gf_82_5, gf_82_6, pf_82_6, gf_82_7, pf_82_7, gf_82_8, pf_82_8, gf_82_9, pf_82_9, gf_82_10, pf_82_10, gf_82_11, pf_82_11, gf_82_12, pf_82_12, gf_82_13, gf_82_14, gf_82_15, gf_82_16, pf_82_16, gf_82_17, gf_82_18, gf_82_19, gf_82_20, gf_82_21, gf_82_22, gf_82_23, gf_82_24, gf_82_25, pf_82_25, ga_83, wi_83, ga_84, wi_84, ga_85, wb_85, ga_86, wi_86, ga_87, wb_87, ga_88, wi_88, ga_89, wi_89, ga_90, wi_90, ga_91, wi_91, ga_92, wi_92, ga_93, wi_93, ga_94, wi_94, ga_95, wi_95, ga_96, wb_96, ga_97, wi_97, ga_98, wi_98, ga_99, wi_99, nl_add, nl_add', nl_mul, nI_add, in_t, cl_n, le_nn, lt_nn, le_ln, le_nl, lt_nl, lt_ln, eq_nn, eq_nl, in_lit, cl_lit, Nat.le_refl, Nat.add_zero, eq_ll, Nat.reduceEqDiff, q25]
  have rend : ∀ (Mr R : Nat → Nat → Int32), (am_kk X kX9_readLineOf 116 [.ref 82, .int 5] [] (hp Mr)) (none, hp R) = some (none, hp R) := fun Mr R => by
    simp (disch := omega) only [iX9_readLineOf_116, true_or, or_true, Option.bind_some, Option.bind_none, kk_hp, kn_hp, el_i, el_b, el_z, am_cat_nil, am_cat_i, am_cat_r, am_cat_l, am_cat_n, gd_i, gd_r, gd_n, gd_u, List.length_cons, List.length_nil, true_and, and_true, ↓reduceIte, Nat.zero_le, Nat.reduceLeDiff, Nat.reduceAdd, e_10, e_01, e_00, e_11, Int32.reduceLE, Int32.reduceLT, Int32.reduceAdd, Int32.reduceSub, b01, if_true, if_false, ite_self]
  have hc86 : 26 + 6 * mI d + 6 ≤ 86 := by omega
  have bad : ∀ (Mr R : Nat → Nat → Int32) (u x : Int32) (s : Nat) (f : Nat → Int32), rX Mr R → rF R x s → 0 < x → rX Mr (ua R 86 f) ∧ am_ev X kX9_readLine 107 [.ref 82, .int u] [] (hp (ua R 86 f)) = some (none, hp (ua R 86 f)) ∧ rF (ua R 86 f) x s := fun Mr R u x s f h1 h2 h3 => ⟨rX_t h1 rX_a, M_tailF (by show 0 < R 82 11; rw [h2.1]; exact h3), h2⟩
  obtain ⟨K1, s1, x1, c1, p1, ck1⟩ := @itemN X K0 n q 0 (mI d) b t0 k05 hq (by decide) hm
  simp only [List.getD_cons_zero] at s1 x1
  have fr1 : cX M K1 := fun a i1 i2 i3 => by rw [c1 a i1 i2]; exact f0 a (by omega)
  cases h0 : nO n b q 1 6 with
  | some x =>
    obtain ⟨e, cf⟩ := x1 x h0
    refine ⟨.inr (x, tS n b q), 0, K1, by rw [start, e], fr1, ⟨rfl, cf, nO_p h0⟩, fun Mr u q1 q2 q3 q4 => ?_⟩
    obtain ⟨R, r1, r2, r3, r4⟩ := @rI_0 X (up (up Mr 86 (26 + 6 * mI d + 4) (-4)) 86 (26 + 6 * mI d + 5) (-4)) n q (26 + 6 * mI d) b (TQ_fr q1 rfl rfl) (TK_u q2 rfl) hq hc86
    have hf := r4 x h0
    obtain ⟨f, ef⟩ := @rIE_1 X (up R 86 (26 + 6 * mI d) (if nO n b q 1 6 = none then tV n b q else 0)) (26 + 6 * mI d) (by show 0 < R 82 11; rw [hf.1]; exact nO_p h0) hc86
    have hx : rX Mr (up R 86 (26 + 6 * mI d) (if nO n b q 1 6 = none then tV n b q else 0)) := rX_t (rX_t (rX_t rX_u rX_u) (rX_S r1)) rX_u
    obtain ⟨y1, y2, y3⟩ := bad Mr _ u x (tS n b q) f hx hf (nO_p h0)
    exact ⟨_, _, by rw [rstart Mr q3, r2, ef, Option.bind_some, rend], y2, y1, y3⟩
  | none =>
    obtain ⟨e, n1⟩ := s1 h0
    obtain ⟨K2, s2, x2, c2, p2, ck2⟩ := @itemN X (up K1 19 (mI d) (tV n b q)) n (tB n b q) 1 (mI d) b p1 ck1.2.2.1 g2 (by decide) hm
    simp only [List.getD_cons_zero, List.getD_cons_succ] at s2 x2
    have fr2 : cX M K2 := fun a i1 i2 i3 => by rw [c2 a i1 i2, up_n _ _ _ (by omega)]; exact fr1 a i1 i2 i3
    have st2 : am_ev X kX6_takeItemLine 0 [.ref 12, am_u, am_u] [] (hp M) = am_ev X kX6_takeItemLine 30 [.ref 12, .int (nI (mI d)), .int (nI 1)] [] (hp (up K1 19 (mI d) (tV n b q))) := start.trans e
    have ref1 : ∀ Mr : Nat → Nat → Int32, TQ Mr n b → TK Mr n b q → Mr 86 = d → ∃ R, TQ R n b ∧ TK R n b (tB n b q) ∧ rX Mr R ∧ R 87 = Mr 87 ∧ R 86 = upd (upd (upd d (26 + 6 * mI d + 4) (-4)) (26 + 6 * mI d + 5) (-4)) (26 + 6 * mI d) (tV n b q) ∧ am_ev X kX9_readItem 34 [.ref 82, .int (nI (26 + 6 * mI d))] [] (hp (up (up Mr 86 (26 + 6 * mI d + 4) (-4)) 86 (26 + 6 * mI d + 5) (-4))) = am_ev X kX9_readItem 49 [.ref 82, .int (nI (26 + 6 * mI d))] [] (hp R) := by
      intro Mr q1 q2 q3
      obtain ⟨R, r1, r2, r3, r4⟩ := @rI_0 X (up (up Mr 86 (26 + 6 * mI d + 4) (-4)) 86 (26 + 6 * mI d + 5) (-4)) n q (26 + 6 * mI d) b (TQ_fr q1 rfl rfl) (TK_u q2 rfl) hq hc86
      rw [if_pos h0] at r2
      have tR : TQ R n b := TQ_S (M := up (up Mr 86 (26 + 6 * mI d + 4) (-4)) 86 (26 + 6 * mI d + 5) (-4)) (TQ_fr q1 rfl rfl) r1
      refine ⟨up R 86 (26 + 6 * mI d) (tV n b q), TQ_fr tR rfl rfl, TK_u (r3 h0) rfl, rX_t (rX_t (rX_t rX_u rX_u) (rX_S r1)) rX_u, ?_, ?_, r2⟩
      · rw [up_n _ _ _ (by decide), r1.1 87 (by decide)]; rfl
      · rw [up_s, r1.1 86 (by decide), up_s, up_s, q3]
    cases h1 : nO n b (tB n b q) 1 4 with
    | some x =>
      obtain ⟨e2, cf⟩ := x2 x h1
      refine ⟨.inr (x, tS n b (tB n b q)), 0, K2, by rw [st2, e2], fr2, ⟨rfl, cf, nO_p h1⟩, fun Mr u q1 q2 q3 q4 => ?_⟩
      obtain ⟨R1, w1, w2, w3, w4, w5, w6⟩ := ref1 Mr q1 q2 q3
      obtain ⟨R, r1, r2, r3, r4⟩ := @rI_1 X R1 n (tB n b q) (26 + 6 * mI d) b w1 w2 g2 hc86
      have hf := r4 x h1
      obtain ⟨f, ef⟩ := @rIE_2 X (up R 86 (26 + 6 * mI d + 1) (if nO n b (tB n b q) 1 4 = none then tV n b (tB n b q) else 0)) (26 + 6 * mI d) (by show 0 < R 82 11; rw [hf.1]; exact nO_p h1) hc86
      have hx : rX Mr (up R 86 (26 + 6 * mI d + 1) (if nO n b (tB n b q) 1 4 = none then tV n b (tB n b q) else 0)) := rX_t (rX_t w3 (rX_S r1)) rX_u
      obtain ⟨y1, y2, y3⟩ := bad Mr _ u x (tS n b (tB n b q)) f hx hf (nO_p h1)
      exact ⟨_, _, by rw [rstart Mr q3, w6, r2, ef, Option.bind_some, rend], y2, y1, y3⟩
    | none =>
      obtain ⟨e2, n2⟩ := s2 h1
      obtain ⟨K3, s3, x3, c3, p3, ck3⟩ := @itemN X (up K2 20 (mI d) (tV n b (tB n b q))) n (tB n b (tB n b q)) 2 (mI d) b p2 ck2.2.2.1 g4 (by decide) hm
      simp only [List.getD_cons_zero, List.getD_cons_succ] at s3 x3
      have fr3 : cX M K3 := fun a i1 i2 i3 => by rw [c3 a i1 i2, up_n _ _ _ (by omega)]; exact fr2 a i1 i2 i3
      have st3 : am_ev X kX6_takeItemLine 0 [.ref 12, am_u, am_u] [] (hp M) = am_ev X kX6_takeItemLine 30 [.ref 12, .int (nI (mI d)), .int (nI 2)] [] (hp (up K2 20 (mI d) (tV n b (tB n b q)))) := st2.trans e2
      have ref2 : ∀ Mr : Nat → Nat → Int32, TQ Mr n b → TK Mr n b q → Mr 86 = d → ∃ R, TQ R n b ∧ TK R n b (tB n b (tB n b q)) ∧ rX Mr R ∧ R 87 = Mr 87 ∧ R 86 = upd (upd (upd (upd d (26 + 6 * mI d + 4) (-4)) (26 + 6 * mI d + 5) (-4)) (26 + 6 * mI d) (tV n b q)) (26 + 6 * mI d + 1) (tV n b (tB n b q)) ∧ am_ev X kX9_readItem 34 [.ref 82, .int (nI (26 + 6 * mI d))] [] (hp (up (up Mr 86 (26 + 6 * mI d + 4) (-4)) 86 (26 + 6 * mI d + 5) (-4))) = am_ev X kX9_readItem 63 [.ref 82, .int (nI (26 + 6 * mI d))] [] (hp R) := by
        intro Mr q1 q2 q3
        obtain ⟨R1, w1, w2, w3, w4, w5, w6⟩ := ref1 Mr q1 q2 q3
        obtain ⟨R, r1, r2, r3, r4⟩ := @rI_1 X R1 n (tB n b q) (26 + 6 * mI d) b w1 w2 g2 hc86
        rw [if_pos h1] at r2
        refine ⟨up R 86 (26 + 6 * mI d + 1) (tV n b (tB n b q)), TQ_fr (TQ_S w1 r1) rfl rfl, TK_u (r3 h1) rfl, rX_t (rX_t w3 (rX_S r1)) rX_u, ?_, ?_, w6.trans r2⟩
        · rw [up_n _ _ _ (by decide), r1.1 87 (by decide), w4]
        · rw [up_s, r1.1 86 (by decide), w5]
      cases h2 : nO n b (tB n b (tB n b q)) 0 99 with
      | some x =>
        obtain ⟨e3, cf⟩ := x3 x h2
        refine ⟨.inr (x, tS n b (tB n b (tB n b q))), 0, K3, by rw [st3, e3], fr3, ⟨rfl, cf, nO_p h2⟩, fun Mr u q1 q2 q3 q4 => ?_⟩
        obtain ⟨R1, w1, w2, w3, w4, w5, w6⟩ := ref2 Mr q1 q2 q3
        obtain ⟨R, r1, r2, r3, r4⟩ := @rI_2 X R1 n (tB n b (tB n b q)) (26 + 6 * mI d) b w1 w2 g4 hc86
        have hf := r4 x h2
        obtain ⟨f, ef⟩ := @rIE_3 X (up R 86 (26 + 6 * mI d + 2) (if nO n b (tB n b (tB n b q)) 0 99 = none then tV n b (tB n b (tB n b q)) else 0)) (26 + 6 * mI d) (by show 0 < R 82 11; rw [hf.1]; exact nO_p h2) hc86
        have hx : rX Mr (up R 86 (26 + 6 * mI d + 2) (if nO n b (tB n b (tB n b q)) 0 99 = none then tV n b (tB n b (tB n b q)) else 0)) := rX_t (rX_t w3 (rX_S r1)) rX_u
        obtain ⟨y1, y2, y3⟩ := bad Mr _ u x (tS n b (tB n b (tB n b q))) f hx hf (nO_p h2)
        exact ⟨_, _, by rw [rstart Mr q3, w6, r2, ef, Option.bind_some, rend], y2, y1, y3⟩
      | none =>
        obtain ⟨e3, n3⟩ := s3 h2
        obtain ⟨K4, s4, x4, c4, p4, ck4⟩ := @itemN X (up K3 21 (mI d) (tV n b (tB n b (tB n b q)))) n (tB n b (tB n b (tB n b q))) 3 (mI d) b p3 ck3.2.2.1 g6 (by decide) hm
        simp only [List.getD_cons_zero, List.getD_cons_succ] at s4 x4
        have fr4 : cX M K4 := fun a i1 i2 i3 => by rw [c4 a i1 i2, up_n _ _ _ (by omega)]; exact fr3 a i1 i2 i3
        have st4 : am_ev X kX6_takeItemLine 0 [.ref 12, am_u, am_u] [] (hp M) = am_ev X kX6_takeItemLine 30 [.ref 12, .int (nI (mI d)), .int (nI 3)] [] (hp (up K3 21 (mI d) (tV n b (tB n b (tB n b q))))) := st3.trans e3
        have ref3 : ∀ Mr : Nat → Nat → Int32, TQ Mr n b → TK Mr n b q → Mr 86 = d → ∃ R, TQ R n b ∧ TK R n b (tB n b (tB n b (tB n b q))) ∧ rX Mr R ∧ R 87 = Mr 87 ∧ R 86 = upd (upd (upd (upd (upd d (26 + 6 * mI d + 4) (-4)) (26 + 6 * mI d + 5) (-4)) (26 + 6 * mI d) (tV n b q)) (26 + 6 * mI d + 1) (tV n b (tB n b q))) (26 + 6 * mI d + 2) (tV n b (tB n b (tB n b q))) ∧ am_ev X kX9_readItem 34 [.ref 82, .int (nI (26 + 6 * mI d))] [] (hp (up (up Mr 86 (26 + 6 * mI d + 4) (-4)) 86 (26 + 6 * mI d + 5) (-4))) = am_ev X kX9_readItem 78 [.ref 82, .int (nI (26 + 6 * mI d))] [] (hp R) := by
          intro Mr q1 q2 q3
          obtain ⟨R1, w1, w2, w3, w4, w5, w6⟩ := ref2 Mr q1 q2 q3
          obtain ⟨R, r1, r2, r3, r4⟩ := @rI_2 X R1 n (tB n b (tB n b q)) (26 + 6 * mI d) b w1 w2 g4 hc86
          rw [if_pos h2] at r2
          refine ⟨up R 86 (26 + 6 * mI d + 2) (tV n b (tB n b (tB n b q))), TQ_fr (TQ_S w1 r1) rfl rfl, TK_u (r3 h2) rfl, rX_t (rX_t w3 (rX_S r1)) rX_u, ?_, ?_, w6.trans r2⟩
          · rw [up_n _ _ _ (by decide), r1.1 87 (by decide), w4]
          · rw [up_s, r1.1 86 (by decide), w5]
        cases h3 : nO n b (tB n b (tB n b (tB n b q))) 0 99 with
        | some x =>
          obtain ⟨e4, cf⟩ := x4 x h3
          refine ⟨.inr (x, tS n b (tB n b (tB n b (tB n b q)))), 0, K4, by rw [st4, e4], fr4, ⟨rfl, cf, nO_p h3⟩, fun Mr u q1 q2 q3 q4 => ?_⟩
          obtain ⟨R1, w1, w2, w3, w4, w5, w6⟩ := ref3 Mr q1 q2 q3
          obtain ⟨R, r1, r2, r3, r4⟩ := @rI_3 X R1 n (tB n b (tB n b (tB n b q))) (26 + 6 * mI d) b w1 w2 g6 hc86
          have hf := r4 x h3
          obtain ⟨f, ef⟩ := @rIE_4 X (up R 86 (26 + 6 * mI d + 3) (if nO n b (tB n b (tB n b (tB n b q))) 0 99 = none then tV n b (tB n b (tB n b (tB n b q))) else 0)) (26 + 6 * mI d) (by show 0 < R 82 11; rw [hf.1]; exact nO_p h3)
          have hx : rX Mr (up R 86 (26 + 6 * mI d + 3) (if nO n b (tB n b (tB n b (tB n b q))) 0 99 = none then tV n b (tB n b (tB n b (tB n b q))) else 0)) := rX_t (rX_t w3 (rX_S r1)) rX_u
          obtain ⟨y1, y2, y3⟩ := bad Mr _ u x (tS n b (tB n b (tB n b (tB n b q)))) f hx hf (nO_p h3)
          exact ⟨_, _, by rw [rstart Mr q3, w6, r2, ef, Option.bind_some, rend], y2, y1, y3⟩
        | none =>
          obtain ⟨e4, n4⟩ := s4 h3
          generalize hv0 : tV n b q = v0 at *
          generalize hv1 : tV n b (tB n b q) = v1 at *
          generalize hv2 : tV n b (tB n b (tB n b q)) = v2 at *
          generalize hv3 : tV n b (tB n b (tB n b (tB n b q))) = v3 at *
          generalize hq4 : tB n b (tB n b (tB n b (tB n b q))) = q4' at *
          have q45 : (up K4 22 (mI d) v3) 13 5 = nI q4' := by rw [← hq4]; exact ck4.2.2.1
          have st5 : am_ev X kX6_takeItemLine 0 [.ref 12, am_u, am_u] [] (hp M) = am_ev X kX6_takeItemLine 30 [.ref 12, .int (nI (mI d)), .int (nI 4)] [] (hp (up K4 22 (mI d) v3)) := st4.trans e4
          have ema : mI (app d 1 1 0 0) = mI d + 1 := app_m hm
          have ena : nC (app d 1 1 0 0) = nC d := app_n hm
          have hR1 : RG (up K1 19 (mI d) v0) 15 (upd (app d 1 1 0 0) (26 + 6 * mI d) v0) := RG_fact (K := K0) (w := 0) hR0 (by omega) (by decide) (by rw [ena]; exact hd.1.2) (fun a i1 i2 i3 => by rw [up_n _ _ _ (by omega)]; exact c1 a (by omega) (by omega)) (by show (up K1 19 (mI d) v0) 19 = _; rw [up_s, c1 19 (by decide) (by decide)])
          have hR2 : RG (up K2 20 (mI d) v1) 15 (upd (upd (app d 1 1 0 0) (26 + 6 * mI d) v0) (26 + 6 * mI d + 1) v1) := RG_fact (w := 1) hR1 (by show mI d < (upd (app d 1 1 0 0) (26 + 6 * mI d) v0 25).toNatClampNeg; rw [pk_un (by omega)]; show mI d < mI (app d 1 1 0 0); omega) (by decide) (by show (upd (app d 1 1 0 0) (26 + 6 * mI d) v0 0).toNatClampNeg ≤ 6; rw [pk_un (by omega)]; show nC (app d 1 1 0 0) ≤ 6; rw [ena]; exact hd.1.2) (fun a i1 i2 i3 => by rw [up_n _ _ _ (by omega)]; exact c2 a (by omega) (by omega)) (by show (up K2 20 (mI d) v1) 20 = _; rw [up_s, c2 20 (by decide) (by decide)])
          have hR3 : RG (up K3 21 (mI d) v2) 15 (upd (upd (upd (app d 1 1 0 0) (26 + 6 * mI d) v0) (26 + 6 * mI d + 1) v1) (26 + 6 * mI d + 2) v2) := RG_fact (w := 2) hR2 (by show mI d < (upd (upd (app d 1 1 0 0) (26 + 6 * mI d) v0) (26 + 6 * mI d + 1) v1 25).toNatClampNeg; rw [pk_un (by omega), pk_un (by omega)]; show mI d < mI (app d 1 1 0 0); omega) (by decide) (by show (upd (upd (app d 1 1 0 0) (26 + 6 * mI d) v0) (26 + 6 * mI d + 1) v1 0).toNatClampNeg ≤ 6; rw [pk_un (by omega), pk_un (by omega)]; show nC (app d 1 1 0 0) ≤ 6; rw [ena]; exact hd.1.2) (fun a i1 i2 i3 => by rw [up_n _ _ _ (by omega)]; exact c3 a (by omega) (by omega)) (by show (up K3 21 (mI d) v2) 21 = _; rw [up_s, c3 21 (by decide) (by decide)])
          have hR4 : RG (up K4 22 (mI d) v3) 15 (itK d v0 v1 v2 v3) := RG_fact (w := 3) hR3 (by show mI d < (upd (upd (upd (app d 1 1 0 0) (26 + 6 * mI d) v0) (26 + 6 * mI d + 1) v1) (26 + 6 * mI d + 2) v2 25).toNatClampNeg; rw [pk_un (by omega), pk_un (by omega), pk_un (by omega)]; show mI d < mI (app d 1 1 0 0); omega) (by decide) (by show (upd (upd (upd (app d 1 1 0 0) (26 + 6 * mI d) v0) (26 + 6 * mI d + 1) v1) (26 + 6 * mI d + 2) v2 0).toNatClampNeg ≤ 6; rw [pk_un (by omega), pk_un (by omega), pk_un (by omega)]; show nC (app d 1 1 0 0) ≤ 6; rw [ena]; exact hd.1.2) (fun a i1 i2 i3 => by rw [up_n _ _ _ (by omega)]; exact c4 a (by omega) (by omega)) (by show (up K4 22 (mI d) v3) 22 = _; rw [up_s, c4 22 (by decide) (by decide)])
          obtain ⟨w, hw1, hw2, hw3⟩ := (btw1 (n := 6) (by decide)).mp (by have := (nO_n h0).2; rw [hv0] at this; exact this)
          obtain ⟨t, ht1, ht2, ht3⟩ := (btw1 (n := 4) (by decide)).mp (by have := (nO_n h1).2; rw [hv1] at this; exact this)
          have hd4 : dW (itK d v0 v1 v2 v3) := dW_it hd hm hw3 ⟨hw1, hw2⟩ ht3 ⟨ht1, ht2⟩
          have em4 : mI (itK d v0 v1 v2 v3) = mI d + 1 := by show (itK d v0 v1 v2 v3 25).toNatClampNeg = _; rw [itK_25, nI_clamp (by omega)]
          obtain ⟨z4, z5, z0, z1⟩ := @itK_4 d v0 v1 v2 v3
          obtain ⟨K5, b1, b2, b3, b4, b5, b6, b7⟩ := @C_advance X (up K4 22 (mI d) v3) n q4' b p4 q45 g8
          have m12 : K5 12 = M 12 := by rw [b2 12 (by decide)]; show K4 12 = _; rw [n4]; show K3 12 = _; rw [n3]; show K2 12 = _; rw [n2]; show K1 12 = _; rw [n1, f0 12 (by decide)]
          have m15 : K5 15 0 = M 15 0 := by rw [b2 15 (by decide)]; show K4 15 0 = _; rw [c4 15 (by decide) (by decide)]; show K3 15 0 = _; rw [c3 15 (by decide) (by decide)]; show K2 15 0 = _; rw [c2 15 (by decide) (by decide)]; show K1 15 0 = _; rw [c1 15 (by decide) (by decide), hR0.1.1, app_lo (by decide) (by omega)]; exact hR.1.1.symm
          obtain ⟨r, v, K6, y1, y2, y3, y4⟩ := @pins_l X n (mI d) b td hX hm 2 K5 q4' (itK d v0 v1 v2 v3) (by omega) (by rw [z4, z5]; rfl) (TP_S p4 b3 (b2 14 (by decide))) ⟨b4, b5, b6, b7⟩ g8 (RG_fa (fun j hj => b2 _ (by omega)) hR4) hd4 em4 (fun j hj => by rw [m12]; exact htd j hj)
          rw [show 2 - 2 = 0 from rfl, nI_0] at y1
          refine ⟨r, v, K6, ?_, fun a i1 i2 i3 => by rw [y2 a i1 i2 i3, b2 a i2, up_n _ _ _ (by omega)]; exact fr4 a i1 i2 i3, ?_, fun Mr u q1 q2 q3 q4 => ?_⟩
          · rw [st5, ← y1]
            simp (disch := omega) only [iX6_takeItemLine_30, iX6_takeItemLine_31, iX6_takeItemLine_32, iX6_takeItemLine_78, iX6_takeItemLine_79, iX6_takeItemLine_82, iX6_takeItemLine_85, iX6_takeItemLine_86, true_or, or_true, Option.bind_some, Option.bind_none, kk_hp, kn_hp, el_i, el_b, el_z, am_cat_nil, am_cat_i, am_cat_r, am_cat_l, am_cat_n, gd_i, gd_r, gd_n, gd_u, List.length_cons, List.length_nil, true_and, and_true, ↓reduceIte, Nat.zero_le, Nat.reduceLeDiff, Nat.reduceAdd, e_10, e_01, e_00, e_11, Int32.reduceLE, Int32.reduceLT, Int32.reduceAdd, Int32.reduceSub, b01, if_true, if_false, ite_self, rc_12, gf_12_0, gf_12_1, gf_12_2, pf_12_2, gf_12_3, pf_12_3, gf_12_4, pf_12_4, gf_12_5, pf_12_5, gf_12_6, pf_12_6, gf_12_7, pf_12_7, rc_13, gf_13_0, gf_13_1, pf_13_1, gf_13_2, pf_13_2, gf_13_3, pf_13_3, gf_13_4, pf_13_4, gf_13_5, pf_13_5, nl_add, nl_add', nl_mul, nI_add, in_t, cl_n, le_nn, lt_nn, le_ln, le_nl, lt_nl, lt_ln, eq_nn, eq_nl, in_lit, cl_lit, Nat.le_refl, Nat.add_zero, b1]
          · match r, y3 with
            | .inr (c, s), y3 => exact y3
            | .inl (q2, d2), ⟨x1, x2, x3, x4, x5, x6, x7, x8, x9, x10⟩ => exact ⟨x1, x2, x3, by omega, x5, x6, x7, x8, by rw [x9, m12], x10.imp (fun z => by rw [z, m15]) id⟩
          · obtain ⟨R1, w1, w2, w3, w4, w5, w6⟩ := ref3 Mr q1 q2 q3
            obtain ⟨R, r1, r2, r3, r4⟩ := @rI_3 X R1 n (tB n b (tB n b (tB n b q))) (26 + 6 * mI d) b w1 w2 g6 hc86
            rw [if_pos h3, hv3] at r2
            have tq := r3 h3
            rw [hq4] at tq
            obtain ⟨Ra, Rb, x1, x2, x3, x4⟩ := y4 (up R 86 (26 + 6 * mI d + 3) v3) u (TQ_fr (TQ_S w1 r1) rfl rfl) (TK_u tq rfl) (by rw [up_s, r1.1 86 (by decide), w5, it_eq h25]) (fun j hj => by rw [up_n _ _ _ (by decide), r1.1 87 (by decide), w4]; exact q4 j hj)
            exact ⟨Ra, Rb, by rw [rstart Mr q3, w6, r2, x1, Option.bind_some, rend], x2, rX_t (rX_t (rX_t w3 (rX_S r1)) rX_u) x3, x4⟩
end S98
