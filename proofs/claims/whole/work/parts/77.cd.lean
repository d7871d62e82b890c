/-! changes, iv: pin, set -/
theorem up_self (M : Nat → Nat → Int32) (a j : Nat) : up M a j (M a j) = M := by
  rw [up_ua]
  have : upd (M a) j (M a j) = M a := by
    funext k
    by_cases h : k = j
    · rw [h, pk_us]
    · rw [pk_un h]
  rw [this, ua_self]
theorem RG_it {M M' : Nat → Nat → Int32} {g : Nat} {s s' : Nat → Int32} (h : RG M g s) (hx : ∀ x, x = g ∨ x = g + 1 ∨ x = g + 2 ∨ x = g + 10 → M' x = M x) (hs : ∀ j, j < 26 → s' j = s j) (hn : nC s ≤ 6) (hf : ∀ i, i < mI s → ∀ w, w < 6 → M' (g + 4 + w) i = s' (26 + 6 * i + w)) : RG M' g s' := by
  obtain ⟨h1, h2, h3, h4⟩ := h
  have en : nC s' = nC s := by unfold nC; rw [hs 0 (by omega)]
  have em : mI s' = mI s := by unfold mI; rw [hs 25 (by omega)]
  refine ⟨?_, fun c hc => ?_, fun v hv => ?_, fun i hi w hw => hf i (by rw [← em]; exact hi) w hw⟩
  · rw [hx g (by omega), hs 0 (by omega), hs 1 (by omega), hs 2 (by omega), hs 3 (by omega), hs 4 (by omega), hs 25 (by omega)]
    exact h1
  · rw [en] at hc
    rw [hx (g + 1) (by omega), hx (g + 2) (by omega), hs (5 + c) (by omega), hs (11 + c) (by omega)]
    exact h2 c hc
  · rw [hx (g + 10) (by omega), hs (17 + v) (by omega)]
    exact h3 v hv
theorem wf_it {s s' : Nat → Int32} (h : wf s) (hs : ∀ j, j < 26 → s' j = s j) (hi : ∀ i, i < mI s → itm s' i) : wf s' := by
  obtain ⟨h1, h2, h3, h4⟩ := h
  have en : nC s' = nC s := by unfold nC; rw [hs 0 (by omega)]
  have em : mI s' = mI s := by unfold mI; rw [hs 25 (by omega)]
  refine ⟨by rw [hs 0 (by omega), en]; exact h1, by rw [hs 25 (by omega), em]; exact h2, by rw [em]; exact hi, fun c hc => ?_⟩
  rw [en] at hc
  have := h1.2
  rw [hs (5 + c) (by omega), hs (11 + c) (by omega)]
  exact h4 c hc
theorem itm_ext {s s' : Nat → Int32} {i : Nat} (h : itm s i) (e0 : s' 0 = s 0) (e : ∀ w, w < 6 → s' (26 + 6 * i + w) = s (26 + 6 * i + w)) : itm s' i := by
  have en : nC s' = nC s := by unfold nC; rw [e0]
  unfold itm wI tI pC pR at h ⊢
  rw [en, show s' (26 + 6 * i) = s (26 + 6 * i) from e 0 (by decide), e 1 (by decide), e 4 (by decide), e 5 (by decide)]
  exact h
theorem pn_of {n w : Nat} {c : Int32} (h : pnC (nI n) (nI w) c) (hw : w ≤ n) (hn : n < 100) : c = -4 ∨ ∃ p, c = nI p ∧ p + w ≤ n := by
  rcases h with h | ⟨h1, h2⟩
  · exact Or.inl h
  · obtain ⟨u, hu, rfl⟩ := nI_of (Int32.not_lt.mpr h1)
    rw [nI_sub' hw, le_nn hu (by omega)] at h2
    exact Or.inr ⟨u, rfl, by omega⟩
theorem pn_to {n w p : Nat} (hw : p + w ≤ n) (hn : n < 100) : pnC (nI n) (nI w) (nI p) := by
  right
  refine ⟨by rw [le_ln (by omega) (by decide)]; exact Nat.zero_le p, ?_⟩
  rw [nI_sub' (by omega), le_nn (by omega) (by omega)]
  omega
theorem pn_no {n w p : Nat} (hw : w ≤ n) (hn : n < 100) (hp : p < 100) (h : pnC (nI n) (nI w) (nI p)) : p + w ≤ n := by
  rcases pn_of h hw hn with h | ⟨q, e, hq⟩
  · exact absurd h (nI_ne (by omega))
  · have : q < 100 := by omega
    rw [nI_inj (by omega) (by omega) e]; exact hq
section S77
variable {X : am_X} {M : Nat → Nat → Int32}
theorem C_isInside {g i : Nat} (hg : isG g) (hi : i < 10) : (M (g + 4) i ≤ M g 0 ∧ pnC (M g 0) (M (g + 4) i) (M (g + 4 + 4) i) ∧ pnC 12 (M (g + 4 + 1) i) (M (g + 4 + 5) i) → am_ev X kX1_isInside 0 [.ref g, .int (nI i)] [] (hp M) = some (some (.int 1), hp M)) ∧
    (¬ (M (g + 4) i ≤ M g 0 ∧ pnC (M g 0) (M (g + 4) i) (M (g + 4 + 4) i) ∧ pnC 12 (M (g + 4 + 1) i) (M (g + 4 + 5) i)) → am_ev X kX1_isInside 0 [.ref g, .int (nI i)] [] (hp M) = some (some (.int 0), hp M)) := by
  by_cases h1 : M (g + 4) i ≤ M g 0
  · by_cases h2 : pnC (M g 0) (M (g + 4) i) (M (g + 4 + 4) i) ∧ pnC 12 (M (g + 4 + 1) i) (M (g + 4 + 5) i)
    · have e := (@C_isPin X M g i (M (g + 4 + 4) i) (M (g + 4 + 5) i) hg hi).1 h2
      refine ⟨fun _ => ?_, fun z => absurd ⟨h1, h2⟩ z⟩
      simp (disch := omega) only [iX1_isInside_0, iX1_isInside_1, iX1_isInside_4, iX1_isInside_5, iX1_isInside_6, iX1_isInside_7, iX1_isInside_8, iX1_isInside_9, iX1_isInside_12, iX1_isInside_15, iX1_isInside_16, iX1_isInside_17, iX1_isInside_18, iX1_isInside_21, iX1_isInside_22, iX1_isInside_23, iX1_isInside_24, iX1_isInside_25, iX1_isInside_26, iX1_isInside_29, iX1_isInside_30, iX1_isInside_31, iX1_isInside_32, iX1_isInside_33, iX1_isInside_36, iX1_isInside_39, iX1_isInside_40, iX1_isInside_43, iX1_isInside_44, true_or, or_true, Option.bind_some, Option.bind_none, kk_hp, kn_hp, el_i, el_b, el_z, am_cat_nil, am_cat_i, am_cat_r, am_cat_l, am_cat_n, gd_i, gd_r, gd_n, gd_u, List.length_cons, List.length_nil, true_and, and_true, ↓reduceIte, Nat.zero_le, Nat.reduceLeDiff, Nat.reduceAdd, e_10, e_01, e_00, e_11, Int32.reduceLE, Int32.reduceLT, Int32.reduceAdd, Int32.reduceSub, b01, if_true, if_false, ite_self, nl_add, nl_add', nl_mul, nI_add, in_t, cl_n, le_nn, lt_nn, le_ln, le_nl, lt_nl, lt_ln, eq_nn, eq_nl, in_lit, cl_lit, Nat.le_refl, Nat.add_zero, rcG hg, gG0 hg, gG8 hg, fG0 hg, fG4 hg, fG5 hg, aGr0 hg, aGr4 hg, aGr5 hg, Int32.not_lt.mpr h1, e]
    · have e := (@C_isPin X M g i (M (g + 4 + 4) i) (M (g + 4 + 5) i) hg hi).2 h2
      refine ⟨fun z => absurd z.2 h2, fun _ => ?_⟩
      simp (disch := omega) only [iX1_isInside_0, iX1_isInside_1, iX1_isInside_4, iX1_isInside_5, iX1_isInside_6, iX1_isInside_7, iX1_isInside_8, iX1_isInside_9, iX1_isInside_12, iX1_isInside_15, iX1_isInside_16, iX1_isInside_17, iX1_isInside_18, iX1_isInside_21, iX1_isInside_22, iX1_isInside_23, iX1_isInside_24, iX1_isInside_25, iX1_isInside_26, iX1_isInside_29, iX1_isInside_30, iX1_isInside_31, iX1_isInside_32, iX1_isInside_33, iX1_isInside_36, iX1_isInside_39, iX1_isInside_40, iX1_isInside_43, iX1_isInside_44, true_or, or_true, Option.bind_some, Option.bind_none, kk_hp, kn_hp, el_i, el_b, el_z, am_cat_nil, am_cat_i, am_cat_r, am_cat_l, am_cat_n, gd_i, gd_r, gd_n, gd_u, List.length_cons, List.length_nil, true_and, and_true, ↓reduceIte, Nat.zero_le, Nat.reduceLeDiff, Nat.reduceAdd, e_10, e_01, e_00, e_11, Int32.reduceLE, Int32.reduceLT, Int32.reduceAdd, Int32.reduceSub, b01, if_true, if_false, ite_self, nl_add, nl_add', nl_mul, nI_add, in_t, cl_n, le_nn, lt_nn, le_ln, le_nl, lt_nl, lt_ln, eq_nn, eq_nl, in_lit, cl_lit, Nat.le_refl, Nat.add_zero, rcG hg, gG0 hg, gG8 hg, fG0 hg, fG4 hg, fG5 hg, aGr0 hg, aGr4 hg, aGr5 hg, Int32.not_lt.mpr h1, e]
  · refine ⟨fun z => absurd z.1 h1, fun _ => ?_⟩
    simp (disch := omega) only [iX1_isInside_0, iX1_isInside_1, iX1_isInside_4, iX1_isInside_5, iX1_isInside_6, iX1_isInside_7, iX1_isInside_8, iX1_isInside_9, iX1_isInside_12, iX1_isInside_15, iX1_isInside_16, iX1_isInside_17, iX1_isInside_18, iX1_isInside_21, iX1_isInside_22, iX1_isInside_23, iX1_isInside_24, iX1_isInside_25, iX1_isInside_26, iX1_isInside_29, iX1_isInside_30, iX1_isInside_31, iX1_isInside_32, iX1_isInside_33, iX1_isInside_36, iX1_isInside_39, iX1_isInside_40, iX1_isInside_43, iX1_isInside_44, true_or, or_true, Option.bind_some, Option.bind_none, kk_hp, kn_hp, el_i, el_b, el_z, am_cat_nil, am_cat_i, am_cat_r, am_cat_l, am_cat_n, gd_i, gd_r, gd_n, gd_u, List.length_cons, List.length_nil, true_and, and_true, ↓reduceIte, Nat.zero_le, Nat.reduceLeDiff, Nat.reduceAdd, e_10, e_01, e_00, e_11, Int32.reduceLE, Int32.reduceLT, Int32.reduceAdd, Int32.reduceSub, b01, if_true, if_false, ite_self, nl_add, nl_add', nl_mul, nI_add, in_t, cl_n, le_nn, lt_nn, le_ln, le_nl, lt_nl, lt_ln, eq_nn, eq_nl, in_lit, cl_lit, Nat.le_refl, Nat.add_zero, rcG hg, gG0 hg, gG8 hg, fG0 hg, aGr0 hg, Int32.not_le.mp h1]
theorem M_pin {i : Nat} {c r : Int32} (hi : i < 10) (hr1 : am_ev X kX9_isItem 0 [.ref 82, .int (nI i)] [] (hp M) = some (some (.int 1), hp M)) : (pnC (M 83 0) (M 83 (26 + 6 * i)) c ∧ pnC 12 (M 83 (26 + 6 * i + 1)) r → am_ev X kX9_pin 0 [.ref 82, .int (nI i), .int c, .int r] [] (hp M) = some (some (.int 1), hp (up (up M 83 (26 + 6 * i + 4) c) 83 (26 + 6 * i + 5) r))) ∧
    (¬ (pnC (M 83 0) (M 83 (26 + 6 * i)) c ∧ pnC 12 (M 83 (26 + 6 * i + 1)) r) → am_ev X kX9_pin 0 [.ref 82, .int (nI i), .int c, .int r] [] (hp M) = some (some (.int (-1)), hp M)) := by
  have e1 := @M_in X M c.toInt64 0 (M 83 0 - M 83 (26 + 6 * i)).toInt64
  have e2 := @M_in X M r.toInt64 0 (12 - M 83 (26 + 6 * i + 1)).toInt64
  simp (disch := decide) only [wl, wl_l, wl_r] at e1 e2
  unfold pnC
  by_cases c4 : c = -4
  · by_cases r4 : r = -4
    · refine ⟨fun _ => ?_, fun z => absurd ⟨Or.inl c4, Or.inl r4⟩ z⟩
      simp (disch := omega) only [iX9_pin_0, iX9_pin_1, iX9_pin_2, iX9_pin_5, iX9_pin_8, iX9_pin_9, iX9_pin_11, iX9_pin_14, iX9_pin_15, iX9_pin_16, iX9_pin_17, iX9_pin_18, iX9_pin_21, iX9_pin_22, iX9_pin_23, iX9_pin_24, iX9_pin_25, iX9_pin_26, iX9_pin_29, iX9_pin_30, iX9_pin_31, iX9_pin_34, iX9_pin_37, iX9_pin_38, iX9_pin_40, iX9_pin_43, iX9_pin_44, iX9_pin_45, iX9_pin_46, iX9_pin_48, iX9_pin_49, iX9_pin_50, iX9_pin_51, iX9_pin_54, iX9_pin_55, iX9_pin_56, iX9_pin_59, iX9_pin_62, iX9_pin_63, iX9_pin_64, iX9_pin_65, iX9_pin_68, iX9_pin_70, iX9_pin_72, iX9_pin_73, iX9_pin_74, iX9_pin_75, iX9_pin_76, iX9_pin_77, iX9_pin_78, iX9_pin_79, iX9_pin_80, iX9_pin_83, iX9_pin_85, iX9_pin_87, iX9_pin_88, iX9_pin_89, iX9_pin_90, iX9_pin_91, iX9_pin_92, iX9_pin_93, iX9_pin_94, iX9_pin_95, true_or, or_true, Option.bind_some, Option.bind_none, kk_hp, kn_hp, el_i, el_b, el_z, am_cat_nil, am_cat_i, am_cat_r, am_cat_l, am_cat_n, gd_i, gd_r, gd_n, gd_u, List.length_cons, List.length_nil, true_and, and_true, ↓reduceIte, Nat.zero_le, Nat.reduceLeDiff, Nat.reduceAdd, e_10, e_01, e_00, e_11, Int32.reduceLE, Int32.reduceLT, Int32.reduceAdd, Int32.reduceSub, b01, if_true, if_false, ite_self, rc_82, gf_82_0, gf_82_1, gf_82_2, gf_82_3, gf_82_4, gf_82_5, gf_82_6, pf_82_6, gf_82_7, pf_82_7, gf_82_8, pf_82_8, gf_82_9, pf_82_9, gf_82_10, pf_82_10, gf_82_11, pf_82_11, gf_82_12, pf_82_12, gf_82_13, gf_82_14, gf_82_15, gf_82_16, pf_82_16, gf_82_17, gf_82_18, gf_82_19, gf_82_20, gf_82_21, gf_82_22, gf_82_23, gf_82_24, gf_82_25, pf_82_25, ga_83, wi_83, ga_84, wi_84, ga_85, wb_85, ga_86, wi_86, ga_87, wb_87, ga_88, wi_88, ga_89, wi_89, ga_90, wi_90, ga_91, wi_91, ga_92, wi_92, ga_93, wi_93, ga_94, wi_94, ga_95, wi_95, ga_96, wb_96, ga_97, wi_97, ga_98, wi_98, ga_99, wi_99, nl_add, nl_add', nl_mul, nI_add, in_t, cl_n, le_nn, lt_nn, le_ln, le_nl, lt_nl, lt_ln, eq_nn, eq_nl, in_lit, cl_lit, Nat.le_refl, Nat.add_zero, c4, r4, hr1]
    · by_cases hr : 0 ≤ r ∧ r ≤ 12 - M 83 (26 + 6 * i + 1)
      · rw [if_pos hr] at e2
        refine ⟨fun _ => ?_, fun z => absurd ⟨Or.inl c4, Or.inr hr⟩ z⟩
        simp (disch := omega) only [iX9_pin_0, iX9_pin_1, iX9_pin_2, iX9_pin_5, iX9_pin_8, iX9_pin_9, iX9_pin_11, iX9_pin_14, iX9_pin_15, iX9_pin_16, iX9_pin_17, iX9_pin_18, iX9_pin_21, iX9_pin_22, iX9_pin_23, iX9_pin_24, iX9_pin_25, iX9_pin_26, iX9_pin_29, iX9_pin_30, iX9_pin_31, iX9_pin_34, iX9_pin_37, iX9_pin_38, iX9_pin_40, iX9_pin_43, iX9_pin_44, iX9_pin_45, iX9_pin_46, iX9_pin_48, iX9_pin_49, iX9_pin_50, iX9_pin_51, iX9_pin_54, iX9_pin_55, iX9_pin_56, iX9_pin_59, iX9_pin_62, iX9_pin_63, iX9_pin_64, iX9_pin_65, iX9_pin_68, iX9_pin_70, iX9_pin_72, iX9_pin_73, iX9_pin_74, iX9_pin_75, iX9_pin_76, iX9_pin_77, iX9_pin_78, iX9_pin_79, iX9_pin_80, iX9_pin_83, iX9_pin_85, iX9_pin_87, iX9_pin_88, iX9_pin_89, iX9_pin_90, iX9_pin_91, iX9_pin_92, iX9_pin_93, iX9_pin_94, iX9_pin_95, true_or, or_true, Option.bind_some, Option.bind_none, kk_hp, kn_hp, el_i, el_b, el_z, am_cat_nil, am_cat_i, am_cat_r, am_cat_l, am_cat_n, gd_i, gd_r, gd_n, gd_u, List.length_cons, List.length_nil, true_and, and_true, ↓reduceIte, Nat.zero_le, Nat.reduceLeDiff, Nat.reduceAdd, e_10, e_01, e_00, e_11, Int32.reduceLE, Int32.reduceLT, Int32.reduceAdd, Int32.reduceSub, b01, if_true, if_false, ite_self, rc_82, gf_82_0, gf_82_1, gf_82_2, gf_82_3, gf_82_4, gf_82_5, gf_82_6, pf_82_6, gf_82_7, pf_82_7, gf_82_8, pf_82_8, gf_82_9, pf_82_9, gf_82_10, pf_82_10, gf_82_11, pf_82_11, gf_82_12, pf_82_12, gf_82_13, gf_82_14, gf_82_15, gf_82_16, pf_82_16, gf_82_17, gf_82_18, gf_82_19, gf_82_20, gf_82_21, gf_82_22, gf_82_23, gf_82_24, gf_82_25, pf_82_25, ga_83, wi_83, ga_84, wi_84, ga_85, wb_85, ga_86, wi_86, ga_87, wb_87, ga_88, wi_88, ga_89, wi_89, ga_90, wi_90, ga_91, wi_91, ga_92, wi_92, ga_93, wi_93, ga_94, wi_94, ga_95, wi_95, ga_96, wb_96, ga_97, wi_97, ga_98, wi_98, ga_99, wi_99, nl_add, nl_add', nl_mul, nI_add, in_t, cl_n, le_nn, lt_nn, le_ln, le_nl, lt_nl, lt_ln, eq_nn, eq_nl, in_lit, cl_lit, Nat.le_refl, Nat.add_zero, M_of0, M_of1, c4, r4, hr1, e2]
      · rw [if_neg hr] at e2
        refine ⟨fun z => (z.2.elim (fun y => absurd y r4) (fun y => absurd y hr)), fun _ => ?_⟩
        simp (disch := omega) only [iX9_pin_0, iX9_pin_1, iX9_pin_2, iX9_pin_5, iX9_pin_8, iX9_pin_9, iX9_pin_11, iX9_pin_14, iX9_pin_15, iX9_pin_16, iX9_pin_17, iX9_pin_18, iX9_pin_21, iX9_pin_22, iX9_pin_23, iX9_pin_24, iX9_pin_25, iX9_pin_26, iX9_pin_29, iX9_pin_30, iX9_pin_31, iX9_pin_34, iX9_pin_37, iX9_pin_38, iX9_pin_40, iX9_pin_43, iX9_pin_44, iX9_pin_45, iX9_pin_46, iX9_pin_48, iX9_pin_49, iX9_pin_50, iX9_pin_51, iX9_pin_54, iX9_pin_55, iX9_pin_56, iX9_pin_59, iX9_pin_62, iX9_pin_63, iX9_pin_64, iX9_pin_65, iX9_pin_68, iX9_pin_70, iX9_pin_72, iX9_pin_73, iX9_pin_74, iX9_pin_75, iX9_pin_76, iX9_pin_77, iX9_pin_78, iX9_pin_79, iX9_pin_80, iX9_pin_83, iX9_pin_85, iX9_pin_87, iX9_pin_88, iX9_pin_89, iX9_pin_90, iX9_pin_91, iX9_pin_92, iX9_pin_93, iX9_pin_94, iX9_pin_95, true_or, or_true, Option.bind_some, Option.bind_none, kk_hp, kn_hp, el_i, el_b, el_z, am_cat_nil, am_cat_i, am_cat_r, am_cat_l, am_cat_n, gd_i, gd_r, gd_n, gd_u, List.length_cons, List.length_nil, true_and, and_true, ↓reduceIte, Nat.zero_le, Nat.reduceLeDiff, Nat.reduceAdd, e_10, e_01, e_00, e_11, Int32.reduceLE, Int32.reduceLT, Int32.reduceAdd, Int32.reduceSub, b01, if_true, if_false, ite_self, rc_82, gf_82_0, gf_82_1, gf_82_2, gf_82_3, gf_82_4, gf_82_5, gf_82_6, pf_82_6, gf_82_7, pf_82_7, gf_82_8, pf_82_8, gf_82_9, pf_82_9, gf_82_10, pf_82_10, gf_82_11, pf_82_11, gf_82_12, pf_82_12, gf_82_13, gf_82_14, gf_82_15, gf_82_16, pf_82_16, gf_82_17, gf_82_18, gf_82_19, gf_82_20, gf_82_21, gf_82_22, gf_82_23, gf_82_24, gf_82_25, pf_82_25, ga_83, wi_83, ga_84, wi_84, ga_85, wb_85, ga_86, wi_86, ga_87, wb_87, ga_88, wi_88, ga_89, wi_89, ga_90, wi_90, ga_91, wi_91, ga_92, wi_92, ga_93, wi_93, ga_94, wi_94, ga_95, wi_95, ga_96, wb_96, ga_97, wi_97, ga_98, wi_98, ga_99, wi_99, nl_add, nl_add', nl_mul, nI_add, in_t, cl_n, le_nn, lt_nn, le_ln, le_nl, lt_nl, lt_ln, eq_nn, eq_nl, in_lit, cl_lit, Nat.le_refl, Nat.add_zero, M_of0, M_of1, c4, r4, hr1, e2]
  · by_cases hc : 0 ≤ c ∧ c ≤ M 83 0 - M 83 (26 + 6 * i)
    · rw [if_pos hc] at e1
      by_cases r4 : r = -4
      · refine ⟨fun _ => ?_, fun z => absurd ⟨Or.inr hc, Or.inl r4⟩ z⟩
        simp (disch := omega) only [iX9_pin_0, iX9_pin_1, iX9_pin_2, iX9_pin_5, iX9_pin_8, iX9_pin_9, iX9_pin_11, iX9_pin_14, iX9_pin_15, iX9_pin_16, iX9_pin_17, iX9_pin_18, iX9_pin_21, iX9_pin_22, iX9_pin_23, iX9_pin_24, iX9_pin_25, iX9_pin_26, iX9_pin_29, iX9_pin_30, iX9_pin_31, iX9_pin_34, iX9_pin_37, iX9_pin_38, iX9_pin_40, iX9_pin_43, iX9_pin_44, iX9_pin_45, iX9_pin_46, iX9_pin_48, iX9_pin_49, iX9_pin_50, iX9_pin_51, iX9_pin_54, iX9_pin_55, iX9_pin_56, iX9_pin_59, iX9_pin_62, iX9_pin_63, iX9_pin_64, iX9_pin_65, iX9_pin_68, iX9_pin_70, iX9_pin_72, iX9_pin_73, iX9_pin_74, iX9_pin_75, iX9_pin_76, iX9_pin_77, iX9_pin_78, iX9_pin_79, iX9_pin_80, iX9_pin_83, iX9_pin_85, iX9_pin_87, iX9_pin_88, iX9_pin_89, iX9_pin_90, iX9_pin_91, iX9_pin_92, iX9_pin_93, iX9_pin_94, iX9_pin_95, true_or, or_true, Option.bind_some, Option.bind_none, kk_hp, kn_hp, el_i, el_b, el_z, am_cat_nil, am_cat_i, am_cat_r, am_cat_l, am_cat_n, gd_i, gd_r, gd_n, gd_u, List.length_cons, List.length_nil, true_and, and_true, ↓reduceIte, Nat.zero_le, Nat.reduceLeDiff, Nat.reduceAdd, e_10, e_01, e_00, e_11, Int32.reduceLE, Int32.reduceLT, Int32.reduceAdd, Int32.reduceSub, b01, if_true, if_false, ite_self, rc_82, gf_82_0, gf_82_1, gf_82_2, gf_82_3, gf_82_4, gf_82_5, gf_82_6, pf_82_6, gf_82_7, pf_82_7, gf_82_8, pf_82_8, gf_82_9, pf_82_9, gf_82_10, pf_82_10, gf_82_11, pf_82_11, gf_82_12, pf_82_12, gf_82_13, gf_82_14, gf_82_15, gf_82_16, pf_82_16, gf_82_17, gf_82_18, gf_82_19, gf_82_20, gf_82_21, gf_82_22, gf_82_23, gf_82_24, gf_82_25, pf_82_25, ga_83, wi_83, ga_84, wi_84, ga_85, wb_85, ga_86, wi_86, ga_87, wb_87, ga_88, wi_88, ga_89, wi_89, ga_90, wi_90, ga_91, wi_91, ga_92, wi_92, ga_93, wi_93, ga_94, wi_94, ga_95, wi_95, ga_96, wb_96, ga_97, wi_97, ga_98, wi_98, ga_99, wi_99, nl_add, nl_add', nl_mul, nI_add, in_t, cl_n, le_nn, lt_nn, le_ln, le_nl, lt_nl, lt_ln, eq_nn, eq_nl, in_lit, cl_lit, Nat.le_refl, Nat.add_zero, M_of0, M_of1, c4, r4, hr1, e1]
      · by_cases hr : 0 ≤ r ∧ r ≤ 12 - M 83 (26 + 6 * i + 1)
        · rw [if_pos hr] at e2
          refine ⟨fun _ => ?_, fun z => absurd ⟨Or.inr hc, Or.inr hr⟩ z⟩
          simp (disch := omega) only [iX9_pin_0, iX9_pin_1, iX9_pin_2, iX9_pin_5, iX9_pin_8, iX9_pin_9, iX9_pin_11, iX9_pin_14, iX9_pin_15, iX9_pin_16, iX9_pin_17, iX9_pin_18, iX9_pin_21, iX9_pin_22, iX9_pin_23, iX9_pin_24, iX9_pin_25, iX9_pin_26, iX9_pin_29, iX9_pin_30, iX9_pin_31, iX9_pin_34, iX9_pin_37, iX9_pin_38, iX9_pin_40, iX9_pin_43, iX9_pin_44, iX9_pin_45, iX9_pin_46, iX9_pin_48, iX9_pin_49, iX9_pin_50, iX9_pin_51, iX9_pin_54, iX9_pin_55, iX9_pin_56, iX9_pin_59, iX9_pin_62, iX9_pin_63, iX9_pin_64, iX9_pin_65, iX9_pin_68, iX9_pin_70, iX9_pin_72, iX9_pin_73, iX9_pin_74, iX9_pin_75, iX9_pin_76, iX9_pin_77, iX9_pin_78, iX9_pin_79, iX9_pin_80, iX9_pin_83, iX9_pin_85, iX9_pin_87, iX9_pin_88, iX9_pin_89, iX9_pin_90, iX9_pin_91, iX9_pin_92, iX9_pin_93, iX9_pin_94, iX9_pin_95, true_or, or_true, Option.bind_some, Option.bind_none, kk_hp, kn_hp, el_i, el_b, el_z, am_cat_nil, am_cat_i, am_cat_r, am_cat_l, am_cat_n, gd_i, gd_r, gd_n, gd_u, List.length_cons, List.length_nil, true_and, and_true, ↓reduceIte, Nat.zero_le, Nat.reduceLeDiff, Nat.reduceAdd, e_10, e_01, e_00, e_11, Int32.reduceLE, Int32.reduceLT, Int32.reduceAdd, Int32.reduceSub, b01, if_true, if_false, ite_self, rc_82, gf_82_0, gf_82_1, gf_82_2, gf_82_3, gf_82_4, gf_82_5, gf_82_6, pf_82_6, gf_82_7, pf_82_7, gf_82_8, pf_82_8, gf_82_9, pf_82_9, gf_82_10, pf_82_10, gf_82_11, pf_82_11, gf_82_12, pf_82_12, gf_82_13, gf_82_14, gf_82_15, gf_82_16, pf_82_16, gf_82_17, gf_82_18, gf_82_19, gf_82_20, gf_82_21, gf_82_22, gf_82_23, gf_82_24, gf_82_25, pf_82_25, ga_83, wi_83, ga_84, wi_84, ga_85, wb_85, ga_86, wi_86, ga_87, wb_87, ga_88, wi_88, ga_89, wi_89, ga_90, wi_90, ga_91, wi_91, ga_92, wi_92, ga_93, wi_93, ga_94, wi_94, ga_95, wi_95, ga_96, wb_96, ga_97, wi_97, ga_98, wi_98, ga_99, wi_99, nl_add, nl_add', nl_mul, nI_add, in_t, cl_n, le_nn, lt_nn, le_ln, le_nl, lt_nl, lt_ln, eq_nn, eq_nl, in_lit, cl_lit, Nat.le_refl, Nat.add_zero, M_of0, M_of1, c4, r4, hr1, e1, e2]
        · rw [if_neg hr] at e2
          refine ⟨fun z => (z.2.elim (fun y => absurd y r4) (fun y => absurd y hr)), fun _ => ?_⟩
          simp (disch := omega) only [iX9_pin_0, iX9_pin_1, iX9_pin_2, iX9_pin_5, iX9_pin_8, iX9_pin_9, iX9_pin_11, iX9_pin_14, iX9_pin_15, iX9_pin_16, iX9_pin_17, iX9_pin_18, iX9_pin_21, iX9_pin_22, iX9_pin_23, iX9_pin_24, iX9_pin_25, iX9_pin_26, iX9_pin_29, iX9_pin_30, iX9_pin_31, iX9_pin_34, iX9_pin_37, iX9_pin_38, iX9_pin_40, iX9_pin_43, iX9_pin_44, iX9_pin_45, iX9_pin_46, iX9_pin_48, iX9_pin_49, iX9_pin_50, iX9_pin_51, iX9_pin_54, iX9_pin_55, iX9_pin_56, iX9_pin_59, iX9_pin_62, iX9_pin_63, iX9_pin_64, iX9_pin_65, iX9_pin_68, iX9_pin_70, iX9_pin_72, iX9_pin_73, iX9_pin_74, iX9_pin_75, iX9_pin_76, iX9_pin_77, iX9_pin_78, iX9_pin_79, iX9_pin_80, iX9_pin_83, iX9_pin_85, iX9_pin_87, iX9_pin_88, iX9_pin_89, iX9_pin_90, iX9_pin_91, iX9_pin_92, iX9_pin_93, iX9_pin_94, iX9_pin_95, true_or, or_true, Option.bind_some, Option.bind_none, kk_hp, kn_hp, el_i, el_b, el_z, am_cat_nil, am_cat_i, am_cat_r, am_cat_l, am_cat_n, gd_i, gd_r, gd_n, gd_u, List.length_cons, List.length_nil, true_and, and_true, ↓reduceIte, Nat.zero_le, Nat.reduceLeDiff, Nat.reduceAdd, e_10, e_01, e_00, e_11, Int32.reduceLE, Int32.reduceLT, Int32.reduceAdd, Int32.reduceSub, b01, if_true, if_false, ite_self, rc_82, gf_82_0, gf_82_1, gf_82_2, gf_82_3, gf_82_4, gf_82_5, gf_82_6, pf_82_6, gf_82_7, pf_82_7, gf_82_8, pf_82_8, gf_82_9, pf_82_9, gf_82_10, pf_82_10, gf_82_11, pf_82_11, gf_82_12, pf_82_12, gf_82_13, gf_82_14, gf_82_15, gf_82_16, pf_82_16, gf_82_17, gf_82_18, gf_82_19, gf_82_20, gf_82_21, gf_82_22, gf_82_23, gf_82_24, gf_82_25, pf_82_25, ga_83, wi_83, ga_84, wi_84, ga_85, wb_85, ga_86, wi_86, ga_87, wb_87, ga_88, wi_88, ga_89, wi_89, ga_90, wi_90, ga_91, wi_91, ga_92, wi_92, ga_93, wi_93, ga_94, wi_94, ga_95, wi_95, ga_96, wb_96, ga_97, wi_97, ga_98, wi_98, ga_99, wi_99, nl_add, nl_add', nl_mul, nI_add, in_t, cl_n, le_nn, lt_nn, le_ln, le_nl, lt_nl, lt_ln, eq_nn, eq_nl, in_lit, cl_lit, Nat.le_refl, Nat.add_zero, M_of0, M_of1, c4, r4, hr1, e1, e2]
    · rw [if_neg hc] at e1
      refine ⟨fun z => (z.1.elim (fun y => absurd y c4) (fun y => absurd y hc)), fun _ => ?_⟩
      simp (disch := omega) only [iX9_pin_0, iX9_pin_1, iX9_pin_2, iX9_pin_5, iX9_pin_8, iX9_pin_9, iX9_pin_11, iX9_pin_14, iX9_pin_15, iX9_pin_16, iX9_pin_17, iX9_pin_18, iX9_pin_21, iX9_pin_22, iX9_pin_23, iX9_pin_24, iX9_pin_25, iX9_pin_26, iX9_pin_29, iX9_pin_30, iX9_pin_31, iX9_pin_34, iX9_pin_37, iX9_pin_38, iX9_pin_40, iX9_pin_43, iX9_pin_44, iX9_pin_45, iX9_pin_46, iX9_pin_48, iX9_pin_49, iX9_pin_50, iX9_pin_51, iX9_pin_54, iX9_pin_55, iX9_pin_56, iX9_pin_59, iX9_pin_62, iX9_pin_63, iX9_pin_64, iX9_pin_65, iX9_pin_68, iX9_pin_70, iX9_pin_72, iX9_pin_73, iX9_pin_74, iX9_pin_75, iX9_pin_76, iX9_pin_77, iX9_pin_78, iX9_pin_79, iX9_pin_80, iX9_pin_83, iX9_pin_85, iX9_pin_87, iX9_pin_88, iX9_pin_89, iX9_pin_90, iX9_pin_91, iX9_pin_92, iX9_pin_93, iX9_pin_94, iX9_pin_95, true_or, or_true, Option.bind_some, Option.bind_none, kk_hp, kn_hp, el_i, el_b, el_z, am_cat_nil, am_cat_i, am_cat_r, am_cat_l, am_cat_n, gd_i, gd_r, gd_n, gd_u, List.length_cons, List.length_nil, true_and, and_true, ↓reduceIte, Nat.zero_le, Nat.reduceLeDiff, Nat.reduceAdd, e_10, e_01, e_00, e_11, Int32.reduceLE, Int32.reduceLT, Int32.reduceAdd, Int32.reduceSub, b01, if_true, if_false, ite_self, rc_82, gf_82_0, gf_82_1, gf_82_2, gf_82_3, gf_82_4, gf_82_5, gf_82_6, pf_82_6, gf_82_7, pf_82_7, gf_82_8, pf_82_8, gf_82_9, pf_82_9, gf_82_10, pf_82_10, gf_82_11, pf_82_11, gf_82_12, pf_82_12, gf_82_13, gf_82_14, gf_82_15, gf_82_16, pf_82_16, gf_82_17, gf_82_18, gf_82_19, gf_82_20, gf_82_21, gf_82_22, gf_82_23, gf_82_24, gf_82_25, pf_82_25, ga_83, wi_83, ga_84, wi_84, ga_85, wb_85, ga_86, wi_86, ga_87, wb_87, ga_88, wi_88, ga_89, wi_89, ga_90, wi_90, ga_91, wi_91, ga_92, wi_92, ga_93, wi_93, ga_94, wi_94, ga_95, wi_95, ga_96, wb_96, ga_97, wi_97, ga_98, wi_98, ga_99, wi_99, nl_add, nl_add', nl_mul, nI_add, in_t, cl_n, le_nn, lt_nn, le_ln, le_nl, lt_nl, lt_ln, eq_nn, eq_nl, in_lit, cl_lit, Nat.le_refl, Nat.add_zero, M_of0, M_of1, c4, hr1, e1]
theorem S_pin (h : RR M) (i c r : Int32) : St X kX8_pin [.ref 0, .int i, .int c, .int r] kX9_pin [.ref 82, .int i, .int c, .int r] M := by
  have hwf := h.1
  have hm := hwf.2.1.2
  have hn := hwf.1.2
  have q7 : M 1 7 = nI (mI (M 83)) := h.2.1.1.2.2.2.2.2.trans h.1.2.1.1
  rcases Classical.em (∃ k, k < mI (M 83) ∧ i = nI k) with ⟨k, hk, rfl⟩ | hno
  · have hb := @C_itm1 X M k (mI (M 83)) q7 hk (by omega)
    have r0 : M 1 0 = M 83 0 := h.2.1.1.1
    have f0 : M (1 + 4) k = M 83 (26 + 6 * k) := h.2.1.2.2.2 k hk 0 (by decide)
    have f1 : M (1 + 4 + 1) k = M 83 (26 + 6 * k + 1) := h.2.1.2.2.2 k hk 1 (by decide)
    have ep := @C_isPin X M 1 k c r (Or.inl rfl) (by omega)
    rw [r0, f0, f1] at ep
    by_cases hq : pnC (M 83 0) (M 83 (26 + 6 * k)) c ∧ pnC 12 (M 83 (26 + 6 * k + 1)) r
    · have ep1 := ep.1 hq
      generalize hM1 : up (up (up M 9 k c) 10 k r) 0 8 1 = M1
      have k83 : M1 83 = M 83 := by rw [← hM1]; rfl
      have em := (@M_pin X M1 k c r (by omega) (M_itm1 (by rw [k83]; exact hwf.2.1.1) hk (by omega))).1 (by rw [k83]; exact hq)
      refine ⟨1, M1, up (up M1 83 (26 + 6 * k + 4) c) 83 (26 + 6 * k + 5) r, ?_, em, ?_⟩
      · simp (disch := omega) only [iX8_pin_0, iX8_pin_1, iX8_pin_2, iX8_pin_5, iX8_pin_8, iX8_pin_9, iX8_pin_12, iX8_pin_13, iX8_pin_14, iX8_pin_15, iX8_pin_18, iX8_pin_21, iX8_pin_22, iX8_pin_23, iX8_pin_24, iX8_pin_27, iX8_pin_30, iX8_pin_31, iX8_pin_32, iX8_pin_33, iX8_pin_34, iX8_pin_35, iX8_pin_36, iX8_pin_39, iX8_pin_42, iX8_pin_43, iX8_pin_44, iX8_pin_45, iX8_pin_46, iX8_pin_47, iX8_pin_48, iX8_pin_49, iX8_pin_52, iX8_pin_53, true_or, or_true, Option.bind_some, Option.bind_none, kk_hp, kn_hp, el_i, el_b, el_z, am_cat_nil, am_cat_i, am_cat_r, am_cat_l, am_cat_n, gd_i, gd_r, gd_n, gd_u, List.length_cons, List.length_nil, true_and, and_true, ↓reduceIte, Nat.zero_le, Nat.reduceLeDiff, Nat.reduceAdd, e_10, e_01, e_00, e_11, Int32.reduceLE, Int32.reduceLT, Int32.reduceAdd, Int32.reduceSub, b01, if_true, if_false, ite_self, rc_0, gf_0_0, gf_0_1, gf_0_2, gf_0_3, gf_0_4, gf_0_5, gf_0_6, gf_0_7, gf_0_8, pf_0_8, gf_0_9, pf_0_9, rc_1, gf_1_0, pf_1_0, gf_1_1, gf_1_2, gf_1_3, pf_1_3, gf_1_4, pf_1_4, gf_1_5, pf_1_5, gf_1_6, pf_1_6, gf_1_7, pf_1_7, gf_1_8, gf_1_9, ga_9, wi_9, ga_10, wi_10, nl_add, nl_add', nl_mul, nI_add, in_t, cl_n, le_nn, lt_nn, le_ln, le_nl, lt_nl, lt_ln, eq_nn, eq_nl, in_lit, cl_lit, Nat.le_refl, Nat.add_zero, f1_4, f1_5, hb, ep1, hM1]
      · have e83 : (up (up M1 83 (26 + 6 * k + 4) c) 83 (26 + 6 * k + 5) r) 83 = upd (upd (M 83) (26 + 6 * k + 4) c) (26 + 6 * k + 5) r := by rw [up_s, up_s, k83]
        have es : ∀ j, j ≠ 26 + 6 * k + 4 → j ≠ 26 + 6 * k + 5 → upd (upd (M 83) (26 + 6 * k + 4) c) (26 + 6 * k + 5) r j = M 83 j := fun j h1 h2 => by rw [pk_un h2, pk_un h1]
        have ec : ∀ x, x ≠ 0 → x ≠ 9 → x ≠ 10 → x ≠ 83 → (up (up M1 83 (26 + 6 * k + 4) c) 83 (26 + 6 * k + 5) r) x = M x := fun x i0 i2 i3 i8 => by rw [up_n _ _ _ i8, up_n _ _ _ i8, ← hM1, up_n _ _ _ i0, up_n _ _ _ i3, up_n _ _ _ i2]
        have e9 : (up (up M1 83 (26 + 6 * k + 4) c) 83 (26 + 6 * k + 5) r) 9 = upd (M 9) k c := by rw [up_n _ _ _ (by decide), up_n _ _ _ (by decide), ← hM1]; rfl
        have e10 : (up (up M1 83 (26 + 6 * k + 4) c) 83 (26 + 6 * k + 5) r) 10 = upd (M 10) k r := by rw [up_n _ _ _ (by decide), up_n _ _ _ (by decide), ← hM1]; rfl
        refine RR_c h (fun a h1 h2 => ec a (by omega) (by omega) (by omega) h2) (by rw [← hM1]; rfl) (by rw [← hM1]; rfl) ?_ ?_
        · rw [e83]
          refine wf_it hwf (fun j hj => es j (by omega) (by omega)) (fun i hi => ?_)
          by_cases hik : i = k
          · subst hik
            obtain ⟨⟨ww, w1, wn⟩, ⟨tw, t1, t4⟩, -, -⟩ := hwf.2.2.1 i hi
            have pc := hq.1
            have pr := hq.2
            rw [hwf.1.1, ww] at pc
            rw [tw, show (12 : Int32) = nI 12 from rfl] at pr
            have qc := pn_of pc wn (by omega)
            have qr := pn_of pr (by omega) (by omega)
            unfold itm wI tI pC pR nC
            rw [es 0 (by omega) (by omega), es (26 + 6 * i) (by omega) (by omega), es (26 + 6 * i + 1) (by omega) (by omega), pk_us, pk_un (show 26 + 6 * i + 4 ≠ 26 + 6 * i + 5 by omega), pk_us]
            refine ⟨⟨ww, w1, wn⟩, ⟨tw, t1, t4⟩, ?_, ?_⟩
            · rcases qc with z | ⟨p, z, hp2⟩
              · exact Or.inl z
              · right
                have hp3 : p + wI (M 83) i ≤ nC (M 83) := hp2
                rw [z, nI_clamp (by omega)]
                exact ⟨rfl, hp3⟩
            · rcases qr with z | ⟨p, z, hp2⟩
              · exact Or.inl z
              · right
                have hp3 : p + tI (M 83) i ≤ 12 := hp2
                rw [z, nI_clamp (by omega)]
                exact ⟨rfl, hp3⟩
          · exact itm_ext (hwf.2.2.1 i hi) (es 0 (by omega) (by omega)) (fun w hw => es _ (by omega) (by omega))
        · rw [e83]
          refine RG_it h.2.1 (fun x hx => ec x (by omega) (by omega) (by omega) (by omega)) (fun j hj => es j (by omega) (by omega)) hn (fun i hi w hw => ?_)
          by_cases hw4 : w = 4
          · subst hw4
            show (up (up M1 83 (26 + 6 * k + 4) c) 83 (26 + 6 * k + 5) r) 9 i = _
            rw [e9, pk_un (show 26 + 6 * i + 4 ≠ 26 + 6 * k + 5 by omega)]
            by_cases hik : i = k
            · rw [hik, pk_us, pk_us]
            · rw [pk_un hik, pk_un (by omega)]; exact h.2.1.2.2.2 i hi 4 (by decide)
          · by_cases hw5 : w = 5
            · subst hw5
              show (up (up M1 83 (26 + 6 * k + 4) c) 83 (26 + 6 * k + 5) r) 10 i = _
              rw [e10]
              by_cases hik : i = k
              · rw [hik, pk_us, pk_us]
              · rw [pk_un hik, es _ (by omega) (by omega)]; exact h.2.1.2.2.2 i hi 5 (by decide)
            · rw [ec (1 + 4 + w) (by omega) (by omega) (by omega) (by omega), es _ (by omega) (by omega)]
              exact h.2.1.2.2.2 i hi w hw
    · have ep0 := ep.2 hq
      have em := (@M_pin X M k c r (by omega) (M_itm1 hwf.2.1.1 hk (by omega))).2 hq
      refine ⟨-1, M, M, ?_, em, h⟩
      simp (disch := omega) only [iX8_pin_0, iX8_pin_1, iX8_pin_2, iX8_pin_5, iX8_pin_8, iX8_pin_9, iX8_pin_12, iX8_pin_13, iX8_pin_14, iX8_pin_15, iX8_pin_18, iX8_pin_21, iX8_pin_22, iX8_pin_23, iX8_pin_24, iX8_pin_27, iX8_pin_30, iX8_pin_31, iX8_pin_32, iX8_pin_33, iX8_pin_34, iX8_pin_35, iX8_pin_36, iX8_pin_39, iX8_pin_42, iX8_pin_43, iX8_pin_44, iX8_pin_45, iX8_pin_46, iX8_pin_47, iX8_pin_48, iX8_pin_49, iX8_pin_52, iX8_pin_53, true_or, or_true, Option.bind_some, Option.bind_none, kk_hp, kn_hp, el_i, el_b, el_z, am_cat_nil, am_cat_i, am_cat_r, am_cat_l, am_cat_n, gd_i, gd_r, gd_n, gd_u, List.length_cons, List.length_nil, true_and, and_true, ↓reduceIte, Nat.zero_le, Nat.reduceLeDiff, Nat.reduceAdd, e_10, e_01, e_00, e_11, Int32.reduceLE, Int32.reduceLT, Int32.reduceAdd, Int32.reduceSub, b01, if_true, if_false, ite_self, rc_0, gf_0_0, gf_0_1, gf_0_2, gf_0_3, gf_0_4, gf_0_5, gf_0_6, gf_0_7, gf_0_8, pf_0_8, gf_0_9, pf_0_9, rc_1, gf_1_0, pf_1_0, gf_1_1, gf_1_2, gf_1_3, pf_1_3, gf_1_4, pf_1_4, gf_1_5, pf_1_5, gf_1_6, pf_1_6, gf_1_7, pf_1_7, gf_1_8, gf_1_9, ga_9, wi_9, ga_10, wi_10, nl_add, nl_add', nl_mul, nI_add, in_t, cl_n, le_nn, lt_nn, le_ln, le_nl, lt_nl, lt_ln, eq_nn, eq_nl, in_lit, cl_lit, Nat.le_refl, Nat.add_zero, hb, ep0]
  · have hb := @C_itm0 X M i (mI (M 83)) q7 (by omega) hno
    have hr := @M_itm0 X M i (mI (M 83)) h.1.2.1.1 (by omega) hno
    refine ⟨-1, M, M, ?_, ?_, h⟩
    · simp (disch := omega) only [iX8_pin_0, iX8_pin_1, iX8_pin_2, iX8_pin_5, iX8_pin_8, iX8_pin_9, iX8_pin_12, iX8_pin_13, iX8_pin_14, iX8_pin_15, iX8_pin_18, iX8_pin_21, iX8_pin_22, iX8_pin_23, iX8_pin_24, iX8_pin_27, iX8_pin_30, iX8_pin_31, iX8_pin_32, iX8_pin_33, iX8_pin_34, iX8_pin_35, iX8_pin_36, iX8_pin_39, iX8_pin_42, iX8_pin_43, iX8_pin_44, iX8_pin_45, iX8_pin_46, iX8_pin_47, iX8_pin_48, iX8_pin_49, iX8_pin_52, iX8_pin_53, true_or, or_true, Option.bind_some, Option.bind_none, kk_hp, kn_hp, el_i, el_b, el_z, am_cat_nil, am_cat_i, am_cat_r, am_cat_l, am_cat_n, gd_i, gd_r, gd_n, gd_u, List.length_cons, List.length_nil, true_and, and_true, ↓reduceIte, Nat.zero_le, Nat.reduceLeDiff, Nat.reduceAdd, e_10, e_01, e_00, e_11, Int32.reduceLE, Int32.reduceLT, Int32.reduceAdd, Int32.reduceSub, b01, if_true, if_false, ite_self, rc_0, gf_0_0, gf_0_1, gf_0_2, gf_0_3, gf_0_4, gf_0_5, gf_0_6, gf_0_7, gf_0_8, pf_0_8, gf_0_9, pf_0_9, rc_1, gf_1_0, pf_1_0, gf_1_1, gf_1_2, gf_1_3, pf_1_3, gf_1_4, pf_1_4, gf_1_5, pf_1_5, gf_1_6, pf_1_6, gf_1_7, pf_1_7, gf_1_8, gf_1_9, nl_add, nl_add', nl_mul, nI_add, in_t, cl_n, le_nn, lt_nn, le_ln, le_nl, lt_nl, lt_ln, eq_nn, eq_nl, in_lit, cl_lit, Nat.le_refl, Nat.add_zero, hb]
    · simp (disch := omega) only [iX9_pin_0, iX9_pin_1, iX9_pin_2, iX9_pin_5, iX9_pin_8, iX9_pin_9, iX9_pin_11, iX9_pin_14, iX9_pin_15, iX9_pin_16, iX9_pin_17, iX9_pin_18, iX9_pin_21, iX9_pin_22, iX9_pin_23, iX9_pin_24, iX9_pin_25, iX9_pin_26, iX9_pin_29, iX9_pin_30, iX9_pin_31, iX9_pin_34, iX9_pin_37, iX9_pin_38, iX9_pin_40, iX9_pin_43, iX9_pin_44, iX9_pin_45, iX9_pin_46, iX9_pin_48, iX9_pin_49, iX9_pin_50, iX9_pin_51, iX9_pin_54, iX9_pin_55, iX9_pin_56, iX9_pin_59, iX9_pin_62, iX9_pin_63, iX9_pin_64, iX9_pin_65, iX9_pin_68, iX9_pin_70, iX9_pin_72, iX9_pin_73, iX9_pin_74, iX9_pin_75, iX9_pin_76, iX9_pin_77, iX9_pin_78, iX9_pin_79, iX9_pin_80, iX9_pin_83, iX9_pin_85, iX9_pin_87, iX9_pin_88, iX9_pin_89, iX9_pin_90, iX9_pin_91, iX9_pin_92, iX9_pin_93, iX9_pin_94, iX9_pin_95, true_or, or_true, Option.bind_some, Option.bind_none, kk_hp, kn_hp, el_i, el_b, el_z, am_cat_nil, am_cat_i, am_cat_r, am_cat_l, am_cat_n, gd_i, gd_r, gd_n, gd_u, List.length_cons, List.length_nil, true_and, and_true, ↓reduceIte, Nat.zero_le, Nat.reduceLeDiff, Nat.reduceAdd, e_10, e_01, e_00, e_11, Int32.reduceLE, Int32.reduceLT, Int32.reduceAdd, Int32.reduceSub, b01, if_true, if_false, ite_self, rc_82, gf_82_0, gf_82_1, gf_82_2, gf_82_3, gf_82_4, gf_82_5, gf_82_6, pf_82_6, gf_82_7, pf_82_7, gf_82_8, pf_82_8, gf_82_9, pf_82_9, gf_82_10, pf_82_10, gf_82_11, pf_82_11, gf_82_12, pf_82_12, gf_82_13, gf_82_14, gf_82_15, gf_82_16, pf_82_16, gf_82_17, gf_82_18, gf_82_19, gf_82_20, gf_82_21, gf_82_22, gf_82_23, gf_82_24, gf_82_25, pf_82_25, ga_83, wi_83, ga_84, wi_84, ga_85, wb_85, ga_86, wi_86, ga_87, wb_87, ga_88, wi_88, ga_89, wi_89, ga_90, wi_90, ga_91, wi_91, ga_92, wi_92, ga_93, wi_93, ga_94, wi_94, ga_95, wi_95, ga_96, wb_96, ga_97, wi_97, ga_98, wi_98, ga_99, wi_99, nl_add, nl_add', nl_mul, nI_add, in_t, cl_n, le_nn, lt_nn, le_ln, le_nl, lt_nl, lt_ln, eq_nn, eq_nl, in_lit, cl_lit, Nat.le_refl, Nat.add_zero, hr]
end S77
