/-! changes, i: numbers of the grid -/
theorem wf_ext {s s' : Nat → Int32} (h : wf s) (e : ∀ j, j = 0 ∨ (5 ≤ j ∧ j < 17) ∨ 25 ≤ j → s' j = s j) : wf s' := by
  have e0 : s' 0 = s 0 := e 0 (by omega)
  have e25 : s' 25 = s 25 := e 25 (by omega)
  have en : nC s' = nC s := by unfold nC; rw [e0]
  have em : mI s' = mI s := by unfold mI; rw [e25]
  obtain ⟨h1, h2, h3, h4⟩ := h
  refine ⟨by rw [e0, en]; exact h1, by rw [e25, em]; exact h2, fun i hi => ?_, fun c hc => ?_⟩
  · rw [em] at hi
    have := h3 i hi
    unfold itm wI tI pC pR at this ⊢
    rw [en, e (26 + 6 * i) (by omega), e (26 + 6 * i + 1) (by omega), e (26 + 6 * i + 4) (by omega), e (26 + 6 * i + 5) (by omega)]
    exact this
  · rw [en] at hc
    have := h1.2
    rw [e (5 + c) (by omega), e (11 + c) (by omega)]
    exact h4 c hc
theorem RG_sc {M M' : Nat → Nat → Int32} {g : Nat} {s s' : Nat → Int32} (h : RG M g s) (hk : ∀ k, 1 ≤ k → k < 11 → M' (g + k) = M (g + k)) (hs : ∀ j, (5 ≤ j ∧ j < 25) ∨ 26 ≤ j → s' j = s j) (hn : nC s' ≤ nC s) (hm : mI s' ≤ mI s)
    (h6 : M' g 0 = s' 0 ∧ M' g 3 = s' 1 ∧ M' g 4 = s' 2 ∧ M' g 5 = s' 3 ∧ M' g 6 = s' 4 ∧ M' g 7 = s' 25) (hn6 : nC s ≤ 6) : RG M' g s' := by
  obtain ⟨-, h2, h3, h4⟩ := h
  refine ⟨h6, fun c hc => ?_, fun v hv => ?_, fun i hi w hw => ?_⟩
  · rw [hk 1 (by omega) (by omega), hk 2 (by omega) (by omega), hs (5 + c) (by omega), hs (11 + c) (by omega)]
    exact h2 c (by omega)
  · rw [hk 10 (by omega) (by omega), hs (17 + v) (by omega)]
    exact h3 v hv
  · rw [Nat.add_assoc g, hk (4 + w) (by omega) (by omega), hs (26 + 6 * i + w) (by omega), ← Nat.add_assoc]
    exact h4 i (by omega) w hw
section S74
variable {X : am_X} {M : Nat → Nat → Int32}
theorem S_width (h : RR M) (w : Int32) : St X kX8_width [.ref 0, .int w, am_u] kX9_width [.ref 82, .int w] M := by
  have r := h.2.1.1
  have hr := fun K : Nat → Nat → Int32 => @M_width X K w
  have eb := @C_isBetween X M w 0 999
  by_cases hw : w = -4 ∨ (0 ≤ w ∧ w ≤ 999)
  · have ev : am_ev X kX8_width 0 [.ref 0, .int w, am_u] [] (hp M) = some (some (.int (M 83 3)), hp (up (up M 1 5 w) 0 8 1)) := by
      rw [← r.2.2.2.1]
      by_cases h4 : w = -4
      · simp (disch := omega) only [iX8_width_0, iX8_width_1, iX8_width_3, iX8_width_6, iX8_width_7, iX8_width_8, iX8_width_11, iX8_width_14, iX8_width_17, iX8_width_18, iX8_width_19, iX8_width_20, iX8_width_23, iX8_width_26, iX8_width_27, iX8_width_28, iX8_width_31, iX8_width_32, iX8_width_35, iX8_width_36, iX8_width_37, iX8_width_40, iX8_width_41, true_or, or_true, Option.bind_some, Option.bind_none, kk_hp, kn_hp, el_i, el_b, el_z, am_cat_nil, am_cat_i, am_cat_r, am_cat_l, am_cat_n, gd_i, gd_r, gd_n, gd_u, List.length_cons, List.length_nil, true_and, and_true, ↓reduceIte, Nat.zero_le, Nat.reduceLeDiff, Nat.reduceAdd, e_10, e_01, e_00, e_11, Int32.reduceLE, Int32.reduceLT, Int32.reduceAdd, Int32.reduceSub, b01, if_true, if_false, ite_self, rc_0, gf_0_0, gf_0_1, gf_0_2, gf_0_3, gf_0_4, gf_0_5, gf_0_6, gf_0_7, gf_0_8, pf_0_8, gf_0_9, pf_0_9, rc_1, gf_1_0, pf_1_0, gf_1_1, gf_1_2, gf_1_3, pf_1_3, gf_1_4, pf_1_4, gf_1_5, pf_1_5, gf_1_6, pf_1_6, gf_1_7, pf_1_7, gf_1_8, gf_1_9, nl_add, nl_add', nl_mul, nI_add, in_t, cl_n, le_nn, lt_nn, le_ln, le_nl, lt_nl, lt_ln, eq_nn, eq_nl, in_lit, cl_lit, Nat.le_refl, Nat.add_zero, h4]
      · rw [if_pos (hw.resolve_left h4)] at eb
        simp (disch := omega) only [iX8_width_0, iX8_width_1, iX8_width_3, iX8_width_6, iX8_width_7, iX8_width_8, iX8_width_11, iX8_width_14, iX8_width_17, iX8_width_18, iX8_width_19, iX8_width_20, iX8_width_23, iX8_width_26, iX8_width_27, iX8_width_28, iX8_width_31, iX8_width_32, iX8_width_35, iX8_width_36, iX8_width_37, iX8_width_40, iX8_width_41, true_or, or_true, Option.bind_some, Option.bind_none, kk_hp, kn_hp, el_i, el_b, el_z, am_cat_nil, am_cat_i, am_cat_r, am_cat_l, am_cat_n, gd_i, gd_r, gd_n, gd_u, List.length_cons, List.length_nil, true_and, and_true, ↓reduceIte, Nat.zero_le, Nat.reduceLeDiff, Nat.reduceAdd, e_10, e_01, e_00, e_11, Int32.reduceLE, Int32.reduceLT, Int32.reduceAdd, Int32.reduceSub, b01, if_true, if_false, ite_self, rc_0, gf_0_0, gf_0_1, gf_0_2, gf_0_3, gf_0_4, gf_0_5, gf_0_6, gf_0_7, gf_0_8, pf_0_8, gf_0_9, pf_0_9, rc_1, gf_1_0, pf_1_0, gf_1_1, gf_1_2, gf_1_3, pf_1_3, gf_1_4, pf_1_4, gf_1_5, pf_1_5, gf_1_6, pf_1_6, gf_1_7, pf_1_7, gf_1_8, gf_1_9, nl_add, nl_add', nl_mul, nI_add, in_t, cl_n, le_nn, lt_nn, le_ln, le_nl, lt_nl, lt_ln, eq_nn, eq_nl, in_lit, cl_lit, Nat.le_refl, Nat.add_zero, h4, eb]
    refine ⟨M 83 3, up (up M 1 5 w) 0 8 1, up (up (up M 1 5 w) 0 8 1) 83 3 w, ev, by rw [hr, if_pos hw]; rfl, ?_⟩
    refine RR_c h (fun a h1 h2 => by rw [up_n _ _ _ h2, up_n _ _ _ (by omega), up_n _ _ _ (by omega)]) rfl rfl ?_ ?_
    · exact wf_ext h.1 (fun j hj => by rw [up_s, pk_un (by omega)]; rfl)
    · exact RG_sc h.2.1 (fun k h1 h2 => by rw [up_n _ _ _ (by omega), up_n _ _ _ (by omega), up_n _ _ _ (by omega)]) (fun j hj => by rw [up_s, pk_un (by omega)]; rfl) (Nat.le_refl _) (Nat.le_refl _) ⟨r.1, r.2.1, r.2.2.1, rfl, r.2.2.2.2.1, r.2.2.2.2.2⟩ h.1.1.2
  · refine ⟨-1, M, M, ?_, by rw [hr, if_neg hw], h⟩
    rw [if_neg (fun z => hw (Or.inr z))] at eb
    have hw4 : ¬ w = -4 := fun z => hw (Or.inl z)
    simp (disch := omega) only [iX8_width_0, iX8_width_1, iX8_width_3, iX8_width_6, iX8_width_7, iX8_width_8, iX8_width_11, iX8_width_14, iX8_width_17, iX8_width_18, iX8_width_19, iX8_width_20, iX8_width_23, iX8_width_26, iX8_width_27, iX8_width_28, iX8_width_31, iX8_width_32, iX8_width_35, iX8_width_36, iX8_width_37, iX8_width_40, iX8_width_41, true_or, or_true, Option.bind_some, Option.bind_none, kk_hp, kn_hp, el_i, el_b, el_z, am_cat_nil, am_cat_i, am_cat_r, am_cat_l, am_cat_n, gd_i, gd_r, gd_n, gd_u, List.length_cons, List.length_nil, true_and, and_true, ↓reduceIte, Nat.zero_le, Nat.reduceLeDiff, Nat.reduceAdd, e_10, e_01, e_00, e_11, Int32.reduceLE, Int32.reduceLT, Int32.reduceAdd, Int32.reduceSub, b01, if_true, if_false, ite_self, rc_0, gf_0_0, gf_0_1, gf_0_2, gf_0_3, gf_0_4, gf_0_5, gf_0_6, gf_0_7, gf_0_8, pf_0_8, gf_0_9, pf_0_9, rc_1, gf_1_0, pf_1_0, gf_1_1, gf_1_2, gf_1_3, pf_1_3, gf_1_4, pf_1_4, gf_1_5, pf_1_5, gf_1_6, pf_1_6, gf_1_7, pf_1_7, gf_1_8, gf_1_9, nl_add, nl_add', nl_mul, nI_add, in_t, cl_n, le_nn, lt_nn, le_ln, le_nl, lt_nl, lt_ln, eq_nn, eq_nl, in_lit, cl_lit, Nat.le_refl, Nat.add_zero, hw4, eb]
theorem S_high (h : RR M) (w : Int32) : St X kX8_high [.ref 0, .int w, am_u] kX9_high [.ref 82, .int w] M := by
  have r := h.2.1.1
  have hr := fun K : Nat → Nat → Int32 => @M_high X K w
  have eb := @C_isBetween X M w 0 99
  by_cases hw : 0 ≤ w ∧ w ≤ 99
  · have ev : am_ev X kX8_high 0 [.ref 0, .int w, am_u] [] (hp M) = some (some (.int (M 83 4)), hp (up (up M 1 6 w) 0 8 1)) := by
      rw [← r.2.2.2.2.1]
      rw [if_pos hw] at eb
      simp (disch := omega) only [iX8_high_0, iX8_high_1, iX8_high_2, iX8_high_4, iX8_high_7, iX8_high_10, iX8_high_11, iX8_high_12, iX8_high_13, iX8_high_16, iX8_high_19, iX8_high_20, iX8_high_21, iX8_high_24, iX8_high_25, iX8_high_28, iX8_high_29, iX8_high_30, iX8_high_33, iX8_high_34, true_or, or_true, Option.bind_some, Option.bind_none, kk_hp, kn_hp, el_i, el_b, el_z, am_cat_nil, am_cat_i, am_cat_r, am_cat_l, am_cat_n, gd_i, gd_r, gd_n, gd_u, List.length_cons, List.length_nil, true_and, and_true, ↓reduceIte, Nat.zero_le, Nat.reduceLeDiff, Nat.reduceAdd, e_10, e_01, e_00, e_11, Int32.reduceLE, Int32.reduceLT, Int32.reduceAdd, Int32.reduceSub, b01, if_true, if_false, ite_self, rc_0, gf_0_0, gf_0_1, gf_0_2, gf_0_3, gf_0_4, gf_0_5, gf_0_6, gf_0_7, gf_0_8, pf_0_8, gf_0_9, pf_0_9, rc_1, gf_1_0, pf_1_0, gf_1_1, gf_1_2, gf_1_3, pf_1_3, gf_1_4, pf_1_4, gf_1_5, pf_1_5, gf_1_6, pf_1_6, gf_1_7, pf_1_7, gf_1_8, gf_1_9, nl_add, nl_add', nl_mul, nI_add, in_t, cl_n, le_nn, lt_nn, le_ln, le_nl, lt_nl, lt_ln, eq_nn, eq_nl, in_lit, cl_lit, Nat.le_refl, Nat.add_zero, eb]
    refine ⟨M 83 4, up (up M 1 6 w) 0 8 1, up (up (up M 1 6 w) 0 8 1) 83 4 w, ev, by rw [hr, if_pos hw]; rfl, ?_⟩
    refine RR_c h (fun a h1 h2 => by rw [up_n _ _ _ h2, up_n _ _ _ (by omega), up_n _ _ _ (by omega)]) rfl rfl ?_ ?_
    · exact wf_ext h.1 (fun j hj => by rw [up_s, pk_un (by omega)]; rfl)
    · exact RG_sc h.2.1 (fun k h1 h2 => by rw [up_n _ _ _ (by omega), up_n _ _ _ (by omega), up_n _ _ _ (by omega)]) (fun j hj => by rw [up_s, pk_un (by omega)]; rfl) (Nat.le_refl _) (Nat.le_refl _) ⟨r.1, r.2.1, r.2.2.1, r.2.2.2.1, rfl, r.2.2.2.2.2⟩ h.1.1.2
  · refine ⟨-1, M, M, ?_, by rw [hr, if_neg hw], h⟩
    rw [if_neg hw] at eb
    simp (disch := omega) only [iX8_high_0, iX8_high_1, iX8_high_2, iX8_high_4, iX8_high_7, iX8_high_10, iX8_high_11, iX8_high_12, iX8_high_13, iX8_high_16, iX8_high_19, iX8_high_20, iX8_high_21, iX8_high_24, iX8_high_25, iX8_high_28, iX8_high_29, iX8_high_30, iX8_high_33, iX8_high_34, true_or, or_true, Option.bind_some, Option.bind_none, kk_hp, kn_hp, el_i, el_b, el_z, am_cat_nil, am_cat_i, am_cat_r, am_cat_l, am_cat_n, gd_i, gd_r, gd_n, gd_u, List.length_cons, List.length_nil, true_and, and_true, ↓reduceIte, Nat.zero_le, Nat.reduceLeDiff, Nat.reduceAdd, e_10, e_01, e_00, e_11, Int32.reduceLE, Int32.reduceLT, Int32.reduceAdd, Int32.reduceSub, b01, if_true, if_false, ite_self, rc_0, gf_0_0, gf_0_1, gf_0_2, gf_0_3, gf_0_4, gf_0_5, gf_0_6, gf_0_7, gf_0_8, pf_0_8, gf_0_9, pf_0_9, rc_1, gf_1_0, pf_1_0, gf_1_1, gf_1_2, gf_1_3, pf_1_3, gf_1_4, pf_1_4, gf_1_5, pf_1_5, gf_1_6, pf_1_6, gf_1_7, pf_1_7, gf_1_8, gf_1_9, nl_add, nl_add', nl_mul, nI_add, in_t, cl_n, le_nn, lt_nn, le_ln, le_nl, lt_nl, lt_ln, eq_nn, eq_nl, in_lit, cl_lit, Nat.le_refl, Nat.add_zero, eb]
theorem S_gap (h : RR M) (x y : Int32) : St X kX8_gap [.ref 0, .int x, .int y, am_u] kX9_gap [.ref 82, .int x, .int y] M := by
  have r := h.2.1.1
  have hr := fun K : Nat → Nat → Int32 => @M_gap X K x y
  have ebx := @C_isBetween X M x 0 20
  have eby := @C_isBetween X M y 0 20
  by_cases hw : (0 ≤ x ∧ x ≤ 20) ∧ (0 ≤ y ∧ y ≤ 20)
  · have ev : am_ev X kX8_gap 0 [.ref 0, .int x, .int y, am_u] [] (hp M) = some (some (.int (100 * M 83 1 + M 83 2)), hp (up (up (up M 1 3 x) 1 4 y) 0 8 1)) := by
      rw [← r.2.1, ← r.2.2.1]
      rw [if_pos hw.1] at ebx
      rw [if_pos hw.2] at eby
      simp (disch := omega) only [iX8_gap_0, iX8_gap_1, iX8_gap_2, iX8_gap_4, iX8_gap_7, iX8_gap_10, iX8_gap_11, iX8_gap_12, iX8_gap_14, iX8_gap_17, iX8_gap_20, iX8_gap_21, iX8_gap_22, iX8_gap_24, iX8_gap_25, iX8_gap_28, iX8_gap_31, iX8_gap_32, iX8_gap_33, iX8_gap_36, iX8_gap_39, iX8_gap_40, iX8_gap_41, iX8_gap_42, iX8_gap_45, iX8_gap_46, iX8_gap_49, iX8_gap_50, iX8_gap_53, iX8_gap_54, iX8_gap_57, iX8_gap_58, iX8_gap_59, iX8_gap_62, iX8_gap_63, true_or, or_true, Option.bind_some, Option.bind_none, kk_hp, kn_hp, el_i, el_b, el_z, am_cat_nil, am_cat_i, am_cat_r, am_cat_l, am_cat_n, gd_i, gd_r, gd_n, gd_u, List.length_cons, List.length_nil, true_and, and_true, ↓reduceIte, Nat.zero_le, Nat.reduceLeDiff, Nat.reduceAdd, e_10, e_01, e_00, e_11, Int32.reduceLE, Int32.reduceLT, Int32.reduceAdd, Int32.reduceSub, b01, if_true, if_false, ite_self, rc_0, gf_0_0, gf_0_1, gf_0_2, gf_0_3, gf_0_4, gf_0_5, gf_0_6, gf_0_7, gf_0_8, pf_0_8, gf_0_9, pf_0_9, rc_1, gf_1_0, pf_1_0, gf_1_1, gf_1_2, gf_1_3, pf_1_3, gf_1_4, pf_1_4, gf_1_5, pf_1_5, gf_1_6, pf_1_6, gf_1_7, pf_1_7, gf_1_8, gf_1_9, nl_add, nl_add', nl_mul, nI_add, in_t, cl_n, le_nn, lt_nn, le_ln, le_nl, lt_nl, lt_ln, eq_nn, eq_nl, in_lit, cl_lit, Nat.le_refl, Nat.add_zero, ebx, eby]
    refine ⟨100 * M 83 1 + M 83 2, up (up (up M 1 3 x) 1 4 y) 0 8 1, up (up (up (up (up M 1 3 x) 1 4 y) 0 8 1) 83 1 x) 83 2 y, ev, by rw [hr, if_pos hw]; rfl, ?_⟩
    refine RR_c h (fun a h1 h2 => by rw [up_n _ _ _ h2, up_n _ _ _ h2, up_n _ _ _ (by omega), up_n _ _ _ (by omega), up_n _ _ _ (by omega)]) rfl rfl ?_ ?_
    · exact wf_ext h.1 (fun j hj => by rw [up_s, pk_un (by omega), up_s, pk_un (by omega)]; rfl)
    · exact RG_sc h.2.1 (fun k h1 h2 => by rw [up_n _ _ _ (by omega), up_n _ _ _ (by omega), up_n _ _ _ (by omega), up_n _ _ _ (by omega), up_n _ _ _ (by omega)]) (fun j hj => by rw [up_s, pk_un (by omega), up_s, pk_un (by omega)]; rfl) (Nat.le_refl _) (Nat.le_refl _) ⟨r.1, rfl, rfl, r.2.2.2.1, r.2.2.2.2.1, r.2.2.2.2.2⟩ h.1.1.2
  · refine ⟨-1, M, M, ?_, by rw [hr, if_neg hw], h⟩
    by_cases hx : 0 ≤ x ∧ x ≤ 20
    · rw [if_pos hx] at ebx
      rw [if_neg (fun z => hw ⟨hx, z⟩)] at eby
      simp (disch := omega) only [iX8_gap_0, iX8_gap_1, iX8_gap_2, iX8_gap_4, iX8_gap_7, iX8_gap_10, iX8_gap_11, iX8_gap_12, iX8_gap_14, iX8_gap_17, iX8_gap_20, iX8_gap_21, iX8_gap_22, iX8_gap_24, iX8_gap_25, iX8_gap_28, iX8_gap_31, iX8_gap_32, iX8_gap_33, iX8_gap_36, iX8_gap_39, iX8_gap_40, iX8_gap_41, iX8_gap_42, iX8_gap_45, iX8_gap_46, iX8_gap_49, iX8_gap_50, iX8_gap_53, iX8_gap_54, iX8_gap_57, iX8_gap_58, iX8_gap_59, iX8_gap_62, iX8_gap_63, true_or, or_true, Option.bind_some, Option.bind_none, kk_hp, kn_hp, el_i, el_b, el_z, am_cat_nil, am_cat_i, am_cat_r, am_cat_l, am_cat_n, gd_i, gd_r, gd_n, gd_u, List.length_cons, List.length_nil, true_and, and_true, ↓reduceIte, Nat.zero_le, Nat.reduceLeDiff, Nat.reduceAdd, e_10, e_01, e_00, e_11, Int32.reduceLE, Int32.reduceLT, Int32.reduceAdd, Int32.reduceSub, b01, if_true, if_false, ite_self, rc_0, gf_0_0, gf_0_1, gf_0_2, gf_0_3, gf_0_4, gf_0_5, gf_0_6, gf_0_7, gf_0_8, pf_0_8, gf_0_9, pf_0_9, rc_1, gf_1_0, pf_1_0, gf_1_1, gf_1_2, gf_1_3, pf_1_3, gf_1_4, pf_1_4, gf_1_5, pf_1_5, gf_1_6, pf_1_6, gf_1_7, pf_1_7, gf_1_8, gf_1_9, nl_add, nl_add', nl_mul, nI_add, in_t, cl_n, le_nn, lt_nn, le_ln, le_nl, lt_nl, lt_ln, eq_nn, eq_nl, in_lit, cl_lit, Nat.le_refl, Nat.add_zero, ebx, eby]
    · rw [if_neg hx] at ebx
      simp (disch := omega) only [iX8_gap_0, iX8_gap_1, iX8_gap_2, iX8_gap_4, iX8_gap_7, iX8_gap_10, iX8_gap_11, iX8_gap_12, iX8_gap_14, iX8_gap_17, iX8_gap_20, iX8_gap_21, iX8_gap_22, iX8_gap_24, iX8_gap_25, iX8_gap_28, iX8_gap_31, iX8_gap_32, iX8_gap_33, iX8_gap_36, iX8_gap_39, iX8_gap_40, iX8_gap_41, iX8_gap_42, iX8_gap_45, iX8_gap_46, iX8_gap_49, iX8_gap_50, iX8_gap_53, iX8_gap_54, iX8_gap_57, iX8_gap_58, iX8_gap_59, iX8_gap_62, iX8_gap_63, true_or, or_true, Option.bind_some, Option.bind_none, kk_hp, kn_hp, el_i, el_b, el_z, am_cat_nil, am_cat_i, am_cat_r, am_cat_l, am_cat_n, gd_i, gd_r, gd_n, gd_u, List.length_cons, List.length_nil, true_and, and_true, ↓reduceIte, Nat.zero_le, Nat.reduceLeDiff, Nat.reduceAdd, e_10, e_01, e_00, e_11, Int32.reduceLE, Int32.reduceLT, Int32.reduceAdd, Int32.reduceSub, b01, if_true, if_false, ite_self, rc_0, gf_0_0, gf_0_1, gf_0_2, gf_0_3, gf_0_4, gf_0_5, gf_0_6, gf_0_7, gf_0_8, pf_0_8, gf_0_9, pf_0_9, rc_1, gf_1_0, pf_1_0, gf_1_1, gf_1_2, gf_1_3, pf_1_3, gf_1_4, pf_1_4, gf_1_5, pf_1_5, gf_1_6, pf_1_6, gf_1_7, pf_1_7, gf_1_8, gf_1_9, nl_add, nl_add', nl_mul, nI_add, in_t, cl_n, le_nn, lt_nn, le_ln, le_nl, lt_nl, lt_ln, eq_nn, eq_nl, in_lit, cl_lit, Nat.le_refl, Nat.add_zero, ebx]
/-- a track's kind and number -/
def trk (k n : Int32) : Prop := (k = 0 ∧ 0 ≤ n ∧ n ≤ 99) ∨ (k = 1 ∧ n = 0) ∨ (k = 2 ∧ 1 ≤ n ∧ n ≤ 9)
theorem C_isTrack {k n : Int32} : (trk k n → am_ev X kX8_isTrack 0 [.int k, .int n] [] (hp M) = some (some (.int 1), hp M)) ∧ (¬ trk k n → am_ev X kX8_isTrack 0 [.int k, .int n] [] (hp M) = some (some (.int 0), hp M)) := by
  have e1 := @C_isBetween X M n 0 99
  have e2 := @C_isBetween X M n 1 9
  unfold trk
  by_cases k0 : k = 0
  · subst k0
    by_cases hn : 0 ≤ n ∧ n ≤ 99
    · rw [if_pos hn] at e1
      refine ⟨fun _ => ?_, fun z => absurd (Or.inl ⟨rfl, hn⟩) z⟩
      simp (disch := omega) only [iX8_isTrack_0, iX8_isTrack_1, iX8_isTrack_28, iX8_isTrack_29, iX8_isTrack_30, iX8_isTrack_32, iX8_isTrack_35, iX8_isTrack_36, iX8_isTrack_37, iX8_isTrack_40, iX8_isTrack_41, iX8_isTrack_44, iX8_isTrack_45, iX8_isTrack_46, iX8_isTrack_47, iX8_isTrack_48, iX8_isTrack_50, iX8_isTrack_53, iX8_isTrack_54, iX8_isTrack_55, true_or, or_true, Option.bind_some, Option.bind_none, kk_hp, kn_hp, el_i, el_b, el_z, am_cat_nil, am_cat_i, am_cat_r, am_cat_l, am_cat_n, gd_i, gd_r, gd_n, gd_u, List.length_cons, List.length_nil, true_and, and_true, ↓reduceIte, Nat.zero_le, Nat.reduceLeDiff, Nat.reduceAdd, e_10, e_01, e_00, e_11, Int32.reduceLE, Int32.reduceLT, Int32.reduceAdd, Int32.reduceSub, b01, if_true, if_false, ite_self, nl_add, nl_add', nl_mul, nI_add, in_t, cl_n, le_nn, lt_nn, le_ln, le_nl, lt_nl, lt_ln, eq_nn, eq_nl, in_lit, cl_lit, Nat.le_refl, Nat.add_zero, eq_ll, Nat.reduceEqDiff, e1]
    · rw [if_neg hn] at e1
      refine ⟨fun z => ?_, fun _ => ?_⟩
      · rcases z with z | z | z
        · exact absurd z.2 hn
        · exact absurd z.1 (by decide)
        · exact absurd z.1 (by decide)
      · simp (disch := omega) only [iX8_isTrack_0, iX8_isTrack_1, iX8_isTrack_28, iX8_isTrack_29, iX8_isTrack_30, iX8_isTrack_32, iX8_isTrack_35, iX8_isTrack_36, iX8_isTrack_37, iX8_isTrack_40, iX8_isTrack_41, iX8_isTrack_44, iX8_isTrack_45, iX8_isTrack_46, iX8_isTrack_47, iX8_isTrack_48, iX8_isTrack_50, iX8_isTrack_53, iX8_isTrack_54, iX8_isTrack_55, true_or, or_true, Option.bind_some, Option.bind_none, kk_hp, kn_hp, el_i, el_b, el_z, am_cat_nil, am_cat_i, am_cat_r, am_cat_l, am_cat_n, gd_i, gd_r, gd_n, gd_u, List.length_cons, List.length_nil, true_and, and_true, ↓reduceIte, Nat.zero_le, Nat.reduceLeDiff, Nat.reduceAdd, e_10, e_01, e_00, e_11, Int32.reduceLE, Int32.reduceLT, Int32.reduceAdd, Int32.reduceSub, b01, if_true, if_false, ite_self, nl_add, nl_add', nl_mul, nI_add, in_t, cl_n, le_nn, lt_nn, le_ln, le_nl, lt_nl, lt_ln, eq_nn, eq_nl, in_lit, cl_lit, Nat.le_refl, Nat.add_zero, eq_ll, Nat.reduceEqDiff, e1]
  by_cases k1 : k = 1
  · subst k1
    by_cases hn : n = 0
    · refine ⟨fun _ => ?_, fun z => absurd (Or.inr (Or.inl ⟨rfl, hn⟩)) z⟩
      simp (disch := omega) only [iX8_isTrack_0, iX8_isTrack_1, iX8_isTrack_28, iX8_isTrack_29, iX8_isTrack_30, iX8_isTrack_32, iX8_isTrack_35, iX8_isTrack_36, iX8_isTrack_37, iX8_isTrack_40, iX8_isTrack_41, iX8_isTrack_44, iX8_isTrack_45, iX8_isTrack_46, iX8_isTrack_47, iX8_isTrack_48, iX8_isTrack_50, iX8_isTrack_53, iX8_isTrack_54, iX8_isTrack_55, true_or, or_true, Option.bind_some, Option.bind_none, kk_hp, kn_hp, el_i, el_b, el_z, am_cat_nil, am_cat_i, am_cat_r, am_cat_l, am_cat_n, gd_i, gd_r, gd_n, gd_u, List.length_cons, List.length_nil, true_and, and_true, ↓reduceIte, Nat.zero_le, Nat.reduceLeDiff, Nat.reduceAdd, e_10, e_01, e_00, e_11, Int32.reduceLE, Int32.reduceLT, Int32.reduceAdd, Int32.reduceSub, b01, if_true, if_false, ite_self, nl_add, nl_add', nl_mul, nI_add, in_t, cl_n, le_nn, lt_nn, le_ln, le_nl, lt_nl, lt_ln, eq_nn, eq_nl, in_lit, cl_lit, Nat.le_refl, Nat.add_zero, eq_ll, Nat.reduceEqDiff, hn]
    · refine ⟨fun z => ?_, fun _ => ?_⟩
      · rcases z with z | z | z
        · exact absurd z.1 (by decide)
        · exact absurd z.2 hn
        · exact absurd z.1 (by decide)
      · simp (disch := omega) only [iX8_isTrack_0, iX8_isTrack_1, iX8_isTrack_28, iX8_isTrack_29, iX8_isTrack_30, iX8_isTrack_32, iX8_isTrack_35, iX8_isTrack_36, iX8_isTrack_37, iX8_isTrack_40, iX8_isTrack_41, iX8_isTrack_44, iX8_isTrack_45, iX8_isTrack_46, iX8_isTrack_47, iX8_isTrack_48, iX8_isTrack_50, iX8_isTrack_53, iX8_isTrack_54, iX8_isTrack_55, true_or, or_true, Option.bind_some, Option.bind_none, kk_hp, kn_hp, el_i, el_b, el_z, am_cat_nil, am_cat_i, am_cat_r, am_cat_l, am_cat_n, gd_i, gd_r, gd_n, gd_u, List.length_cons, List.length_nil, true_and, and_true, ↓reduceIte, Nat.zero_le, Nat.reduceLeDiff, Nat.reduceAdd, e_10, e_01, e_00, e_11, Int32.reduceLE, Int32.reduceLT, Int32.reduceAdd, Int32.reduceSub, b01, if_true, if_false, ite_self, nl_add, nl_add', nl_mul, nI_add, in_t, cl_n, le_nn, lt_nn, le_ln, le_nl, lt_nl, lt_ln, eq_nn, eq_nl, in_lit, cl_lit, Nat.le_refl, Nat.add_zero, eq_ll, Nat.reduceEqDiff, hn]
  by_cases k2 : k = 2
  · subst k2
    by_cases hn : 1 ≤ n ∧ n ≤ 9
    · rw [if_pos hn] at e2
      refine ⟨fun _ => ?_, fun z => absurd (Or.inr (Or.inr ⟨rfl, hn⟩)) z⟩
      simp (disch := omega) only [iX8_isTrack_0, iX8_isTrack_1, iX8_isTrack_28, iX8_isTrack_29, iX8_isTrack_30, iX8_isTrack_32, iX8_isTrack_35, iX8_isTrack_36, iX8_isTrack_37, iX8_isTrack_40, iX8_isTrack_41, iX8_isTrack_44, iX8_isTrack_45, iX8_isTrack_46, iX8_isTrack_47, iX8_isTrack_48, iX8_isTrack_50, iX8_isTrack_53, iX8_isTrack_54, iX8_isTrack_55, true_or, or_true, Option.bind_some, Option.bind_none, kk_hp, kn_hp, el_i, el_b, el_z, am_cat_nil, am_cat_i, am_cat_r, am_cat_l, am_cat_n, gd_i, gd_r, gd_n, gd_u, List.length_cons, List.length_nil, true_and, and_true, ↓reduceIte, Nat.zero_le, Nat.reduceLeDiff, Nat.reduceAdd, e_10, e_01, e_00, e_11, Int32.reduceLE, Int32.reduceLT, Int32.reduceAdd, Int32.reduceSub, b01, if_true, if_false, ite_self, nl_add, nl_add', nl_mul, nI_add, in_t, cl_n, le_nn, lt_nn, le_ln, le_nl, lt_nl, lt_ln, eq_nn, eq_nl, in_lit, cl_lit, Nat.le_refl, Nat.add_zero, eq_ll, Nat.reduceEqDiff, e2]
    · rw [if_neg hn] at e2
      refine ⟨fun z => ?_, fun _ => ?_⟩
      · rcases z with z | z | z
        · exact absurd z.1 (by decide)
        · exact absurd z.1 (by decide)
        · exact absurd z.2 hn
      · simp (disch := omega) only [iX8_isTrack_0, iX8_isTrack_1, iX8_isTrack_28, iX8_isTrack_29, iX8_isTrack_30, iX8_isTrack_32, iX8_isTrack_35, iX8_isTrack_36, iX8_isTrack_37, iX8_isTrack_40, iX8_isTrack_41, iX8_isTrack_44, iX8_isTrack_45, iX8_isTrack_46, iX8_isTrack_47, iX8_isTrack_48, iX8_isTrack_50, iX8_isTrack_53, iX8_isTrack_54, iX8_isTrack_55, true_or, or_true, Option.bind_some, Option.bind_none, kk_hp, kn_hp, el_i, el_b, el_z, am_cat_nil, am_cat_i, am_cat_r, am_cat_l, am_cat_n, gd_i, gd_r, gd_n, gd_u, List.length_cons, List.length_nil, true_and, and_true, ↓reduceIte, Nat.zero_le, Nat.reduceLeDiff, Nat.reduceAdd, e_10, e_01, e_00, e_11, Int32.reduceLE, Int32.reduceLT, Int32.reduceAdd, Int32.reduceSub, b01, if_true, if_false, ite_self, nl_add, nl_add', nl_mul, nI_add, in_t, cl_n, le_nn, lt_nn, le_ln, le_nl, lt_nl, lt_ln, eq_nn, eq_nl, in_lit, cl_lit, Nat.le_refl, Nat.add_zero, eq_ll, Nat.reduceEqDiff, e2]
  refine ⟨fun z => ?_, fun _ => ?_⟩
  · rcases z with z | z | z
    · exact absurd z.1 k0
    · exact absurd z.1 k1
    · exact absurd z.1 k2
  · simp (disch := omega) only [iX8_isTrack_0, iX8_isTrack_1, iX8_isTrack_28, iX8_isTrack_29, iX8_isTrack_30, iX8_isTrack_32, iX8_isTrack_35, iX8_isTrack_36, iX8_isTrack_37, iX8_isTrack_40, iX8_isTrack_41, iX8_isTrack_44, iX8_isTrack_45, iX8_isTrack_46, iX8_isTrack_47, iX8_isTrack_48, iX8_isTrack_50, iX8_isTrack_53, iX8_isTrack_54, iX8_isTrack_55, true_or, or_true, Option.bind_some, Option.bind_none, kk_hp, kn_hp, el_i, el_b, el_z, am_cat_nil, am_cat_i, am_cat_r, am_cat_l, am_cat_n, gd_i, gd_r, gd_n, gd_u, List.length_cons, List.length_nil, true_and, and_true, ↓reduceIte, Nat.zero_le, Nat.reduceLeDiff, Nat.reduceAdd, e_10, e_01, e_00, e_11, Int32.reduceLE, Int32.reduceLT, Int32.reduceAdd, Int32.reduceSub, b01, if_true, if_false, ite_self, nl_add, nl_add', nl_mul, nI_add, in_t, cl_n, le_nn, lt_nn, le_ln, le_nl, lt_nl, lt_ln, eq_nn, eq_nl, in_lit, cl_lit, Nat.le_refl, Nat.add_zero, k0, k1, k2]
theorem M_track {c k n : Int32} : am_ev X kX9_track 0 [.ref 82, .int c, .int k, .int n, am_u] [] (hp M) = am_ev X kX9_track 52 [.ref 82, .int c, .int k, .int n, .int (bI (@decide (trk k n) (Classical.propDecidable _)))] [] (hp M) := by
  have e1 := @M_isNeed X M n
  have e2 := @M_in X M n.toInt64 1 9
  simp (disch := decide) only [wl, wl_l, wl_r] at e2
  have ht : ∀ (z : trk k n), bI (@decide (trk k n) (Classical.propDecidable _)) = 1 := fun z => by
    simp [z, bI]
  have hf : ∀ (z : ¬ trk k n), bI (@decide (trk k n) (Classical.propDecidable _)) = 0 := fun z => by
    simp [z, bI]
  by_cases k0 : k = 0
  · subst k0
    by_cases hn : 0 ≤ n ∧ n ≤ 99
    · rw [if_pos hn] at e1
      rw [ht (Or.inl ⟨rfl, hn⟩)]
      simp (disch := omega) only [iX9_track_0, iX9_track_1, iX9_track_4, iX9_track_5, iX9_track_8, iX9_track_11, iX9_track_12, iX9_track_13, iX9_track_16, iX9_track_17, iX9_track_20, iX9_track_21, iX9_track_24, iX9_track_25, iX9_track_28, iX9_track_29, iX9_track_30, iX9_track_33, iX9_track_34, iX9_track_35, iX9_track_36, iX9_track_39, iX9_track_42, iX9_track_45, iX9_track_46, iX9_track_49, iX9_track_50, true_or, or_true, Option.bind_some, Option.bind_none, kk_hp, kn_hp, el_i, el_b, el_z, am_cat_nil, am_cat_i, am_cat_r, am_cat_l, am_cat_n, gd_i, gd_r, gd_n, gd_u, List.length_cons, List.length_nil, true_and, and_true, ↓reduceIte, Nat.zero_le, Nat.reduceLeDiff, Nat.reduceAdd, e_10, e_01, e_00, e_11, Int32.reduceLE, Int32.reduceLT, Int32.reduceAdd, Int32.reduceSub, b01, if_true, if_false, ite_self, nl_add, nl_add', nl_mul, nI_add, in_t, cl_n, le_nn, lt_nn, le_ln, le_nl, lt_nl, lt_ln, eq_nn, eq_nl, in_lit, cl_lit, Nat.le_refl, Nat.add_zero, eq_ll, Nat.reduceEqDiff, e1]
    · rw [if_neg hn] at e1
      rw [hf (fun z => by
        rcases z with z | z | z
        · exact absurd z.2 hn
        · exact absurd z.1 (by decide)
        · exact absurd z.1 (by decide))]
      simp (disch := omega) only [iX9_track_0, iX9_track_1, iX9_track_4, iX9_track_5, iX9_track_8, iX9_track_11, iX9_track_12, iX9_track_13, iX9_track_16, iX9_track_17, iX9_track_20, iX9_track_21, iX9_track_24, iX9_track_25, iX9_track_28, iX9_track_29, iX9_track_30, iX9_track_33, iX9_track_34, iX9_track_35, iX9_track_36, iX9_track_39, iX9_track_42, iX9_track_45, iX9_track_46, iX9_track_49, iX9_track_50, true_or, or_true, Option.bind_some, Option.bind_none, kk_hp, kn_hp, el_i, el_b, el_z, am_cat_nil, am_cat_i, am_cat_r, am_cat_l, am_cat_n, gd_i, gd_r, gd_n, gd_u, List.length_cons, List.length_nil, true_and, and_true, ↓reduceIte, Nat.zero_le, Nat.reduceLeDiff, Nat.reduceAdd, e_10, e_01, e_00, e_11, Int32.reduceLE, Int32.reduceLT, Int32.reduceAdd, Int32.reduceSub, b01, if_true, if_false, ite_self, nl_add, nl_add', nl_mul, nI_add, in_t, cl_n, le_nn, lt_nn, le_ln, le_nl, lt_nl, lt_ln, eq_nn, eq_nl, in_lit, cl_lit, Nat.le_refl, Nat.add_zero, eq_ll, Nat.reduceEqDiff, e1]
  by_cases k1 : k = 1
  · subst k1
    by_cases hn : n = 0
    · rw [ht (Or.inr (Or.inl ⟨rfl, hn⟩))]
      simp (disch := omega) only [iX9_track_0, iX9_track_1, iX9_track_4, iX9_track_5, iX9_track_8, iX9_track_11, iX9_track_12, iX9_track_13, iX9_track_16, iX9_track_17, iX9_track_20, iX9_track_21, iX9_track_24, iX9_track_25, iX9_track_28, iX9_track_29, iX9_track_30, iX9_track_33, iX9_track_34, iX9_track_35, iX9_track_36, iX9_track_39, iX9_track_42, iX9_track_45, iX9_track_46, iX9_track_49, iX9_track_50, true_or, or_true, Option.bind_some, Option.bind_none, kk_hp, kn_hp, el_i, el_b, el_z, am_cat_nil, am_cat_i, am_cat_r, am_cat_l, am_cat_n, gd_i, gd_r, gd_n, gd_u, List.length_cons, List.length_nil, true_and, and_true, ↓reduceIte, Nat.zero_le, Nat.reduceLeDiff, Nat.reduceAdd, e_10, e_01, e_00, e_11, Int32.reduceLE, Int32.reduceLT, Int32.reduceAdd, Int32.reduceSub, b01, if_true, if_false, ite_self, nl_add, nl_add', nl_mul, nI_add, in_t, cl_n, le_nn, lt_nn, le_ln, le_nl, lt_nl, lt_ln, eq_nn, eq_nl, in_lit, cl_lit, Nat.le_refl, Nat.add_zero, eq_ll, Nat.reduceEqDiff, hn]
    · rw [hf (fun z => by
        rcases z with z | z | z
        · exact absurd z.1 (by decide)
        · exact absurd z.2 hn
        · exact absurd z.1 (by decide))]
      simp (disch := omega) only [iX9_track_0, iX9_track_1, iX9_track_4, iX9_track_5, iX9_track_8, iX9_track_11, iX9_track_12, iX9_track_13, iX9_track_16, iX9_track_17, iX9_track_20, iX9_track_21, iX9_track_24, iX9_track_25, iX9_track_28, iX9_track_29, iX9_track_30, iX9_track_33, iX9_track_34, iX9_track_35, iX9_track_36, iX9_track_39, iX9_track_42, iX9_track_45, iX9_track_46, iX9_track_49, iX9_track_50, true_or, or_true, Option.bind_some, Option.bind_none, kk_hp, kn_hp, el_i, el_b, el_z, am_cat_nil, am_cat_i, am_cat_r, am_cat_l, am_cat_n, gd_i, gd_r, gd_n, gd_u, List.length_cons, List.length_nil, true_and, and_true, ↓reduceIte, Nat.zero_le, Nat.reduceLeDiff, Nat.reduceAdd, e_10, e_01, e_00, e_11, Int32.reduceLE, Int32.reduceLT, Int32.reduceAdd, Int32.reduceSub, b01, if_true, if_false, ite_self, nl_add, nl_add', nl_mul, nI_add, in_t, cl_n, le_nn, lt_nn, le_ln, le_nl, lt_nl, lt_ln, eq_nn, eq_nl, in_lit, cl_lit, Nat.le_refl, Nat.add_zero, eq_ll, Nat.reduceEqDiff, hn]
  by_cases k2 : k = 2
  · subst k2
    by_cases hn : 1 ≤ n ∧ n ≤ 9
    · rw [if_pos hn] at e2
      rw [ht (Or.inr (Or.inr ⟨rfl, hn⟩))]
      simp (disch := omega) only [iX9_track_0, iX9_track_1, iX9_track_4, iX9_track_5, iX9_track_8, iX9_track_11, iX9_track_12, iX9_track_13, iX9_track_16, iX9_track_17, iX9_track_20, iX9_track_21, iX9_track_24, iX9_track_25, iX9_track_28, iX9_track_29, iX9_track_30, iX9_track_33, iX9_track_34, iX9_track_35, iX9_track_36, iX9_track_39, iX9_track_42, iX9_track_45, iX9_track_46, iX9_track_49, iX9_track_50, true_or, or_true, Option.bind_some, Option.bind_none, kk_hp, kn_hp, el_i, el_b, el_z, am_cat_nil, am_cat_i, am_cat_r, am_cat_l, am_cat_n, gd_i, gd_r, gd_n, gd_u, List.length_cons, List.length_nil, true_and, and_true, ↓reduceIte, Nat.zero_le, Nat.reduceLeDiff, Nat.reduceAdd, e_10, e_01, e_00, e_11, Int32.reduceLE, Int32.reduceLT, Int32.reduceAdd, Int32.reduceSub, b01, if_true, if_false, ite_self, nl_add, nl_add', nl_mul, nI_add, in_t, cl_n, le_nn, lt_nn, le_ln, le_nl, lt_nl, lt_ln, eq_nn, eq_nl, in_lit, cl_lit, Nat.le_refl, Nat.add_zero, eq_ll, Nat.reduceEqDiff, e2]
    · rw [if_neg hn] at e2
      rw [hf (fun z => by
        rcases z with z | z | z
        · exact absurd z.1 (by decide)
        · exact absurd z.1 (by decide)
        · exact absurd z.2 hn)]
      simp (disch := omega) only [iX9_track_0, iX9_track_1, iX9_track_4, iX9_track_5, iX9_track_8, iX9_track_11, iX9_track_12, iX9_track_13, iX9_track_16, iX9_track_17, iX9_track_20, iX9_track_21, iX9_track_24, iX9_track_25, iX9_track_28, iX9_track_29, iX9_track_30, iX9_track_33, iX9_track_34, iX9_track_35, iX9_track_36, iX9_track_39, iX9_track_42, iX9_track_45, iX9_track_46, iX9_track_49, iX9_track_50, true_or, or_true, Option.bind_some, Option.bind_none, kk_hp, kn_hp, el_i, el_b, el_z, am_cat_nil, am_cat_i, am_cat_r, am_cat_l, am_cat_n, gd_i, gd_r, gd_n, gd_u, List.length_cons, List.length_nil, true_and, and_true, ↓reduceIte, Nat.zero_le, Nat.reduceLeDiff, Nat.reduceAdd, e_10, e_01, e_00, e_11, Int32.reduceLE, Int32.reduceLT, Int32.reduceAdd, Int32.reduceSub, b01, if_true, if_false, ite_self, nl_add, nl_add', nl_mul, nI_add, in_t, cl_n, le_nn, lt_nn, le_ln, le_nl, lt_nl, lt_ln, eq_nn, eq_nl, in_lit, cl_lit, Nat.le_refl, Nat.add_zero, eq_ll, Nat.reduceEqDiff, e2]
  rw [hf (fun z => by
        rcases z with z | z | z
        · exact absurd z.1 k0
        · exact absurd z.1 k1
        · exact absurd z.1 k2)]
  simp (disch := omega) only [iX9_track_0, iX9_track_1, iX9_track_4, iX9_track_5, iX9_track_8, iX9_track_11, iX9_track_12, iX9_track_13, iX9_track_16, iX9_track_17, iX9_track_20, iX9_track_21, iX9_track_24, iX9_track_25, iX9_track_28, iX9_track_29, iX9_track_30, iX9_track_33, iX9_track_34, iX9_track_35, iX9_track_36, iX9_track_39, iX9_track_42, iX9_track_45, iX9_track_46, iX9_track_49, iX9_track_50, true_or, or_true, Option.bind_some, Option.bind_none, kk_hp, kn_hp, el_i, el_b, el_z, am_cat_nil, am_cat_i, am_cat_r, am_cat_l, am_cat_n, gd_i, gd_r, gd_n, gd_u, List.length_cons, List.length_nil, true_and, and_true, ↓reduceIte, Nat.zero_le, Nat.reduceLeDiff, Nat.reduceAdd, e_10, e_01, e_00, e_11, Int32.reduceLE, Int32.reduceLT, Int32.reduceAdd, Int32.reduceSub, b01, if_true, if_false, ite_self, nl_add, nl_add', nl_mul, nI_add, in_t, cl_n, le_nn, lt_nn, le_ln, le_nl, lt_nl, lt_ln, eq_nn, eq_nl, in_lit, cl_lit, Nat.le_refl, Nat.add_zero, k0, k1, k2]
end S74
