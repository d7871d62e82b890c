/-! a text: its start -/
/-- the draft a text begins with -/
def dr0 (f : Nat → Int32) : Nat → Int32 := fun j => if j < 86 then (if j = 3 ∨ 17 ≤ j ∧ j < 25 then -4 else 0) else f j
theorem dr0_n (f : Nat → Int32) : nC (dr0 f) = 0 := by
  unfold nC
  rw [show dr0 f 0 = 0 from rfl]
  decide
theorem dr0_m (f : Nat → Int32) : mI (dr0 f) = 0 := by
  unfold mI
  rw [show dr0 f 25 = 0 from rfl]
  decide
theorem dr0_l (f : Nat → Int32) {v : Nat} (hv : v < 8) : dr0 f (17 + v) = -4 := by
  unfold dr0
  rw [if_pos (by omega), if_pos (by omega)]
theorem dr0_W (f : Nat → Int32) : dW (dr0 f) := by
  refine ⟨⟨by rw [dr0_n]; rfl, by rw [dr0_n]; decide⟩, ⟨by rw [dr0_m]; rfl, by rw [dr0_m]; decide⟩, fun i hi => ?_, fun v hv => Or.inl (dr0_l f hv), fun c hc => ?_⟩
  · rw [dr0_m] at hi; omega
  · rw [dr0_n] at hc; omega
section S994
variable {X : am_X} {M : Nat → Nat → Int32}
theorem C_textClear : ∃ M', am_ev X kX6_clear 0 [.ref 12] [] (hp M) = some (none, hp M') ∧ cX M M' ∧ M' 13 5 = 0 ∧ M' 13 1 = M 13 1 ∧ M' 12 2 = 0 ∧ tdC M' (fun _ => false) ∧ RG M' 15 (dr0 (M 86)) := by
  generalize hK : up (up (up (up (up (up (up M 13 5 0) 15 0 0) 15 3 0) 15 4 0) 15 5 (-4)) 15 6 0) 15 7 0 = K
  have ef := @C_fill X K 25 8 (-4) (by rfl) (by decide)
  generalize hG : ua K 25 (fil (K 25) (fun _ => -4) 8) = G at ef
  refine ⟨up (up (up (up (up (up G 12 2 0) 12 3 0) 12 4 0) 12 5 0) 12 6 0) 12 7 0, ?_, ?_, ?_, ?_, rfl, ?_, ?_⟩
  · simp (disch := omega) only [iX6_clear_0, iX6_clear_1, iX6_clear_4, iX6_clear_7, iX6_clear_8, iX6_clear_11, iX6_clear_14, iX6_clear_15, iX6_clear_16, iX6_clear_19, iX6_clear_20, iX6_clear_21, iX6_clear_24, iX6_clear_25, iX6_clear_26, iX6_clear_29, iX6_clear_30, iX6_clear_31, iX6_clear_34, iX6_clear_35, iX6_clear_36, iX6_clear_39, iX6_clear_40, iX6_clear_41, iX6_clear_44, iX7_rewind_0, iX7_rewind_1, iX7_rewind_2, iX7_rewind_5, iX1_clear_0, iX1_clear_1, iX1_clear_2, iX1_clear_5, iX1_clear_6, iX1_clear_7, iX1_clear_10, iX1_clear_11, iX1_clear_12, iX1_clear_15, iX1_clear_16, iX1_clear_18, iX1_clear_21, iX1_clear_22, iX1_clear_23, iX1_clear_26, iX1_clear_27, iX1_clear_28, iX1_clear_31, iX1_clear_32, iX1_clear_35, iX1_clear_37, iX1_clear_40, true_or, or_true, Option.bind_some, Option.bind_none, kk_hp, kn_hp, el_i, el_b, el_z, am_cat_nil, am_cat_i, am_cat_r, am_cat_l, am_cat_n, gd_i, gd_r, gd_n, gd_u, List.length_cons, List.length_nil, true_and, and_true, ↓reduceIte, Nat.zero_le, Nat.reduceLeDiff, Nat.reduceAdd, e_10, e_01, e_00, e_11, Int32.reduceLE, Int32.reduceLT, Int32.reduceAdd, Int32.reduceSub, b01, if_true, if_false, ite_self, rc_12, gf_12_0, gf_12_1, gf_12_2, pf_12_2, gf_12_3, pf_12_3, gf_12_4, pf_12_4, gf_12_5, pf_12_5, gf_12_6, pf_12_6, gf_12_7, pf_12_7, rc_13, gf_13_0, gf_13_1, pf_13_1, gf_13_2, pf_13_2, gf_13_3, pf_13_3, gf_13_4, pf_13_4, gf_13_5, pf_13_5, rc_15, gf_15_0, pf_15_0, gf_15_1, gf_15_2, gf_15_3, pf_15_3, gf_15_4, pf_15_4, gf_15_5, pf_15_5, gf_15_6, pf_15_6, gf_15_7, pf_15_7, gf_15_8, gf_15_9, nl_add, nl_add', nl_mul, nI_add, in_t, cl_n, le_nn, lt_nn, le_ln, le_nl, lt_nl, lt_ln, eq_nn, eq_nl, in_lit, cl_lit, Nat.le_refl, Nat.add_zero, hK, ef]
  · intro a h1 h2 h3
    rw [up_n _ _ _ h1, up_n _ _ _ h1, up_n _ _ _ h1, up_n _ _ _ h1, up_n _ _ _ h1, up_n _ _ _ h1, ← hG, ua_n _ _ (by omega), ← hK]
    have h15 : a ≠ 15 := by omega
    rw [up_n _ _ _ h15, up_n _ _ _ h15, up_n _ _ _ h15, up_n _ _ _ h15, up_n _ _ _ h15, up_n _ _ _ h15, up_n _ _ _ h2]
  · rw [← hG, ← hK]; rfl
  · rw [← hG, ← hK]; rfl
  · intro k hk
    have : k = 0 ∨ k = 1 ∨ k = 2 ∨ k = 3 := by omega
    rcases this with rfl | rfl | rfl | rfl <;> rfl
  · refine ⟨?_, fun c hc => ?_, fun v hv => ?_, fun i hi => ?_⟩
    · rw [← hG, ← hK]; exact ⟨rfl, rfl, rfl, rfl, rfl, rfl⟩
    · rw [dr0_n] at hc; omega
    · rw [dr0_l _ hv]
      show G 25 v = -4
      rw [← hG, ua_s, fil_in hv]
    · rw [dr0_m] at hi; omega
theorem M_firstDraft : ∃ M', am_ev X kX9_firstDraft 0 [.ref 82, am_u] [] (hp M) = some (none, hp M') ∧ rX M M' ∧ M' 82 = M 82 ∧ M' 86 = dr0 (M 86) ∧ tdM M' (fun _ => false) := by
  have e1 := chain (fun i => am_ev X kX9_firstDraft 2 [.ref 82, .int (nI i)] [] (hp (ua M 86 (fil (M 86) (fun _ => 0) i)))) 0 86 (by omega) (fun i _ hi => by
    conv => lhs; rw [iX9_firstDraft_2]
    simp (disch := omega) only [iX9_firstDraft_3, iX9_firstDraft_5, iX9_firstDraft_8, iX9_firstDraft_9, iX9_firstDraft_12, iX9_firstDraft_13, iX9_firstDraft_14, iX9_firstDraft_15, iX9_firstDraft_18, true_or, or_true, Option.bind_some, Option.bind_none, kk_hp, kn_hp, el_i, el_b, el_z, am_cat_nil, am_cat_i, am_cat_r, am_cat_l, am_cat_n, gd_i, gd_r, gd_n, gd_u, List.length_cons, List.length_nil, true_and, and_true, ↓reduceIte, Nat.zero_le, Nat.reduceLeDiff, Nat.reduceAdd, e_10, e_01, e_00, e_11, Int32.reduceLE, Int32.reduceLT, Int32.reduceAdd, Int32.reduceSub, b01, if_true, if_false, ite_self, rc_82, gf_82_0, gf_82_1, gf_82_2, gf_82_3, gf_82_4, gf_82_5, gf_82_6, pf_82_6, gf_82_7, pf_82_7, gf_82_8, pf_82_8, gf_82_9, pf_82_9, gf_82_10, pf_82_10, gf_82_11, pf_82_11, gf_82_12, pf_82_12, gf_82_13, gf_82_14, gf_82_15, gf_82_16, pf_82_16, gf_82_17, gf_82_18, gf_82_19, gf_82_20, gf_82_21, gf_82_22, gf_82_23, gf_82_24, gf_82_25, pf_82_25, ga_83, wi_83, ga_84, wi_84, ga_85, wb_85, ga_86, wi_86, ga_87, wb_87, ga_88, wi_88, ga_89, wi_89, ga_90, wi_90, ga_91, wi_91, ga_92, wi_92, ga_93, wi_93, ga_94, wi_94, ga_95, wi_95, ga_96, wb_96, ga_97, wi_97, ga_98, wi_98, ga_99, wi_99, nl_add, nl_add', nl_mul, nI_add, in_t, cl_n, le_nn, lt_nn, le_ln, le_nl, lt_nl, lt_ln, eq_nn, eq_nl, in_lit, cl_lit, Nat.le_refl, Nat.add_zero, up_of, ← fil_s, show ¬ 86 ≤ i by omega])
  rw [nI_0, fil_0, ua_self] at e1
  generalize hK : ua M 86 (fil (M 86) (fun _ => 0) 86) = K at e1
  have hl2 := loop_inv (fun v (f : Nat → Int32) => am_ev X kX9_firstDraft 23 [.ref 82, .int (nI v)] [] (hp (ua K 86 f))) (fun v f => (∀ j, 17 ≤ j → j < 17 + v → f j = -4) ∧ ∀ j, ¬ (17 ≤ j ∧ j < 17 + v) → f j = K 86 j) 0 8 (by omega) (K 86) ⟨fun j h1 h2 => by omega, fun _ _ => rfl⟩ (fun v f _ hv hf => by
    refine ⟨upd f (17 + v) (-4), ?_, fun j h1 h2 => ?_, fun j h1 => ?_⟩
    · conv => lhs; rw [iX9_firstDraft_23]
      simp (disch := omega) only [iX9_firstDraft_24, iX9_firstDraft_26, iX9_firstDraft_29, iX9_firstDraft_30, iX9_firstDraft_33, iX9_firstDraft_35, iX9_firstDraft_36, iX9_firstDraft_37, iX9_firstDraft_39, iX9_firstDraft_40, iX9_firstDraft_43, true_or, or_true, Option.bind_some, Option.bind_none, kk_hp, kn_hp, el_i, el_b, el_z, am_cat_nil, am_cat_i, am_cat_r, am_cat_l, am_cat_n, gd_i, gd_r, gd_n, gd_u, List.length_cons, List.length_nil, true_and, and_true, ↓reduceIte, Nat.zero_le, Nat.reduceLeDiff, Nat.reduceAdd, e_10, e_01, e_00, e_11, Int32.reduceLE, Int32.reduceLT, Int32.reduceAdd, Int32.reduceSub, b01, if_true, if_false, ite_self, rc_82, gf_82_0, gf_82_1, gf_82_2, gf_82_3, gf_82_4, gf_82_5, gf_82_6, pf_82_6, gf_82_7, pf_82_7, gf_82_8, pf_82_8, gf_82_9, pf_82_9, gf_82_10, pf_82_10, gf_82_11, pf_82_11, gf_82_12, pf_82_12, gf_82_13, gf_82_14, gf_82_15, gf_82_16, pf_82_16, gf_82_17, gf_82_18, gf_82_19, gf_82_20, gf_82_21, gf_82_22, gf_82_23, gf_82_24, gf_82_25, pf_82_25, ga_83, wi_83, ga_84, wi_84, ga_85, wb_85, ga_86, wi_86, ga_87, wb_87, ga_88, wi_88, ga_89, wi_89, ga_90, wi_90, ga_91, wi_91, ga_92, wi_92, ga_93, wi_93, ga_94, wi_94, ga_95, wi_95, ga_96, wb_96, ga_97, wi_97, ga_98, wi_98, ga_99, wi_99, nl_add, nl_add', nl_mul, nI_add, in_t, cl_n, le_nn, lt_nn, le_ln, le_nl, lt_nl, lt_ln, eq_nn, eq_nl, in_lit, cl_lit, Nat.le_refl, Nat.add_zero, up_of, show ¬ 8 ≤ v by omega]
    · by_cases h : j = 17 + v
      · rw [h, pk_us]
      · rw [pk_un h]; exact hf.1 j h1 (by omega)
    · rw [pk_un (by omega)]; exact hf.2 j (by omega))
  obtain ⟨f, e2, f1, f2⟩ := hl2
  rw [nI_0, ua_self] at e2
  generalize hG : ua K 86 f = G at e2
  have e3 := chain (fun i => am_ev X kX9_firstDraft 48 [.ref 82, .int (nI i)] [] (hp (ua G 87 (fil (G 87) (fun _ => 0) i)))) 0 4 (by omega) (fun i _ hi => by
    conv => lhs; rw [iX9_firstDraft_48]
    simp (disch := omega) only [iX9_firstDraft_49, iX9_firstDraft_50, iX9_firstDraft_53, iX9_firstDraft_54, iX9_firstDraft_57, iX9_firstDraft_58, iX9_firstDraft_59, iX9_firstDraft_60, iX9_firstDraft_63, true_or, or_true, Option.bind_some, Option.bind_none, kk_hp, kn_hp, el_i, el_b, el_z, am_cat_nil, am_cat_i, am_cat_r, am_cat_l, am_cat_n, gd_i, gd_r, gd_n, gd_u, List.length_cons, List.length_nil, true_and, and_true, ↓reduceIte, Nat.zero_le, Nat.reduceLeDiff, Nat.reduceAdd, e_10, e_01, e_00, e_11, Int32.reduceLE, Int32.reduceLT, Int32.reduceAdd, Int32.reduceSub, b01, if_true, if_false, ite_self, rc_82, gf_82_0, gf_82_1, gf_82_2, gf_82_3, gf_82_4, gf_82_5, gf_82_6, pf_82_6, gf_82_7, pf_82_7, gf_82_8, pf_82_8, gf_82_9, pf_82_9, gf_82_10, pf_82_10, gf_82_11, pf_82_11, gf_82_12, pf_82_12, gf_82_13, gf_82_14, gf_82_15, gf_82_16, pf_82_16, gf_82_17, gf_82_18, gf_82_19, gf_82_20, gf_82_21, gf_82_22, gf_82_23, gf_82_24, gf_82_25, pf_82_25, ga_83, wi_83, ga_84, wi_84, ga_85, wb_85, ga_86, wi_86, ga_87, wb_87, ga_88, wi_88, ga_89, wi_89, ga_90, wi_90, ga_91, wi_91, ga_92, wi_92, ga_93, wi_93, ga_94, wi_94, ga_95, wi_95, ga_96, wb_96, ga_97, wi_97, ga_98, wi_98, ga_99, wi_99, nl_add, nl_add', nl_mul, nI_add, in_t, cl_n, le_nn, lt_nn, le_ln, le_nl, lt_nl, lt_ln, eq_nn, eq_nl, in_lit, cl_lit, Nat.le_refl, Nat.add_zero, nb_0, up_of, ← fil_s, show ¬ 4 ≤ i by omega])
  rw [nI_0, fil_0, ua_self] at e3
  generalize hH : ua G 87 (fil (G 87) (fun _ => 0) 4) = H at e3
  refine ⟨up H 86 3 (-4), ?_, ⟨fun a h1 h2 h3 => ?_, fun j _ => ?_⟩, ?_, ?_, ?_⟩
  · simp (disch := omega) only [iX9_firstDraft_0, iX9_firstDraft_1, true_or, or_true, Option.bind_some, Option.bind_none, kk_hp, kn_hp, el_i, el_b, el_z, am_cat_nil, am_cat_i, am_cat_r, am_cat_l, am_cat_n, gd_i, gd_r, gd_n, gd_u, List.length_cons, List.length_nil, true_and, and_true, ↓reduceIte, Nat.zero_le, Nat.reduceLeDiff, Nat.reduceAdd, e_10, e_01, e_00, e_11, Int32.reduceLE, Int32.reduceLT, Int32.reduceAdd, Int32.reduceSub, b01, if_true, if_false, ite_self]
    rw [e1]
    simp (disch := omega) only [iX9_firstDraft_2, iX9_firstDraft_3, iX9_firstDraft_5, iX9_firstDraft_21, iX9_firstDraft_22, true_or, or_true, Option.bind_some, Option.bind_none, kk_hp, kn_hp, el_i, el_b, el_z, am_cat_nil, am_cat_i, am_cat_r, am_cat_l, am_cat_n, gd_i, gd_r, gd_n, gd_u, List.length_cons, List.length_nil, true_and, and_true, ↓reduceIte, Nat.zero_le, Nat.reduceLeDiff, Nat.reduceAdd, e_10, e_01, e_00, e_11, Int32.reduceLE, Int32.reduceLT, Int32.reduceAdd, Int32.reduceSub, b01, if_true, if_false, ite_self, nl_add, nl_add', nl_mul, nI_add, in_t, cl_n, le_nn, lt_nn, le_ln, le_nl, lt_nl, lt_ln, eq_nn, eq_nl, in_lit, cl_lit, Nat.le_refl, Nat.add_zero]
    rw [e2]
    simp (disch := omega) only [iX9_firstDraft_23, iX9_firstDraft_24, iX9_firstDraft_26, iX9_firstDraft_46, iX9_firstDraft_47, true_or, or_true, Option.bind_some, Option.bind_none, kk_hp, kn_hp, el_i, el_b, el_z, am_cat_nil, am_cat_i, am_cat_r, am_cat_l, am_cat_n, gd_i, gd_r, gd_n, gd_u, List.length_cons, List.length_nil, true_and, and_true, ↓reduceIte, Nat.zero_le, Nat.reduceLeDiff, Nat.reduceAdd, e_10, e_01, e_00, e_11, Int32.reduceLE, Int32.reduceLT, Int32.reduceAdd, Int32.reduceSub, b01, if_true, if_false, ite_self, nl_add, nl_add', nl_mul, nI_add, in_t, cl_n, le_nn, lt_nn, le_ln, le_nl, lt_nl, lt_ln, eq_nn, eq_nl, in_lit, cl_lit, Nat.le_refl, Nat.add_zero]
    rw [e3]
    simp (disch := omega) only [iX9_firstDraft_48, iX9_firstDraft_49, iX9_firstDraft_50, iX9_firstDraft_66, iX9_firstDraft_67, iX9_firstDraft_70, iX9_firstDraft_71, iX9_firstDraft_73, iX9_firstDraft_74, true_or, or_true, Option.bind_some, Option.bind_none, kk_hp, kn_hp, el_i, el_b, el_z, am_cat_nil, am_cat_i, am_cat_r, am_cat_l, am_cat_n, gd_i, gd_r, gd_n, gd_u, List.length_cons, List.length_nil, true_and, and_true, ↓reduceIte, Nat.zero_le, Nat.reduceLeDiff, Nat.reduceAdd, e_10, e_01, e_00, e_11, Int32.reduceLE, Int32.reduceLT, Int32.reduceAdd, Int32.reduceSub, b01, if_true, if_false, ite_self, rc_82, gf_82_0, gf_82_1, gf_82_2, gf_82_3, gf_82_4, gf_82_5, gf_82_6, pf_82_6, gf_82_7, pf_82_7, gf_82_8, pf_82_8, gf_82_9, pf_82_9, gf_82_10, pf_82_10, gf_82_11, pf_82_11, gf_82_12, pf_82_12, gf_82_13, gf_82_14, gf_82_15, gf_82_16, pf_82_16, gf_82_17, gf_82_18, gf_82_19, gf_82_20, gf_82_21, gf_82_22, gf_82_23, gf_82_24, gf_82_25, pf_82_25, ga_83, wi_83, ga_84, wi_84, ga_85, wb_85, ga_86, wi_86, ga_87, wb_87, ga_88, wi_88, ga_89, wi_89, ga_90, wi_90, ga_91, wi_91, ga_92, wi_92, ga_93, wi_93, ga_94, wi_94, ga_95, wi_95, ga_96, wb_96, ga_97, wi_97, ga_98, wi_98, ga_99, wi_99, nl_add, nl_add', nl_mul, nI_add, in_t, cl_n, le_nn, lt_nn, le_ln, le_nl, lt_nl, lt_ln, eq_nn, eq_nl, in_lit, cl_lit, Nat.le_refl, Nat.add_zero]
  · rw [up_n _ _ _ h2, ← hH, ua_n _ _ h3, ← hG, ua_n _ _ h2, ← hK, ua_n _ _ h2]
  · rw [up_n _ _ _ (by decide), ← hH, ua_n _ _ (by decide), ← hG, ua_n _ _ (by decide), ← hK, ua_n _ _ (by decide)]
  · rw [up_n _ _ _ (by decide), ← hH, ua_n _ _ (by decide), ← hG, ua_n _ _ (by decide), ← hK, ua_n _ _ (by decide)]
  · have h86 : H 86 = f := by rw [← hH, ua_n _ _ (by decide), ← hG, ua_s]
    have k86 : K 86 = fil (M 86) (fun _ => 0) 86 := by rw [← hK, ua_s]
    funext j
    rw [up_s, h86]
    unfold dr0
    by_cases h3 : j = 3
    · subst h3; rfl
    · rw [pk_un h3]
      by_cases h17 : 17 ≤ j ∧ j < 25
      · rw [if_pos (by omega), if_pos (Or.inr h17)]; exact f1 j h17.1 (by omega)
      · rw [f2 j (by omega), k86]
        unfold fil
        by_cases hj : j < 86
        · rw [if_pos hj, if_pos hj, if_neg (by omega)]
        · rw [if_neg hj, if_neg hj]
  · intro k hk
    rw [up_n _ _ _ (by decide), ← hH, ua_s, fil_in hk]
    rfl
end S994
