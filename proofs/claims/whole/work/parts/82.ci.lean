/-! keep, back -/
theorem RR_keep {M M2 : Nat → Nat → Int32} (h : RR M) {k : Nat} (hk : k < 2) (e : ∀ x, ¬ (27 + 12 * k ≤ x ∧ x ≤ 38 + 12 * k) → x ≠ 84 → x ≠ 85 → M2 x = M x) (h27 : M2 (27 + 12 * k) 1 = 1) (hG : RG M2 (28 + 12 * k) (M 83)) (h85 : M2 85 k = 1) (h85o : ∀ j, j ≠ k → M2 85 j = M 85 j) (h84 : ∀ c, c < 86 → M2 84 (86 * k + c) = M 83 c) (h84o : ∀ c j, j < 2 → j ≠ k → c < 86 → M2 84 (86 * j + c) = M 84 (86 * j + c)) : RR M2 := by
  obtain ⟨h1, h2, h3, h4, h5, h6, h7, h8⟩ := h
  have e83 : M2 83 = M 83 := e 83 (by omega) (by decide) (by decide)
  refine ⟨by rw [e83]; exact h1, ?_, ?_, fun j hj => ?_, ?_, ?_, ?_, ?_⟩
  · rw [e83]; exact RG_fa (fun q hq => e _ (by omega) (by omega) (by omega)) h2
  · rw [e83, e 0 (by omega) (by decide) (by decide)]
    exact h3.elim Or.inl (fun z => Or.inr ⟨z.1, DR_fr z.2 (fun a ha hb => e a (by omega) (by omega) (by omega))⟩)
  · by_cases hjk : j = k
    · subst hjk
      rw [h27, h85]
      exact ⟨rfl, Or.inr ⟨rfl, wf_86 h1 (fun c hc => h84 c hc), RG_86 hG h1.1.2 h1.2.1.2 (fun c hc => h84 c hc)⟩⟩
    · obtain ⟨i1, i2⟩ := h4 j hj
      rw [h85o j hjk, e (27 + 12 * j) (by omega) (by omega) (by omega)]
      refine ⟨i1, i2.elim Or.inl (fun z => Or.inr ⟨z.1, wf_86 z.2.1 (fun c hc => h84o c j hj hjk hc), ?_⟩)⟩
      refine RG_86 (RG_fa (fun q hq => e _ (by omega) (by omega) (by omega)) z.2.2) z.2.1.1.2 z.2.1.2.1.2 (fun c hc => h84o c j hj hjk hc)
  · exact RTp_fr h5 (by rw [e 13 (by omega) (by decide) (by decide)]) (e 14 (by omega) (by decide) (by decide)) (by rw [e 82 (by omega) (by decide) (by decide)]) (e 88 (by omega) (by decide) (by decide))
  · exact RSh_fr h6 (fun a ha hb => e a (by omega) (by omega) (by omega)) (e 97 (by omega) (by decide) (by decide)) (e 98 (by omega) (by decide) (by decide)) (e 99 (by omega) (by decide) (by decide))
  · rw [e 82 (by omega) (by decide) (by decide), e 12 (by omega) (by decide) (by decide)]; exact h7
  · rw [e 82 (by omega) (by decide) (by decide), e 0 (by omega) (by decide) (by decide)]; exact h8
section S82
variable {X : am_X} {M : Nat → Nat → Int32}
theorem f26_0 {K : Value → Option am_Q} : am_ela (am_gq (hp M) 26) 0 K = K (.ref 27) := by rw [gq_26]; rfl
theorem f26_1 {K : Value → Option am_Q} : am_ela (am_gq (hp M) 26) 1 K = K (.ref 39) := by rw [gq_26]; rfl
theorem C_image0 : am_ev X kX8_imageOf 0 [.ref 0, .int 0] [] (hp M) = some (some (.ref 27), hp M) := by
  have e := @C_isBetween X M 0 0 1
  rw [if_pos (by decide)] at e
  simp (disch := omega) only [iX8_imageOf_0, iX8_imageOf_1, iX8_imageOf_2, iX8_imageOf_3, iX8_imageOf_6, iX8_imageOf_9, iX8_imageOf_10, iX8_imageOf_13, iX8_imageOf_14, iX8_imageOf_15, iX8_imageOf_18, iX8_imageOf_19, iX8_imageOf_19_n, true_or, or_true, Option.bind_some, Option.bind_none, kk_hp, kn_hp, el_i, el_b, el_z, am_cat_nil, am_cat_i, am_cat_r, am_cat_l, am_cat_n, gd_i, gd_r, gd_n, gd_u, List.length_cons, List.length_nil, true_and, and_true, ↓reduceIte, Nat.zero_le, Nat.reduceLeDiff, Nat.reduceAdd, e_10, e_01, e_00, e_11, Int32.reduceLE, Int32.reduceLT, Int32.reduceAdd, Int32.reduceSub, b01, if_true, if_false, ite_self, rc_0, gf_0_0, gf_0_1, gf_0_2, gf_0_3, gf_0_4, gf_0_5, gf_0_6, gf_0_7, gf_0_8, pf_0_8, gf_0_9, pf_0_9, nl_add, nl_add', nl_mul, nI_add, in_t, cl_n, le_nn, lt_nn, le_ln, le_nl, lt_nl, lt_ln, eq_nn, eq_nl, in_lit, cl_lit, Nat.le_refl, Nat.add_zero, f26_0, e]
theorem C_image1 : am_ev X kX8_imageOf 0 [.ref 0, .int 1] [] (hp M) = some (some (.ref 39), hp M) := by
  have e := @C_isBetween X M 1 0 1
  rw [if_pos (by decide)] at e
  simp (disch := omega) only [iX8_imageOf_0, iX8_imageOf_1, iX8_imageOf_2, iX8_imageOf_3, iX8_imageOf_6, iX8_imageOf_9, iX8_imageOf_10, iX8_imageOf_13, iX8_imageOf_14, iX8_imageOf_15, iX8_imageOf_18, iX8_imageOf_19, iX8_imageOf_19_n, true_or, or_true, Option.bind_some, Option.bind_none, kk_hp, kn_hp, el_i, el_b, el_z, am_cat_nil, am_cat_i, am_cat_r, am_cat_l, am_cat_n, gd_i, gd_r, gd_n, gd_u, List.length_cons, List.length_nil, true_and, and_true, ↓reduceIte, Nat.zero_le, Nat.reduceLeDiff, Nat.reduceAdd, e_10, e_01, e_00, e_11, Int32.reduceLE, Int32.reduceLT, Int32.reduceAdd, Int32.reduceSub, b01, if_true, if_false, ite_self, rc_0, gf_0_0, gf_0_1, gf_0_2, gf_0_3, gf_0_4, gf_0_5, gf_0_6, gf_0_7, gf_0_8, pf_0_8, gf_0_9, pf_0_9, nl_add, nl_add', nl_mul, nI_add, in_t, cl_n, le_nn, lt_nn, le_ln, le_nl, lt_nl, lt_ln, eq_nn, eq_nl, in_lit, cl_lit, Nat.le_refl, Nat.add_zero, f26_1, e]
theorem C_imageN {k : Int32} (h : ¬ (0 ≤ k ∧ k ≤ 1)) : am_ev X kX8_imageOf 0 [.ref 0, .int k] [] (hp M) = some (some .null, hp M) := by
  have e := @C_isBetween X M k 0 1
  rw [if_neg h] at e
  simp (disch := omega) only [iX8_imageOf_0, iX8_imageOf_1, iX8_imageOf_2, iX8_imageOf_3, iX8_imageOf_6, iX8_imageOf_9, iX8_imageOf_10, iX8_imageOf_13, iX8_imageOf_14, iX8_imageOf_15, iX8_imageOf_18, iX8_imageOf_19, iX8_imageOf_19_n, true_or, or_true, Option.bind_some, Option.bind_none, kk_hp, kn_hp, el_i, el_b, el_z, am_cat_nil, am_cat_i, am_cat_r, am_cat_l, am_cat_n, gd_i, gd_r, gd_n, gd_u, List.length_cons, List.length_nil, true_and, and_true, ↓reduceIte, Nat.zero_le, Nat.reduceLeDiff, Nat.reduceAdd, e_10, e_01, e_00, e_11, Int32.reduceLE, Int32.reduceLT, Int32.reduceAdd, Int32.reduceSub, b01, if_true, if_false, ite_self, rc_0, gf_0_0, gf_0_1, gf_0_2, gf_0_3, gf_0_4, gf_0_5, gf_0_6, gf_0_7, gf_0_8, pf_0_8, gf_0_9, pf_0_9, nl_add, nl_add', nl_mul, nI_add, in_t, cl_n, le_nn, lt_nn, le_ln, le_nl, lt_nl, lt_ln, eq_nn, eq_nl, in_lit, cl_lit, Nat.le_refl, Nat.add_zero, e]
theorem M_keep_l {k : Nat} {v : Int32} (hk : k < 2) : ∃ f, am_ev X kX9_keep 31 [.ref 82, .int (nI k), .int v, .int 0] [] (hp M) = some (some (.int v), hp (ua M 84 f)) ∧ (∀ c, c < 86 → f (86 * k + c) = M 83 c) ∧ ∀ c j, j < 2 → j ≠ k → c < 86 → f (86 * j + c) = M 84 (86 * j + c) := by
  have hlp := loop_inv (fun c (f : Nat → Int32) => am_ev X kX9_keep 31 [.ref 82, .int (nI k), .int v, .int (nI c)] [] (hp (ua M 84 f))) (fun c f => (∀ d, d < c → f (86 * k + d) = M 83 d) ∧ ∀ d j, j < 2 → j ≠ k → d < 86 → f (86 * j + d) = M 84 (86 * j + d)) 0 86 (by omega) (M 84) ⟨fun d hd => by omega, fun _ _ _ _ _ => rfl⟩ ?_
  · obtain ⟨f, e, f1, f2⟩ := hlp
    rw [nI_0, ua_self] at e
    refine ⟨f, ?_, f1, f2⟩
    rw [e]
    simp (disch := omega) only [iX9_keep_31, iX9_keep_32, iX9_keep_34, iX9_keep_60, iX9_keep_61, true_or, or_true, Option.bind_some, Option.bind_none, kk_hp, kn_hp, el_i, el_b, el_z, am_cat_nil, am_cat_i, am_cat_r, am_cat_l, am_cat_n, gd_i, gd_r, gd_n, gd_u, List.length_cons, List.length_nil, true_and, and_true, ↓reduceIte, Nat.zero_le, Nat.reduceLeDiff, Nat.reduceAdd, e_10, e_01, e_00, e_11, Int32.reduceLE, Int32.reduceLT, Int32.reduceAdd, Int32.reduceSub, b01, if_true, if_false, ite_self, nl_add, nl_add', nl_mul, nI_add, in_t, cl_n, le_nn, lt_nn, le_ln, le_nl, lt_nl, lt_ln, eq_nn, eq_nl, in_lit, cl_lit, Nat.le_refl, Nat.add_zero]
  intro c f _ hc ⟨f1, f2⟩
  have c83 : ∀ f, (ua M 84 f) 83 = M 83 := fun f => rfl
  refine ⟨upd f (86 * k + c) (M 83 c), ?_, fun d hd => ?_, fun d j hj hjk hd => ?_⟩
  · conv => lhs; rw [iX9_keep_31]
    simp (disch := omega) only [iX9_keep_32, iX9_keep_34, iX9_keep_37, iX9_keep_38, iX9_keep_41, iX9_keep_43, iX9_keep_44, iX9_keep_45, iX9_keep_46, iX9_keep_47, iX9_keep_48, iX9_keep_51, iX9_keep_52, iX9_keep_53, iX9_keep_54, iX9_keep_57, true_or, or_true, Option.bind_some, Option.bind_none, kk_hp, kn_hp, el_i, el_b, el_z, am_cat_nil, am_cat_i, am_cat_r, am_cat_l, am_cat_n, gd_i, gd_r, gd_n, gd_u, List.length_cons, List.length_nil, true_and, and_true, ↓reduceIte, Nat.zero_le, Nat.reduceLeDiff, Nat.reduceAdd, e_10, e_01, e_00, e_11, Int32.reduceLE, Int32.reduceLT, Int32.reduceAdd, Int32.reduceSub, b01, if_true, if_false, ite_self, rc_82, gf_82_0, gf_82_1, gf_82_2, gf_82_3, gf_82_4, gf_82_5, gf_82_6, pf_82_6, gf_82_7, pf_82_7, gf_82_8, pf_82_8, gf_82_9, pf_82_9, gf_82_10, pf_82_10, gf_82_11, pf_82_11, gf_82_12, pf_82_12, gf_82_13, gf_82_14, gf_82_15, gf_82_16, pf_82_16, gf_82_17, gf_82_18, gf_82_19, gf_82_20, gf_82_21, gf_82_22, gf_82_23, gf_82_24, gf_82_25, pf_82_25, ga_83, wi_83, ga_84, wi_84, ga_85, wb_85, ga_86, wi_86, ga_87, wb_87, ga_88, wi_88, ga_89, wi_89, ga_90, wi_90, ga_91, wi_91, ga_92, wi_92, ga_93, wi_93, ga_94, wi_94, ga_95, wi_95, ga_96, wb_96, ga_97, wi_97, ga_98, wi_98, ga_99, wi_99, nl_add, nl_add', nl_mul, nI_add, in_t, cl_n, le_nn, lt_nn, le_ln, le_nl, lt_nl, lt_ln, eq_nn, eq_nl, in_lit, cl_lit, Nat.le_refl, Nat.add_zero, c83, up_of, show ¬ 86 ≤ c by omega]
  · by_cases hdc : d = c
    · rw [hdc, pk_us]
    · rw [pk_un (by omega)]; exact f1 d (by omega)
  · rw [pk_un (by omega)]; exact f2 d j hj hjk hd
theorem M_back_l {k : Nat} (hk : k < 2) : am_ev X kX9_back 26 [.ref 82, .int (nI k), .int 0] [] (hp M) = some (some (.int (fil (M 83) (kp M k) 86 25)), hp (ua M 83 (fil (M 83) (kp M k) 86))) := by
  have e := chain (fun c => am_ev X kX9_back 26 [.ref 82, .int (nI k), .int (nI c)] [] (hp (ua M 83 (fil (M 83) (kp M k) c)))) 0 86 (by omega) (fun c _ hc => by
    have c84 : ∀ f, (ua M 83 f) 84 (86 * k + c) = kp M k c := fun f => rfl
    conv => lhs; rw [iX9_back_26]
    simp (disch := omega) only [iX9_back_27, iX9_back_29, iX9_back_32, iX9_back_33, iX9_back_36, iX9_back_37, iX9_back_38, iX9_back_41, iX9_back_43, iX9_back_44, iX9_back_45, iX9_back_46, iX9_back_47, iX9_back_48, iX9_back_49, iX9_back_52, true_or, or_true, Option.bind_some, Option.bind_none, kk_hp, kn_hp, el_i, el_b, el_z, am_cat_nil, am_cat_i, am_cat_r, am_cat_l, am_cat_n, gd_i, gd_r, gd_n, gd_u, List.length_cons, List.length_nil, true_and, and_true, ↓reduceIte, Nat.zero_le, Nat.reduceLeDiff, Nat.reduceAdd, e_10, e_01, e_00, e_11, Int32.reduceLE, Int32.reduceLT, Int32.reduceAdd, Int32.reduceSub, b01, if_true, if_false, ite_self, rc_82, gf_82_0, gf_82_1, gf_82_2, gf_82_3, gf_82_4, gf_82_5, gf_82_6, pf_82_6, gf_82_7, pf_82_7, gf_82_8, pf_82_8, gf_82_9, pf_82_9, gf_82_10, pf_82_10, gf_82_11, pf_82_11, gf_82_12, pf_82_12, gf_82_13, gf_82_14, gf_82_15, gf_82_16, pf_82_16, gf_82_17, gf_82_18, gf_82_19, gf_82_20, gf_82_21, gf_82_22, gf_82_23, gf_82_24, gf_82_25, pf_82_25, ga_83, wi_83, ga_84, wi_84, ga_85, wb_85, ga_86, wi_86, ga_87, wb_87, ga_88, wi_88, ga_89, wi_89, ga_90, wi_90, ga_91, wi_91, ga_92, wi_92, ga_93, wi_93, ga_94, wi_94, ga_95, wi_95, ga_96, wb_96, ga_97, wi_97, ga_98, wi_98, ga_99, wi_99, nl_add, nl_add', nl_mul, nI_add, in_t, cl_n, le_nn, lt_nn, le_ln, le_nl, lt_nl, lt_ln, eq_nn, eq_nl, in_lit, cl_lit, Nat.le_refl, Nat.add_zero, c84, up_of, ← fil_s, show ¬ 86 ≤ c by omega])
  rw [nI_0, fil_0, ua_self] at e
  rw [e]
  simp (disch := omega) only [iX9_back_26, iX9_back_27, iX9_back_29, iX9_back_55, iX9_back_56, iX9_back_59, iX9_back_61, iX9_back_62, true_or, or_true, Option.bind_some, Option.bind_none, kk_hp, kn_hp, el_i, el_b, el_z, am_cat_nil, am_cat_i, am_cat_r, am_cat_l, am_cat_n, gd_i, gd_r, gd_n, gd_u, List.length_cons, List.length_nil, true_and, and_true, ↓reduceIte, Nat.zero_le, Nat.reduceLeDiff, Nat.reduceAdd, e_10, e_01, e_00, e_11, Int32.reduceLE, Int32.reduceLT, Int32.reduceAdd, Int32.reduceSub, b01, if_true, if_false, ite_self, rc_82, gf_82_0, gf_82_1, gf_82_2, gf_82_3, gf_82_4, gf_82_5, gf_82_6, pf_82_6, gf_82_7, pf_82_7, gf_82_8, pf_82_8, gf_82_9, pf_82_9, gf_82_10, pf_82_10, gf_82_11, pf_82_11, gf_82_12, pf_82_12, gf_82_13, gf_82_14, gf_82_15, gf_82_16, pf_82_16, gf_82_17, gf_82_18, gf_82_19, gf_82_20, gf_82_21, gf_82_22, gf_82_23, gf_82_24, gf_82_25, pf_82_25, ga_83, wi_83, ga_84, wi_84, ga_85, wb_85, ga_86, wi_86, ga_87, wb_87, ga_88, wi_88, ga_89, wi_89, ga_90, wi_90, ga_91, wi_91, ga_92, wi_92, ga_93, wi_93, ga_94, wi_94, ga_95, wi_95, ga_96, wb_96, ga_97, wi_97, ga_98, wi_98, ga_99, wi_99, nl_add, nl_add', nl_mul, nI_add, in_t, cl_n, le_nn, lt_nn, le_ln, le_nl, lt_nl, lt_ln, eq_nn, eq_nl, in_lit, cl_lit, Nat.le_refl, Nat.add_zero, ua_s]
theorem fl_b {x : Int32} (h : x = 0 ∨ x = 1) : (if x = 0 then (0 : Int32) else 1) = x := by
  rcases h with rfl | rfl <;> decide
theorem S_keep (h : RR M) (k : Int32) : St X kX8_keep [.ref 0, .int k, am_u, am_u] kX9_keep [.ref 82, .int k, am_u, am_u] M := by
  have hwf := h.1
  have er := fun K : Nat → Nat → Int32 => @M_in X K k.toInt64 0 1
  simp (disch := decide) only [wl, wl_l, wl_r] at er
  by_cases a0 : k = 0
  · subst a0
    obtain ⟨K, e1, f1, g1⟩ := @C_become X M 28 1 (by unfold isG; omega) (Or.inl rfl) (by decide)
    generalize hM1 : up K 27 1 1 = M1
    have m82 : ∀ x, ¬ (27 ≤ x ∧ x ≤ 38) → M1 x = M x := fun x hx => by rw [← hM1, up_n _ _ _ (by omega)]; exact f1 x (by omega)
    have i1 : M 27 1 = M 85 0 := (h.2.2.2.1 0 (by decide)).1
    have ib : M 85 0 = 0 ∨ M 85 0 = 1 := (h.2.2.2.1 0 (by decide)).2.elim Or.inl (fun z => Or.inr z.1)
    have er1 := er M1
    rw [if_pos (by decide)] at er1
    have q85 : M1 85 0 = M 85 0 := by rw [m82 85 (by decide)]
    obtain ⟨f, e2, f2, f3⟩ := @M_keep_l X (up M1 85 0 1) 0 (M 85 0) (by decide)
    have q83 : (up M1 85 0 1) 83 = M 83 := m82 83 (by decide)
    have q84 : (up M1 85 0 1) 84 = M 84 := m82 84 (by decide)
    rw [q83] at f2
    rw [q84] at f3
    rw [show nI 0 = (0 : Int32) from rfl] at e2
    have cl : (0 : Int32).toNatClampNeg = 0 := by decide
    have efl := @M_flag X M1 (M 85 0)
    rw [fl_b ib] at efl
    refine ⟨M 85 0, M1, ua (up M1 85 0 1) 84 f, ?_, ?_, ?_⟩
    · rcases ib with z | z
      · rw [z] at i1 ⊢
        simp (disch := omega) only [iX8_keep_0, iX8_keep_1, iX8_keep_2, iX8_keep_5, iX8_keep_5_n, iX8_keep_6, iX8_keep_6_n, iX8_keep_7, iX8_keep_7_n, iX8_keep_10, iX8_keep_11, iX8_keep_12, iX8_keep_12_n, iX8_keep_13, iX8_keep_16, iX8_keep_19, iX8_keep_20, iX8_keep_23, iX8_keep_24, iX8_keep_25, iX8_keep_25_n, iX8_keep_26, iX8_keep_29, iX8_keep_30, iX8_keep_33, iX8_keep_36, iX8_keep_36_n, iX8_keep_37, iX8_keep_38, iX8_keep_41, iX8_keep_42, true_or, or_true, Option.bind_some, Option.bind_none, kk_hp, kn_hp, el_i, el_b, el_z, am_cat_nil, am_cat_i, am_cat_r, am_cat_l, am_cat_n, gd_i, gd_r, gd_n, gd_u, List.length_cons, List.length_nil, true_and, and_true, ↓reduceIte, Nat.zero_le, Nat.reduceLeDiff, Nat.reduceAdd, e_10, e_01, e_00, e_11, Int32.reduceLE, Int32.reduceLT, Int32.reduceAdd, Int32.reduceSub, b01, if_true, if_false, ite_self, rc_0, gf_0_0, gf_0_1, gf_0_2, gf_0_3, gf_0_4, gf_0_5, gf_0_6, gf_0_7, gf_0_8, pf_0_8, gf_0_9, pf_0_9, rc_1, gf_1_0, pf_1_0, gf_1_1, gf_1_2, gf_1_3, pf_1_3, gf_1_4, pf_1_4, gf_1_5, pf_1_5, gf_1_6, pf_1_6, gf_1_7, pf_1_7, gf_1_8, gf_1_9, rc_27, gf_27_0, gf_27_1, pf_27_1, rc_28, gf_28_0, pf_28_0, gf_28_1, gf_28_2, gf_28_3, pf_28_3, gf_28_4, pf_28_4, gf_28_5, pf_28_5, gf_28_6, pf_28_6, gf_28_7, pf_28_7, gf_28_8, gf_28_9, nl_add, nl_add', nl_mul, nI_add, in_t, cl_n, le_nn, lt_nn, le_ln, le_nl, lt_nl, lt_ln, eq_nn, eq_nl, in_lit, cl_lit, Nat.le_refl, Nat.add_zero, C_image0, i1, e1, hM1]
      · rw [z] at i1 ⊢
        simp (disch := omega) only [iX8_keep_0, iX8_keep_1, iX8_keep_2, iX8_keep_5, iX8_keep_5_n, iX8_keep_6, iX8_keep_6_n, iX8_keep_7, iX8_keep_7_n, iX8_keep_10, iX8_keep_11, iX8_keep_12, iX8_keep_12_n, iX8_keep_13, iX8_keep_16, iX8_keep_19, iX8_keep_20, iX8_keep_23, iX8_keep_24, iX8_keep_25, iX8_keep_25_n, iX8_keep_26, iX8_keep_29, iX8_keep_30, iX8_keep_33, iX8_keep_36, iX8_keep_36_n, iX8_keep_37, iX8_keep_38, iX8_keep_41, iX8_keep_42, true_or, or_true, Option.bind_some, Option.bind_none, kk_hp, kn_hp, el_i, el_b, el_z, am_cat_nil, am_cat_i, am_cat_r, am_cat_l, am_cat_n, gd_i, gd_r, gd_n, gd_u, List.length_cons, List.length_nil, true_and, and_true, ↓reduceIte, Nat.zero_le, Nat.reduceLeDiff, Nat.reduceAdd, e_10, e_01, e_00, e_11, Int32.reduceLE, Int32.reduceLT, Int32.reduceAdd, Int32.reduceSub, b01, if_true, if_false, ite_self, rc_0, gf_0_0, gf_0_1, gf_0_2, gf_0_3, gf_0_4, gf_0_5, gf_0_6, gf_0_7, gf_0_8, pf_0_8, gf_0_9, pf_0_9, rc_1, gf_1_0, pf_1_0, gf_1_1, gf_1_2, gf_1_3, pf_1_3, gf_1_4, pf_1_4, gf_1_5, pf_1_5, gf_1_6, pf_1_6, gf_1_7, pf_1_7, gf_1_8, gf_1_9, rc_27, gf_27_0, gf_27_1, pf_27_1, rc_28, gf_28_0, pf_28_0, gf_28_1, gf_28_2, gf_28_3, pf_28_3, gf_28_4, pf_28_4, gf_28_5, pf_28_5, gf_28_6, pf_28_6, gf_28_7, pf_28_7, gf_28_8, gf_28_9, nl_add, nl_add', nl_mul, nI_add, in_t, cl_n, le_nn, lt_nn, le_ln, le_nl, lt_nl, lt_ln, eq_nn, eq_nl, in_lit, cl_lit, Nat.le_refl, Nat.add_zero, C_image0, i1, e1, hM1]
    · simp (disch := omega) only [iX9_keep_0, iX9_keep_1, iX9_keep_2, iX9_keep_3, iX9_keep_4, iX9_keep_7, iX9_keep_10, iX9_keep_11, iX9_keep_12, iX9_keep_13, iX9_keep_16, iX9_keep_17, iX9_keep_18, iX9_keep_21, iX9_keep_22, iX9_keep_23, iX9_keep_26, iX9_keep_27, iX9_keep_28, iX9_keep_29, iX9_keep_30, true_or, or_true, Option.bind_some, Option.bind_none, kk_hp, kn_hp, el_i, el_b, el_z, am_cat_nil, am_cat_i, am_cat_r, am_cat_l, am_cat_n, gd_i, gd_r, gd_n, gd_u, List.length_cons, List.length_nil, true_and, and_true, ↓reduceIte, Nat.zero_le, Nat.reduceLeDiff, Nat.reduceAdd, e_10, e_01, e_00, e_11, Int32.reduceLE, Int32.reduceLT, Int32.reduceAdd, Int32.reduceSub, b01, if_true, if_false, ite_self, rc_82, gf_82_0, gf_82_1, gf_82_2, gf_82_3, gf_82_4, gf_82_5, gf_82_6, pf_82_6, gf_82_7, pf_82_7, gf_82_8, pf_82_8, gf_82_9, pf_82_9, gf_82_10, pf_82_10, gf_82_11, pf_82_11, gf_82_12, pf_82_12, gf_82_13, gf_82_14, gf_82_15, gf_82_16, pf_82_16, gf_82_17, gf_82_18, gf_82_19, gf_82_20, gf_82_21, gf_82_22, gf_82_23, gf_82_24, gf_82_25, pf_82_25, ga_83, wi_83, ga_84, wi_84, ga_85, wb_85, ga_86, wi_86, ga_87, wb_87, ga_88, wi_88, ga_89, wi_89, ga_90, wi_90, ga_91, wi_91, ga_92, wi_92, ga_93, wi_93, ga_94, wi_94, ga_95, wi_95, ga_96, wb_96, ga_97, wi_97, ga_98, wi_98, ga_99, wi_99, nl_add, nl_add', nl_mul, nI_add, in_t, cl_n, le_nn, lt_nn, le_ln, le_nl, lt_nl, lt_ln, eq_nn, eq_nl, in_lit, cl_lit, Nat.le_refl, Nat.add_zero, er1, cl, q85, efl, nb_1]
      exact e2
    · refine RR_keep h (k := 0) (by decide) (fun x h1 h2 h3 => by rw [ua_n _ _ h2, up_n _ _ _ h3]; exact m82 x (by omega)) ?_ ?_ ?_ (fun q hq => ?_) (fun c hc => by rw [ua_s]; exact f2 c hc) (fun c q hq hq2 hc => by rw [ua_s]; exact f3 c q hq hq2 hc)
      · rw [ua_n _ _ (by decide), up_n _ _ _ (by decide), ← hM1]; rfl
      · refine RG_fa (M := K) (fun q hq => ?_) (g1 _ hwf.1.2 hwf.2.1.2 h.2.1)
        rw [ua_n _ _ (by omega), up_n _ _ _ (by omega), ← hM1, up_n _ _ _ (by omega)]
      · rw [ua_n _ _ (by decide), up_s, pk_us]
      · rw [ua_n _ _ (by decide), up_s, pk_un hq, m82 85 (by decide)]
  by_cases a1 : k = 1
  · subst a1
    obtain ⟨K, e1, f1, g1⟩ := @C_become X M 40 1 (by unfold isG; omega) (Or.inl rfl) (by decide)
    generalize hM1 : up K 39 1 1 = M1
    have m82 : ∀ x, ¬ (39 ≤ x ∧ x ≤ 50) → M1 x = M x := fun x hx => by rw [← hM1, up_n _ _ _ (by omega)]; exact f1 x (by omega)
    have i1 : M 39 1 = M 85 1 := (h.2.2.2.1 1 (by decide)).1
    have ib : M 85 1 = 0 ∨ M 85 1 = 1 := (h.2.2.2.1 1 (by decide)).2.elim Or.inl (fun z => Or.inr z.1)
    have er1 := er M1
    rw [if_pos (by decide)] at er1
    have q85 : M1 85 1 = M 85 1 := by rw [m82 85 (by decide)]
    obtain ⟨f, e2, f2, f3⟩ := @M_keep_l X (up M1 85 1 1) 1 (M 85 1) (by decide)
    have q83 : (up M1 85 1 1) 83 = M 83 := m82 83 (by decide)
    have q84 : (up M1 85 1 1) 84 = M 84 := m82 84 (by decide)
    rw [q83] at f2
    rw [q84] at f3
    rw [show nI 1 = (1 : Int32) from rfl] at e2
    have cl : (1 : Int32).toNatClampNeg = 1 := by decide
    have efl := @M_flag X M1 (M 85 1)
    rw [fl_b ib] at efl
    refine ⟨M 85 1, M1, ua (up M1 85 1 1) 84 f, ?_, ?_, ?_⟩
    · rcases ib with z | z
      · rw [z] at i1 ⊢
        simp (disch := omega) only [iX8_keep_0, iX8_keep_1, iX8_keep_2, iX8_keep_5, iX8_keep_5_n, iX8_keep_6, iX8_keep_6_n, iX8_keep_7, iX8_keep_7_n, iX8_keep_10, iX8_keep_11, iX8_keep_12, iX8_keep_12_n, iX8_keep_13, iX8_keep_16, iX8_keep_19, iX8_keep_20, iX8_keep_23, iX8_keep_24, iX8_keep_25, iX8_keep_25_n, iX8_keep_26, iX8_keep_29, iX8_keep_30, iX8_keep_33, iX8_keep_36, iX8_keep_36_n, iX8_keep_37, iX8_keep_38, iX8_keep_41, iX8_keep_42, true_or, or_true, Option.bind_some, Option.bind_none, kk_hp, kn_hp, el_i, el_b, el_z, am_cat_nil, am_cat_i, am_cat_r, am_cat_l, am_cat_n, gd_i, gd_r, gd_n, gd_u, List.length_cons, List.length_nil, true_and, and_true, ↓reduceIte, Nat.zero_le, Nat.reduceLeDiff, Nat.reduceAdd, e_10, e_01, e_00, e_11, Int32.reduceLE, Int32.reduceLT, Int32.reduceAdd, Int32.reduceSub, b01, if_true, if_false, ite_self, rc_0, gf_0_0, gf_0_1, gf_0_2, gf_0_3, gf_0_4, gf_0_5, gf_0_6, gf_0_7, gf_0_8, pf_0_8, gf_0_9, pf_0_9, rc_1, gf_1_0, pf_1_0, gf_1_1, gf_1_2, gf_1_3, pf_1_3, gf_1_4, pf_1_4, gf_1_5, pf_1_5, gf_1_6, pf_1_6, gf_1_7, pf_1_7, gf_1_8, gf_1_9, rc_39, gf_39_0, gf_39_1, pf_39_1, rc_40, gf_40_0, pf_40_0, gf_40_1, gf_40_2, gf_40_3, pf_40_3, gf_40_4, pf_40_4, gf_40_5, pf_40_5, gf_40_6, pf_40_6, gf_40_7, pf_40_7, gf_40_8, gf_40_9, nl_add, nl_add', nl_mul, nI_add, in_t, cl_n, le_nn, lt_nn, le_ln, le_nl, lt_nl, lt_ln, eq_nn, eq_nl, in_lit, cl_lit, Nat.le_refl, Nat.add_zero, C_image1, i1, e1, hM1]
      · rw [z] at i1 ⊢
        simp (disch := omega) only [iX8_keep_0, iX8_keep_1, iX8_keep_2, iX8_keep_5, iX8_keep_5_n, iX8_keep_6, iX8_keep_6_n, iX8_keep_7, iX8_keep_7_n, iX8_keep_10, iX8_keep_11, iX8_keep_12, iX8_keep_12_n, iX8_keep_13, iX8_keep_16, iX8_keep_19, iX8_keep_20, iX8_keep_23, iX8_keep_24, iX8_keep_25, iX8_keep_25_n, iX8_keep_26, iX8_keep_29, iX8_keep_30, iX8_keep_33, iX8_keep_36, iX8_keep_36_n, iX8_keep_37, iX8_keep_38, iX8_keep_41, iX8_keep_42, true_or, or_true, Option.bind_some, Option.bind_none, kk_hp, kn_hp, el_i, el_b, el_z, am_cat_nil, am_cat_i, am_cat_r, am_cat_l, am_cat_n, gd_i, gd_r, gd_n, gd_u, List.length_cons, List.length_nil, true_and, and_true, ↓reduceIte, Nat.zero_le, Nat.reduceLeDiff, Nat.reduceAdd, e_10, e_01, e_00, e_11, Int32.reduceLE, Int32.reduceLT, Int32.reduceAdd, Int32.reduceSub, b01, if_true, if_false, ite_self, rc_0, gf_0_0, gf_0_1, gf_0_2, gf_0_3, gf_0_4, gf_0_5, gf_0_6, gf_0_7, gf_0_8, pf_0_8, gf_0_9, pf_0_9, rc_1, gf_1_0, pf_1_0, gf_1_1, gf_1_2, gf_1_3, pf_1_3, gf_1_4, pf_1_4, gf_1_5, pf_1_5, gf_1_6, pf_1_6, gf_1_7, pf_1_7, gf_1_8, gf_1_9, rc_39, gf_39_0, gf_39_1, pf_39_1, rc_40, gf_40_0, pf_40_0, gf_40_1, gf_40_2, gf_40_3, pf_40_3, gf_40_4, pf_40_4, gf_40_5, pf_40_5, gf_40_6, pf_40_6, gf_40_7, pf_40_7, gf_40_8, gf_40_9, nl_add, nl_add', nl_mul, nI_add, in_t, cl_n, le_nn, lt_nn, le_ln, le_nl, lt_nl, lt_ln, eq_nn, eq_nl, in_lit, cl_lit, Nat.le_refl, Nat.add_zero, C_image1, i1, e1, hM1]
    · simp (disch := omega) only [iX9_keep_0, iX9_keep_1, iX9_keep_2, iX9_keep_3, iX9_keep_4, iX9_keep_7, iX9_keep_10, iX9_keep_11, iX9_keep_12, iX9_keep_13, iX9_keep_16, iX9_keep_17, iX9_keep_18, iX9_keep_21, iX9_keep_22, iX9_keep_23, iX9_keep_26, iX9_keep_27, iX9_keep_28, iX9_keep_29, iX9_keep_30, true_or, or_true, Option.bind_some, Option.bind_none, kk_hp, kn_hp, el_i, el_b, el_z, am_cat_nil, am_cat_i, am_cat_r, am_cat_l, am_cat_n, gd_i, gd_r, gd_n, gd_u, List.length_cons, List.length_nil, true_and, and_true, ↓reduceIte, Nat.zero_le, Nat.reduceLeDiff, Nat.reduceAdd, e_10, e_01, e_00, e_11, Int32.reduceLE, Int32.reduceLT, Int32.reduceAdd, Int32.reduceSub, b01, if_true, if_false, ite_self, rc_82, gf_82_0, gf_82_1, gf_82_2, gf_82_3, gf_82_4, gf_82_5, gf_82_6, pf_82_6, gf_82_7, pf_82_7, gf_82_8, pf_82_8, gf_82_9, pf_82_9, gf_82_10, pf_82_10, gf_82_11, pf_82_11, gf_82_12, pf_82_12, gf_82_13, gf_82_14, gf_82_15, gf_82_16, pf_82_16, gf_82_17, gf_82_18, gf_82_19, gf_82_20, gf_82_21, gf_82_22, gf_82_23, gf_82_24, gf_82_25, pf_82_25, ga_83, wi_83, ga_84, wi_84, ga_85, wb_85, ga_86, wi_86, ga_87, wb_87, ga_88, wi_88, ga_89, wi_89, ga_90, wi_90, ga_91, wi_91, ga_92, wi_92, ga_93, wi_93, ga_94, wi_94, ga_95, wi_95, ga_96, wb_96, ga_97, wi_97, ga_98, wi_98, ga_99, wi_99, nl_add, nl_add', nl_mul, nI_add, in_t, cl_n, le_nn, lt_nn, le_ln, le_nl, lt_nl, lt_ln, eq_nn, eq_nl, in_lit, cl_lit, Nat.le_refl, Nat.add_zero, er1, cl, q85, efl, nb_1]
      exact e2
    · refine RR_keep h (k := 1) (by decide) (fun x h1 h2 h3 => by rw [ua_n _ _ h2, up_n _ _ _ h3]; exact m82 x (by omega)) ?_ ?_ ?_ (fun q hq => ?_) (fun c hc => by rw [ua_s]; exact f2 c hc) (fun c q hq hq2 hc => by rw [ua_s]; exact f3 c q hq hq2 hc)
      · rw [ua_n _ _ (by decide), up_n _ _ _ (by decide), ← hM1]; rfl
      · refine RG_fa (M := K) (fun q hq => ?_) (g1 _ hwf.1.2 hwf.2.1.2 h.2.1)
        rw [ua_n _ _ (by omega), up_n _ _ _ (by omega), ← hM1, up_n _ _ _ (by omega)]
      · rw [ua_n _ _ (by decide), up_s, pk_us]
      · rw [ua_n _ _ (by decide), up_s, pk_un hq, m82 85 (by decide)]
  have hno : ¬ (0 ≤ k ∧ k ≤ 1) := fun z => by
    obtain ⟨u, hu, e⟩ := b1'.mp z
    match u, hu with
    | 0, _ => exact a0 e
    | 1, _ => exact a1 e
  have er0 := er M
  rw [if_neg hno] at er0
  refine ⟨-1, M, M, ?_, ?_, h⟩
  · simp (disch := omega) only [iX8_keep_0, iX8_keep_1, iX8_keep_2, iX8_keep_5, iX8_keep_5_n, iX8_keep_6, iX8_keep_6_n, iX8_keep_7, iX8_keep_7_n, iX8_keep_10, iX8_keep_11, iX8_keep_12, iX8_keep_12_n, iX8_keep_13, iX8_keep_16, iX8_keep_19, iX8_keep_20, iX8_keep_23, iX8_keep_24, iX8_keep_25, iX8_keep_25_n, iX8_keep_26, iX8_keep_29, iX8_keep_30, iX8_keep_33, iX8_keep_36, iX8_keep_36_n, iX8_keep_37, iX8_keep_38, iX8_keep_41, iX8_keep_42, true_or, or_true, Option.bind_some, Option.bind_none, kk_hp, kn_hp, el_i, el_b, el_z, am_cat_nil, am_cat_i, am_cat_r, am_cat_l, am_cat_n, gd_i, gd_r, gd_n, gd_u, List.length_cons, List.length_nil, true_and, and_true, ↓reduceIte, Nat.zero_le, Nat.reduceLeDiff, Nat.reduceAdd, e_10, e_01, e_00, e_11, Int32.reduceLE, Int32.reduceLT, Int32.reduceAdd, Int32.reduceSub, b01, if_true, if_false, ite_self, rc_0, gf_0_0, gf_0_1, gf_0_2, gf_0_3, gf_0_4, gf_0_5, gf_0_6, gf_0_7, gf_0_8, pf_0_8, gf_0_9, pf_0_9, rc_1, gf_1_0, pf_1_0, gf_1_1, gf_1_2, gf_1_3, pf_1_3, gf_1_4, pf_1_4, gf_1_5, pf_1_5, gf_1_6, pf_1_6, gf_1_7, pf_1_7, gf_1_8, gf_1_9, nl_add, nl_add', nl_mul, nI_add, in_t, cl_n, le_nn, lt_nn, le_ln, le_nl, lt_nl, lt_ln, eq_nn, eq_nl, in_lit, cl_lit, Nat.le_refl, Nat.add_zero, C_imageN hno]
  · simp (disch := omega) only [iX9_keep_0, iX9_keep_1, iX9_keep_2, iX9_keep_3, iX9_keep_4, iX9_keep_7, iX9_keep_10, iX9_keep_11, iX9_keep_12, iX9_keep_13, iX9_keep_16, iX9_keep_17, iX9_keep_18, iX9_keep_21, iX9_keep_22, iX9_keep_23, iX9_keep_26, iX9_keep_27, iX9_keep_28, iX9_keep_29, iX9_keep_30, true_or, or_true, Option.bind_some, Option.bind_none, kk_hp, kn_hp, el_i, el_b, el_z, am_cat_nil, am_cat_i, am_cat_r, am_cat_l, am_cat_n, gd_i, gd_r, gd_n, gd_u, List.length_cons, List.length_nil, true_and, and_true, ↓reduceIte, Nat.zero_le, Nat.reduceLeDiff, Nat.reduceAdd, e_10, e_01, e_00, e_11, Int32.reduceLE, Int32.reduceLT, Int32.reduceAdd, Int32.reduceSub, b01, if_true, if_false, ite_self, rc_82, gf_82_0, gf_82_1, gf_82_2, gf_82_3, gf_82_4, gf_82_5, gf_82_6, pf_82_6, gf_82_7, pf_82_7, gf_82_8, pf_82_8, gf_82_9, pf_82_9, gf_82_10, pf_82_10, gf_82_11, pf_82_11, gf_82_12, pf_82_12, gf_82_13, gf_82_14, gf_82_15, gf_82_16, pf_82_16, gf_82_17, gf_82_18, gf_82_19, gf_82_20, gf_82_21, gf_82_22, gf_82_23, gf_82_24, gf_82_25, pf_82_25, ga_83, wi_83, ga_84, wi_84, ga_85, wb_85, ga_86, wi_86, ga_87, wb_87, ga_88, wi_88, ga_89, wi_89, ga_90, wi_90, ga_91, wi_91, ga_92, wi_92, ga_93, wi_93, ga_94, wi_94, ga_95, wi_95, ga_96, wb_96, ga_97, wi_97, ga_98, wi_98, ga_99, wi_99, nl_add, nl_add', nl_mul, nI_add, in_t, cl_n, le_nn, lt_nn, le_ln, le_nl, lt_nl, lt_ln, eq_nn, eq_nl, in_lit, cl_lit, Nat.le_refl, Nat.add_zero, er0]
theorem S_back (h : RR M) (k : Int32) : St X kX8_back [.ref 0, .int k, am_u] kX9_back [.ref 82, .int k, am_u] M := by
  have hwf := h.1
  have er := fun K : Nat → Nat → Int32 => @M_in X K k.toInt64 0 1
  simp (disch := decide) only [wl, wl_l, wl_r] at er
  by_cases a0 : k = 0
  · subst a0
    have i1 : M 27 1 = M 85 0 := (h.2.2.2.1 0 (by decide)).1
    have cl : (0 : Int32).toNatClampNeg = 0 := by decide
    rcases (h.2.2.2.1 0 (by decide)).2 with z | ⟨z, kw, kg⟩
    · rw [z] at i1
      have er0 := er M
      rw [if_pos (by decide)] at er0
      refine ⟨-2, M, M, ?_, ?_, h⟩
      · simp (disch := omega) only [iX8_back_0, iX8_back_1, iX8_back_2, iX8_back_5, iX8_back_5_n, iX8_back_6, iX8_back_6_n, iX8_back_7, iX8_back_7_n, iX8_back_10, iX8_back_11, iX8_back_12, iX8_back_12_n, iX8_back_13, iX8_back_16, iX8_back_19, iX8_back_21, iX8_back_22, iX8_back_23, iX8_back_26, iX8_back_26_n, iX8_back_27, iX8_back_30, iX8_back_33, iX8_back_34, iX8_back_35, iX8_back_38, iX8_back_39, iX8_back_42, iX8_back_45, true_or, or_true, Option.bind_some, Option.bind_none, kk_hp, kn_hp, el_i, el_b, el_z, am_cat_nil, am_cat_i, am_cat_r, am_cat_l, am_cat_n, gd_i, gd_r, gd_n, gd_u, List.length_cons, List.length_nil, true_and, and_true, ↓reduceIte, Nat.zero_le, Nat.reduceLeDiff, Nat.reduceAdd, e_10, e_01, e_00, e_11, Int32.reduceLE, Int32.reduceLT, Int32.reduceAdd, Int32.reduceSub, b01, if_true, if_false, ite_self, rc_0, gf_0_0, gf_0_1, gf_0_2, gf_0_3, gf_0_4, gf_0_5, gf_0_6, gf_0_7, gf_0_8, pf_0_8, gf_0_9, pf_0_9, rc_1, gf_1_0, pf_1_0, gf_1_1, gf_1_2, gf_1_3, pf_1_3, gf_1_4, pf_1_4, gf_1_5, pf_1_5, gf_1_6, pf_1_6, gf_1_7, pf_1_7, gf_1_8, gf_1_9, rc_27, gf_27_0, gf_27_1, pf_27_1, rc_28, gf_28_0, pf_28_0, gf_28_1, gf_28_2, gf_28_3, pf_28_3, gf_28_4, pf_28_4, gf_28_5, pf_28_5, gf_28_6, pf_28_6, gf_28_7, pf_28_7, gf_28_8, gf_28_9, nl_add, nl_add', nl_mul, nI_add, in_t, cl_n, le_nn, lt_nn, le_ln, le_nl, lt_nl, lt_ln, eq_nn, eq_nl, in_lit, cl_lit, Nat.le_refl, Nat.add_zero, C_image0, i1]
      · simp (disch := omega) only [iX9_back_0, iX9_back_1, iX9_back_2, iX9_back_3, iX9_back_4, iX9_back_7, iX9_back_10, iX9_back_11, iX9_back_12, iX9_back_13, iX9_back_16, iX9_back_17, iX9_back_18, iX9_back_21, iX9_back_23, iX9_back_24, iX9_back_25, true_or, or_true, Option.bind_some, Option.bind_none, kk_hp, kn_hp, el_i, el_b, el_z, am_cat_nil, am_cat_i, am_cat_r, am_cat_l, am_cat_n, gd_i, gd_r, gd_n, gd_u, List.length_cons, List.length_nil, true_and, and_true, ↓reduceIte, Nat.zero_le, Nat.reduceLeDiff, Nat.reduceAdd, e_10, e_01, e_00, e_11, Int32.reduceLE, Int32.reduceLT, Int32.reduceAdd, Int32.reduceSub, b01, if_true, if_false, ite_self, rc_82, gf_82_0, gf_82_1, gf_82_2, gf_82_3, gf_82_4, gf_82_5, gf_82_6, pf_82_6, gf_82_7, pf_82_7, gf_82_8, pf_82_8, gf_82_9, pf_82_9, gf_82_10, pf_82_10, gf_82_11, pf_82_11, gf_82_12, pf_82_12, gf_82_13, gf_82_14, gf_82_15, gf_82_16, pf_82_16, gf_82_17, gf_82_18, gf_82_19, gf_82_20, gf_82_21, gf_82_22, gf_82_23, gf_82_24, gf_82_25, pf_82_25, ga_83, wi_83, ga_84, wi_84, ga_85, wb_85, ga_86, wi_86, ga_87, wb_87, ga_88, wi_88, ga_89, wi_89, ga_90, wi_90, ga_91, wi_91, ga_92, wi_92, ga_93, wi_93, ga_94, wi_94, ga_95, wi_95, ga_96, wb_96, ga_97, wi_97, ga_98, wi_98, ga_99, wi_99, nl_add, nl_add', nl_mul, nI_add, in_t, cl_n, le_nn, lt_nn, le_ln, le_nl, lt_nl, lt_ln, eq_nn, eq_nl, in_lit, cl_lit, Nat.le_refl, Nat.add_zero, er0, cl, z]
    · rw [z] at i1
      obtain ⟨K, e1, f1, g1⟩ := @C_become X M 1 28 (Or.inl rfl) (by unfold isG; omega) (by decide)
      have er1 := er (up K 0 8 1)
      rw [if_pos (by decide)] at er1
      have gK := g1 (kp M 0) kw.1.2 kw.2.1.2 kg
      have q84 : (up K 0 8 1) 84 = M 84 := f1 84 (by decide)
      have q83 : (up K 0 8 1) 83 = M 83 := f1 83 (by decide)
      have q85 : (up K 0 8 1) 85 0 = 1 := by rw [show (up K 0 8 1) 85 = K 85 from rfl, f1 85 (by decide)]; exact z
      have qk : kp (up K 0 8 1) 0 = kp M 0 := by unfold kp; rw [q84]
      have e2 := @M_back_l X (up K 0 8 1) 0 (by decide)
      rw [qk, q83, fil_in (by decide), show nI 0 = (0 : Int32) from rfl] at e2
      have e7 : K 1 7 = kp M 0 25 := gK.1.2.2.2.2.2
      have ef : ∀ c, c < 86 → fil (M 83) (kp M 0) 86 c = kp M 0 c := fun c hc => fil_in hc
      refine ⟨kp M 0 25, up K 0 8 1, ua (up K 0 8 1) 83 (fil (M 83) (kp M 0) 86), ?_, ?_, ?_⟩
      · simp (disch := omega) only [iX8_back_0, iX8_back_1, iX8_back_2, iX8_back_5, iX8_back_5_n, iX8_back_6, iX8_back_6_n, iX8_back_7, iX8_back_7_n, iX8_back_10, iX8_back_11, iX8_back_12, iX8_back_12_n, iX8_back_13, iX8_back_16, iX8_back_19, iX8_back_21, iX8_back_22, iX8_back_23, iX8_back_26, iX8_back_26_n, iX8_back_27, iX8_back_30, iX8_back_33, iX8_back_34, iX8_back_35, iX8_back_38, iX8_back_39, iX8_back_42, iX8_back_45, true_or, or_true, Option.bind_some, Option.bind_none, kk_hp, kn_hp, el_i, el_b, el_z, am_cat_nil, am_cat_i, am_cat_r, am_cat_l, am_cat_n, gd_i, gd_r, gd_n, gd_u, List.length_cons, List.length_nil, true_and, and_true, ↓reduceIte, Nat.zero_le, Nat.reduceLeDiff, Nat.reduceAdd, e_10, e_01, e_00, e_11, Int32.reduceLE, Int32.reduceLT, Int32.reduceAdd, Int32.reduceSub, b01, if_true, if_false, ite_self, rc_0, gf_0_0, gf_0_1, gf_0_2, gf_0_3, gf_0_4, gf_0_5, gf_0_6, gf_0_7, gf_0_8, pf_0_8, gf_0_9, pf_0_9, rc_1, gf_1_0, pf_1_0, gf_1_1, gf_1_2, gf_1_3, pf_1_3, gf_1_4, pf_1_4, gf_1_5, pf_1_5, gf_1_6, pf_1_6, gf_1_7, pf_1_7, gf_1_8, gf_1_9, rc_27, gf_27_0, gf_27_1, pf_27_1, rc_28, gf_28_0, pf_28_0, gf_28_1, gf_28_2, gf_28_3, pf_28_3, gf_28_4, pf_28_4, gf_28_5, pf_28_5, gf_28_6, pf_28_6, gf_28_7, pf_28_7, gf_28_8, gf_28_9, nl_add, nl_add', nl_mul, nI_add, in_t, cl_n, le_nn, lt_nn, le_ln, le_nl, lt_nl, lt_ln, eq_nn, eq_nl, in_lit, cl_lit, Nat.le_refl, Nat.add_zero, C_image0, i1, e1, up_n, e7]
      · simp (disch := omega) only [iX9_back_0, iX9_back_1, iX9_back_2, iX9_back_3, iX9_back_4, iX9_back_7, iX9_back_10, iX9_back_11, iX9_back_12, iX9_back_13, iX9_back_16, iX9_back_17, iX9_back_18, iX9_back_21, iX9_back_23, iX9_back_24, iX9_back_25, true_or, or_true, Option.bind_some, Option.bind_none, kk_hp, kn_hp, el_i, el_b, el_z, am_cat_nil, am_cat_i, am_cat_r, am_cat_l, am_cat_n, gd_i, gd_r, gd_n, gd_u, List.length_cons, List.length_nil, true_and, and_true, ↓reduceIte, Nat.zero_le, Nat.reduceLeDiff, Nat.reduceAdd, e_10, e_01, e_00, e_11, Int32.reduceLE, Int32.reduceLT, Int32.reduceAdd, Int32.reduceSub, b01, if_true, if_false, ite_self, rc_82, gf_82_0, gf_82_1, gf_82_2, gf_82_3, gf_82_4, gf_82_5, gf_82_6, pf_82_6, gf_82_7, pf_82_7, gf_82_8, pf_82_8, gf_82_9, pf_82_9, gf_82_10, pf_82_10, gf_82_11, pf_82_11, gf_82_12, pf_82_12, gf_82_13, gf_82_14, gf_82_15, gf_82_16, pf_82_16, gf_82_17, gf_82_18, gf_82_19, gf_82_20, gf_82_21, gf_82_22, gf_82_23, gf_82_24, gf_82_25, pf_82_25, ga_83, wi_83, ga_84, wi_84, ga_85, wb_85, ga_86, wi_86, ga_87, wb_87, ga_88, wi_88, ga_89, wi_89, ga_90, wi_90, ga_91, wi_91, ga_92, wi_92, ga_93, wi_93, ga_94, wi_94, ga_95, wi_95, ga_96, wb_96, ga_97, wi_97, ga_98, wi_98, ga_99, wi_99, nl_add, nl_add', nl_mul, nI_add, in_t, cl_n, le_nn, lt_nn, le_ln, le_nl, lt_nl, lt_ln, eq_nn, eq_nl, in_lit, cl_lit, Nat.le_refl, Nat.add_zero, er1, cl, q85]
        exact e2
      · refine RR_c h (fun x h1 h2 => by rw [ua_n _ _ h2, up_n _ _ _ (by omega)]; exact f1 x (by omega)) rfl ?_ ?_ ?_
        · show K 0 9 = M 0 9
          rw [f1 0 (by decide)]
        · rw [ua_s]; exact wf_86 kw ef
        · rw [ua_s]
          refine RG_86 (RG_fa (M := K) (fun q hq => ?_) gK) kw.1.2 kw.2.1.2 ef
          rw [ua_n _ _ (by omega), up_n _ _ _ (by omega)]
  by_cases a1 : k = 1
  · subst a1
    have i1 : M 39 1 = M 85 1 := (h.2.2.2.1 1 (by decide)).1
    have cl : (1 : Int32).toNatClampNeg = 1 := by decide
    rcases (h.2.2.2.1 1 (by decide)).2 with z | ⟨z, kw, kg⟩
    · rw [z] at i1
      have er0 := er M
      rw [if_pos (by decide)] at er0
      refine ⟨-2, M, M, ?_, ?_, h⟩
      · simp (disch := omega) only [iX8_back_0, iX8_back_1, iX8_back_2, iX8_back_5, iX8_back_5_n, iX8_back_6, iX8_back_6_n, iX8_back_7, iX8_back_7_n, iX8_back_10, iX8_back_11, iX8_back_12, iX8_back_12_n, iX8_back_13, iX8_back_16, iX8_back_19, iX8_back_21, iX8_back_22, iX8_back_23, iX8_back_26, iX8_back_26_n, iX8_back_27, iX8_back_30, iX8_back_33, iX8_back_34, iX8_back_35, iX8_back_38, iX8_back_39, iX8_back_42, iX8_back_45, true_or, or_true, Option.bind_some, Option.bind_none, kk_hp, kn_hp, el_i, el_b, el_z, am_cat_nil, am_cat_i, am_cat_r, am_cat_l, am_cat_n, gd_i, gd_r, gd_n, gd_u, List.length_cons, List.length_nil, true_and, and_true, ↓reduceIte, Nat.zero_le, Nat.reduceLeDiff, Nat.reduceAdd, e_10, e_01, e_00, e_11, Int32.reduceLE, Int32.reduceLT, Int32.reduceAdd, Int32.reduceSub, b01, if_true, if_false, ite_self, rc_0, gf_0_0, gf_0_1, gf_0_2, gf_0_3, gf_0_4, gf_0_5, gf_0_6, gf_0_7, gf_0_8, pf_0_8, gf_0_9, pf_0_9, rc_1, gf_1_0, pf_1_0, gf_1_1, gf_1_2, gf_1_3, pf_1_3, gf_1_4, pf_1_4, gf_1_5, pf_1_5, gf_1_6, pf_1_6, gf_1_7, pf_1_7, gf_1_8, gf_1_9, rc_39, gf_39_0, gf_39_1, pf_39_1, rc_40, gf_40_0, pf_40_0, gf_40_1, gf_40_2, gf_40_3, pf_40_3, gf_40_4, pf_40_4, gf_40_5, pf_40_5, gf_40_6, pf_40_6, gf_40_7, pf_40_7, gf_40_8, gf_40_9, nl_add, nl_add', nl_mul, nI_add, in_t, cl_n, le_nn, lt_nn, le_ln, le_nl, lt_nl, lt_ln, eq_nn, eq_nl, in_lit, cl_lit, Nat.le_refl, Nat.add_zero, C_image1, i1]
      · simp (disch := omega) only [iX9_back_0, iX9_back_1, iX9_back_2, iX9_back_3, iX9_back_4, iX9_back_7, iX9_back_10, iX9_back_11, iX9_back_12, iX9_back_13, iX9_back_16, iX9_back_17, iX9_back_18, iX9_back_21, iX9_back_23, iX9_back_24, iX9_back_25, true_or, or_true, Option.bind_some, Option.bind_none, kk_hp, kn_hp, el_i, el_b, el_z, am_cat_nil, am_cat_i, am_cat_r, am_cat_l, am_cat_n, gd_i, gd_r, gd_n, gd_u, List.length_cons, List.length_nil, true_and, and_true, ↓reduceIte, Nat.zero_le, Nat.reduceLeDiff, Nat.reduceAdd, e_10, e_01, e_00, e_11, Int32.reduceLE, Int32.reduceLT, Int32.reduceAdd, Int32.reduceSub, b01, if_true, if_false, ite_self, rc_82, gf_82_0, gf_82_1, gf_82_2, gf_82_3, gf_82_4, gf_82_5, gf_82_6, pf_82_6, gf_82_7, pf_82_7, gf_82_8, pf_82_8, gf_82_9, pf_82_9, gf_82_10, pf_82_10, gf_82_11, pf_82_11, gf_82_12, pf_82_12, gf_82_13, gf_82_14, gf_82_15, gf_82_16, pf_82_16, gf_82_17, gf_82_18, gf_82_19, gf_82_20, gf_82_21, gf_82_22, gf_82_23, gf_82_24, gf_82_25, pf_82_25, ga_83, wi_83, ga_84, wi_84, ga_85, wb_85, ga_86, wi_86, ga_87, wb_87, ga_88, wi_88, ga_89, wi_89, ga_90, wi_90, ga_91, wi_91, ga_92, wi_92, ga_93, wi_93, ga_94, wi_94, ga_95, wi_95, ga_96, wb_96, ga_97, wi_97, ga_98, wi_98, ga_99, wi_99, nl_add, nl_add', nl_mul, nI_add, in_t, cl_n, le_nn, lt_nn, le_ln, le_nl, lt_nl, lt_ln, eq_nn, eq_nl, in_lit, cl_lit, Nat.le_refl, Nat.add_zero, er0, cl, z]
    · rw [z] at i1
      obtain ⟨K, e1, f1, g1⟩ := @C_become X M 1 40 (Or.inl rfl) (by unfold isG; omega) (by decide)
      have er1 := er (up K 0 8 1)
      rw [if_pos (by decide)] at er1
      have gK := g1 (kp M 1) kw.1.2 kw.2.1.2 kg
      have q84 : (up K 0 8 1) 84 = M 84 := f1 84 (by decide)
      have q83 : (up K 0 8 1) 83 = M 83 := f1 83 (by decide)
      have q85 : (up K 0 8 1) 85 1 = 1 := by rw [show (up K 0 8 1) 85 = K 85 from rfl, f1 85 (by decide)]; exact z
      have qk : kp (up K 0 8 1) 1 = kp M 1 := by unfold kp; rw [q84]
      have e2 := @M_back_l X (up K 0 8 1) 1 (by decide)
      rw [qk, q83, fil_in (by decide), show nI 1 = (1 : Int32) from rfl] at e2
      have e7 : K 1 7 = kp M 1 25 := gK.1.2.2.2.2.2
      have ef : ∀ c, c < 86 → fil (M 83) (kp M 1) 86 c = kp M 1 c := fun c hc => fil_in hc
      refine ⟨kp M 1 25, up K 0 8 1, ua (up K 0 8 1) 83 (fil (M 83) (kp M 1) 86), ?_, ?_, ?_⟩
      · simp (disch := omega) only [iX8_back_0, iX8_back_1, iX8_back_2, iX8_back_5, iX8_back_5_n, iX8_back_6, iX8_back_6_n, iX8_back_7, iX8_back_7_n, iX8_back_10, iX8_back_11, iX8_back_12, iX8_back_12_n, iX8_back_13, iX8_back_16, iX8_back_19, iX8_back_21, iX8_back_22, iX8_back_23, iX8_back_26, iX8_back_26_n, iX8_back_27, iX8_back_30, iX8_back_33, iX8_back_34, iX8_back_35, iX8_back_38, iX8_back_39, iX8_back_42, iX8_back_45, true_or, or_true, Option.bind_some, Option.bind_none, kk_hp, kn_hp, el_i, el_b, el_z, am_cat_nil, am_cat_i, am_cat_r, am_cat_l, am_cat_n, gd_i, gd_r, gd_n, gd_u, List.length_cons, List.length_nil, true_and, and_true, ↓reduceIte, Nat.zero_le, Nat.reduceLeDiff, Nat.reduceAdd, e_10, e_01, e_00, e_11, Int32.reduceLE, Int32.reduceLT, Int32.reduceAdd, Int32.reduceSub, b01, if_true, if_false, ite_self, rc_0, gf_0_0, gf_0_1, gf_0_2, gf_0_3, gf_0_4, gf_0_5, gf_0_6, gf_0_7, gf_0_8, pf_0_8, gf_0_9, pf_0_9, rc_1, gf_1_0, pf_1_0, gf_1_1, gf_1_2, gf_1_3, pf_1_3, gf_1_4, pf_1_4, gf_1_5, pf_1_5, gf_1_6, pf_1_6, gf_1_7, pf_1_7, gf_1_8, gf_1_9, rc_39, gf_39_0, gf_39_1, pf_39_1, rc_40, gf_40_0, pf_40_0, gf_40_1, gf_40_2, gf_40_3, pf_40_3, gf_40_4, pf_40_4, gf_40_5, pf_40_5, gf_40_6, pf_40_6, gf_40_7, pf_40_7, gf_40_8, gf_40_9, nl_add, nl_add', nl_mul, nI_add, in_t, cl_n, le_nn, lt_nn, le_ln, le_nl, lt_nl, lt_ln, eq_nn, eq_nl, in_lit, cl_lit, Nat.le_refl, Nat.add_zero, C_image1, i1, e1, up_n, e7]
      · simp (disch := omega) only [iX9_back_0, iX9_back_1, iX9_back_2, iX9_back_3, iX9_back_4, iX9_back_7, iX9_back_10, iX9_back_11, iX9_back_12, iX9_back_13, iX9_back_16, iX9_back_17, iX9_back_18, iX9_back_21, iX9_back_23, iX9_back_24, iX9_back_25, true_or, or_true, Option.bind_some, Option.bind_none, kk_hp, kn_hp, el_i, el_b, el_z, am_cat_nil, am_cat_i, am_cat_r, am_cat_l, am_cat_n, gd_i, gd_r, gd_n, gd_u, List.length_cons, List.length_nil, true_and, and_true, ↓reduceIte, Nat.zero_le, Nat.reduceLeDiff, Nat.reduceAdd, e_10, e_01, e_00, e_11, Int32.reduceLE, Int32.reduceLT, Int32.reduceAdd, Int32.reduceSub, b01, if_true, if_false, ite_self, rc_82, gf_82_0, gf_82_1, gf_82_2, gf_82_3, gf_82_4, gf_82_5, gf_82_6, pf_82_6, gf_82_7, pf_82_7, gf_82_8, pf_82_8, gf_82_9, pf_82_9, gf_82_10, pf_82_10, gf_82_11, pf_82_11, gf_82_12, pf_82_12, gf_82_13, gf_82_14, gf_82_15, gf_82_16, pf_82_16, gf_82_17, gf_82_18, gf_82_19, gf_82_20, gf_82_21, gf_82_22, gf_82_23, gf_82_24, gf_82_25, pf_82_25, ga_83, wi_83, ga_84, wi_84, ga_85, wb_85, ga_86, wi_86, ga_87, wb_87, ga_88, wi_88, ga_89, wi_89, ga_90, wi_90, ga_91, wi_91, ga_92, wi_92, ga_93, wi_93, ga_94, wi_94, ga_95, wi_95, ga_96, wb_96, ga_97, wi_97, ga_98, wi_98, ga_99, wi_99, nl_add, nl_add', nl_mul, nI_add, in_t, cl_n, le_nn, lt_nn, le_ln, le_nl, lt_nl, lt_ln, eq_nn, eq_nl, in_lit, cl_lit, Nat.le_refl, Nat.add_zero, er1, cl, q85]
        exact e2
      · refine RR_c h (fun x h1 h2 => by rw [ua_n _ _ h2, up_n _ _ _ (by omega)]; exact f1 x (by omega)) rfl ?_ ?_ ?_
        · show K 0 9 = M 0 9
          rw [f1 0 (by decide)]
        · rw [ua_s]; exact wf_86 kw ef
        · rw [ua_s]
          refine RG_86 (RG_fa (M := K) (fun q hq => ?_) gK) kw.1.2 kw.2.1.2 ef
          rw [ua_n _ _ (by omega), up_n _ _ _ (by omega)]
  have hno : ¬ (0 ≤ k ∧ k ≤ 1) := fun z => by
    obtain ⟨u, hu, e⟩ := b1'.mp z
    match u, hu with
    | 0, _ => exact a0 e
    | 1, _ => exact a1 e
  have er0 := er M
  rw [if_neg hno] at er0
  refine ⟨-1, M, M, ?_, ?_, h⟩
  · simp (disch := omega) only [iX8_back_0, iX8_back_1, iX8_back_2, iX8_back_5, iX8_back_5_n, iX8_back_6, iX8_back_6_n, iX8_back_7, iX8_back_7_n, iX8_back_10, iX8_back_11, iX8_back_12, iX8_back_12_n, iX8_back_13, iX8_back_16, iX8_back_19, iX8_back_21, iX8_back_22, iX8_back_23, iX8_back_26, iX8_back_26_n, iX8_back_27, iX8_back_30, iX8_back_33, iX8_back_34, iX8_back_35, iX8_back_38, iX8_back_39, iX8_back_42, iX8_back_45, true_or, or_true, Option.bind_some, Option.bind_none, kk_hp, kn_hp, el_i, el_b, el_z, am_cat_nil, am_cat_i, am_cat_r, am_cat_l, am_cat_n, gd_i, gd_r, gd_n, gd_u, List.length_cons, List.length_nil, true_and, and_true, ↓reduceIte, Nat.zero_le, Nat.reduceLeDiff, Nat.reduceAdd, e_10, e_01, e_00, e_11, Int32.reduceLE, Int32.reduceLT, Int32.reduceAdd, Int32.reduceSub, b01, if_true, if_false, ite_self, rc_0, gf_0_0, gf_0_1, gf_0_2, gf_0_3, gf_0_4, gf_0_5, gf_0_6, gf_0_7, gf_0_8, pf_0_8, gf_0_9, pf_0_9, rc_1, gf_1_0, pf_1_0, gf_1_1, gf_1_2, gf_1_3, pf_1_3, gf_1_4, pf_1_4, gf_1_5, pf_1_5, gf_1_6, pf_1_6, gf_1_7, pf_1_7, gf_1_8, gf_1_9, nl_add, nl_add', nl_mul, nI_add, in_t, cl_n, le_nn, lt_nn, le_ln, le_nl, lt_nl, lt_ln, eq_nn, eq_nl, in_lit, cl_lit, Nat.le_refl, Nat.add_zero, C_imageN hno]
  · simp (disch := omega) only [iX9_back_0, iX9_back_1, iX9_back_2, iX9_back_3, iX9_back_4, iX9_back_7, iX9_back_10, iX9_back_11, iX9_back_12, iX9_back_13, iX9_back_16, iX9_back_17, iX9_back_18, iX9_back_21, iX9_back_23, iX9_back_24, iX9_back_25, true_or, or_true, Option.bind_some, Option.bind_none, kk_hp, kn_hp, el_i, el_b, el_z, am_cat_nil, am_cat_i, am_cat_r, am_cat_l, am_cat_n, gd_i, gd_r, gd_n, gd_u, List.length_cons, List.length_nil, true_and, and_true, ↓reduceIte, Nat.zero_le, Nat.reduceLeDiff, Nat.reduceAdd, e_10, e_01, e_00, e_11, Int32.reduceLE, Int32.reduceLT, Int32.reduceAdd, Int32.reduceSub, b01, if_true, if_false, ite_self, rc_82, gf_82_0, gf_82_1, gf_82_2, gf_82_3, gf_82_4, gf_82_5, gf_82_6, pf_82_6, gf_82_7, pf_82_7, gf_82_8, pf_82_8, gf_82_9, pf_82_9, gf_82_10, pf_82_10, gf_82_11, pf_82_11, gf_82_12, pf_82_12, gf_82_13, gf_82_14, gf_82_15, gf_82_16, pf_82_16, gf_82_17, gf_82_18, gf_82_19, gf_82_20, gf_82_21, gf_82_22, gf_82_23, gf_82_24, gf_82_25, pf_82_25, ga_83, wi_83, ga_84, wi_84, ga_85, wb_85, ga_86, wi_86, ga_87, wb_87, ga_88, wi_88, ga_89, wi_89, ga_90, wi_90, ga_91, wi_91, ga_92, wi_92, ga_93, wi_93, ga_94, wi_94, ga_95, wi_95, ga_96, wb_96, ga_97, wi_97, ga_98, wi_98, ga_99, wi_99, nl_add, nl_add', nl_mul, nI_add, in_t, cl_n, le_nn, lt_nn, le_ln, le_nl, lt_nl, lt_ln, eq_nn, eq_nl, in_lit, cl_lit, Nat.le_refl, Nat.add_zero, er0]
end S82
