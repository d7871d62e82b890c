/-! a text: its lines -/
def teC (M' : Nat → Nat → Int32) (n : Nat) (v : Int32) : LOut → Prop
  | .inl (l, d) => v = nI l ∧ RG M' 15 d ∧ dW d ∧ (whB d = true ∧ M' 12 2 = 0 ∨ whB d = false ∧ M' 12 2 = 6 ∧ M' 12 3 = nI n)
  | .inr (c, s) => v = -4 ∧ cF M' c s ∧ 0 < c
def teM (M' : Nat → Nat → Int32) (n : Nat) (u : Int32) : LOut → Prop
  | .inl (l, d) => u = nI l ∧ M' 82 11 = 0 ∧ M' 82 8 = nI n ∧ M' 86 = d
  | .inr (c, s) => rF M' c s
theorem tK_0 {n p : Nat} {b : Nat → Nat} (hpn : p ≤ n) (h : tK n b p = 0) : tS n b p = n := by
  obtain ⟨s1, s2, s3, s4⟩ := @tS_p n p b hpn
  unfold tK at h
  by_cases h1 : n ≤ tS n b p
  · omega
  · rw [if_neg h1] at h
    exfalso
    repeat (split at h <;> try omega)
section S995
variable {X : am_X}
theorem TL {n : Nat} {b : Nat → Nat} (hX : X.2.2 = .null ∨ X.2.2 = .ref 1200) (k : Nat) : ∀ (p l : Nat) (M : Nat → Nat → Int32) (d : Nat → Int32) (td : Nat → Bool), n ≤ p + k → TP M n b → CK M n b p → p ≤ n → l ≤ p → RG M 15 d → dW d → tdC M td → (td 0 = false → nC d = 0) → M 12 2 = 0 →
    ∃ r v M', am_ev X kX6_tellAll 13 [.ref 12, .int (nI l)] [] (hp M) = some (some (.int v), hp M') ∧ cX M M' ∧ teC M' n v r ∧
      ∀ Mr : Nat → Nat → Int32, TQ Mr n b → TK Mr n b p → Mr 86 = d → tdM Mr td → ∃ Mr' u, am_ev X kX9_text 20 [.ref 82, .int (nI l)] [] (hp Mr) = am_ev X kX9_text 44 [.ref 82, .int u] [] (hp Mr') ∧ rX Mr Mr' ∧ teM Mr' n u r := by
  induction k with
  | zero =>
    intro p l M d td hk ht hC hpn hl hR hd htd hnc h12
    have hn := ht.1
    obtain ⟨b1, b2, b3, b4⟩ := @tB_p n p b hpn
    by_cases hk0 : tK n b p = 0
    · have hs := tK_0 hpn hk0
      have k2 : M 13 2 = 0 := by rw [hC.1, hk0]; rfl
      have ew := @C_isDraftWhole X M d hR hd
      have e13 := ht.2.1
      have to53 : am_ev X kX6_tellAll 13 [.ref 12, .int (nI l)] [] (hp M) = am_ev X kX6_tellAll 53 [.ref 12, .int (nI l)] [] (hp M) := by
        by_cases h3 : 320 ≤ l
        · simp (disch := omega) only [iX6_tellAll_13, iX6_tellAll_14, iX6_tellAll_17, iX6_tellAll_20, iX6_tellAll_21, iX6_tellAll_24, iX6_tellAll_27, true_or, or_true, Option.bind_some, Option.bind_none, kk_hp, kn_hp, el_i, el_b, el_z, am_cat_nil, am_cat_i, am_cat_r, am_cat_l, am_cat_n, gd_i, gd_r, gd_n, gd_u, List.length_cons, List.length_nil, true_and, and_true, ↓reduceIte, Nat.zero_le, Nat.reduceLeDiff, Nat.reduceAdd, e_10, e_01, e_00, e_11, Int32.reduceLE, Int32.reduceLT, Int32.reduceAdd, Int32.reduceSub, b01, if_true, if_false, ite_self, rc_12, gf_12_0, gf_12_1, gf_12_2, pf_12_2, gf_12_3, pf_12_3, gf_12_4, pf_12_4, gf_12_5, pf_12_5, gf_12_6, pf_12_6, gf_12_7, pf_12_7, rc_13, gf_13_0, gf_13_1, pf_13_1, gf_13_2, pf_13_2, gf_13_3, pf_13_3, gf_13_4, pf_13_4, gf_13_5, pf_13_5, nl_add, nl_add', nl_mul, nI_add, in_t, cl_n, le_nn, lt_nn, le_ln, le_nl, lt_nl, lt_ln, eq_nn, eq_nl, in_lit, cl_lit, Nat.le_refl, Nat.add_zero, h3, k2]
        · simp (disch := omega) only [iX6_tellAll_13, iX6_tellAll_14, iX6_tellAll_17, iX6_tellAll_20, iX6_tellAll_21, iX6_tellAll_24, iX6_tellAll_27, true_or, or_true, Option.bind_some, Option.bind_none, kk_hp, kn_hp, el_i, el_b, el_z, am_cat_nil, am_cat_i, am_cat_r, am_cat_l, am_cat_n, gd_i, gd_r, gd_n, gd_u, List.length_cons, List.length_nil, true_and, and_true, ↓reduceIte, Nat.zero_le, Nat.reduceLeDiff, Nat.reduceAdd, e_10, e_01, e_00, e_11, Int32.reduceLE, Int32.reduceLT, Int32.reduceAdd, Int32.reduceSub, b01, if_true, if_false, ite_self, rc_12, gf_12_0, gf_12_1, gf_12_2, pf_12_2, gf_12_3, pf_12_3, gf_12_4, pf_12_4, gf_12_5, pf_12_5, gf_12_6, pf_12_6, gf_12_7, pf_12_7, rc_13, gf_13_0, gf_13_1, pf_13_1, gf_13_2, pf_13_2, gf_13_3, pf_13_3, gf_13_4, pf_13_4, gf_13_5, pf_13_5, nl_add, nl_add', nl_mul, nI_add, in_t, cl_n, le_nn, lt_nn, le_ln, le_nl, lt_nl, lt_ln, eq_nn, eq_nl, in_lit, cl_lit, Nat.le_refl, Nat.add_zero, h3, k2]
      have hr : ∀ Mr : Nat → Nat → Int32, TQ Mr n b → TK Mr n b p → Mr 86 = d → tdM Mr td → ∃ Mr' u, am_ev X kX9_text 20 [.ref 82, .int (nI l)] [] (hp Mr) = am_ev X kX9_text 44 [.ref 82, .int u] [] (hp Mr') ∧ rX Mr Mr' ∧ teM Mr' n u (.inl (l, d)) := by
        intro Mr q1 q2 q3 q4
        obtain ⟨f0, k9⟩ := q2.2.2.2.1 (by omega)
        rw [hk0] at k9
        refine ⟨Mr, nI l, ?_, ⟨fun _ _ _ _ => rfl, fun _ _ => rfl⟩, rfl, f0, by rw [q2.2.1, hs], q3⟩
        simp (disch := omega) only [iX9_text_20, iX9_text_21, iX9_text_24, iX9_text_27, iX9_text_28, iX9_text_31, true_or, or_true, Option.bind_some, Option.bind_none, kk_hp, kn_hp, el_i, el_b, el_z, am_cat_nil, am_cat_i, am_cat_r, am_cat_l, am_cat_n, gd_i, gd_r, gd_n, gd_u, List.length_cons, List.length_nil, true_and, and_true, ↓reduceIte, Nat.zero_le, Nat.reduceLeDiff, Nat.reduceAdd, e_10, e_01, e_00, e_11, Int32.reduceLE, Int32.reduceLT, Int32.reduceAdd, Int32.reduceSub, b01, if_true, if_false, ite_self, rc_82, gf_82_0, gf_82_1, gf_82_2, gf_82_3, gf_82_4, gf_82_5, gf_82_6, pf_82_6, gf_82_7, pf_82_7, gf_82_8, pf_82_8, gf_82_9, pf_82_9, gf_82_10, pf_82_10, gf_82_11, pf_82_11, gf_82_12, pf_82_12, gf_82_13, gf_82_14, gf_82_15, gf_82_16, pf_82_16, gf_82_17, gf_82_18, gf_82_19, gf_82_20, gf_82_21, gf_82_22, gf_82_23, gf_82_24, gf_82_25, pf_82_25, ga_83, wi_83, ga_84, wi_84, ga_85, wb_85, ga_86, wi_86, ga_87, wb_87, ga_88, wi_88, ga_89, wi_89, ga_90, wi_90, ga_91, wi_91, ga_92, wi_92, ga_93, wi_93, ga_94, wi_94, ga_95, wi_95, ga_96, wb_96, ga_97, wi_97, ga_98, wi_98, ga_99, wi_99, nl_add, nl_add', nl_mul, nI_add, in_t, cl_n, le_nn, lt_nn, le_ln, le_nl, lt_nl, lt_ln, eq_nn, eq_nl, in_lit, cl_lit, Nat.le_refl, Nat.add_zero, f0, k9, nI_0]
      cases hw : whB d with
      | true =>
        rw [hw, bI_t] at ew
        refine ⟨.inl (l, d), nI l, M, ?_, fun _ _ _ _ => rfl, ⟨rfl, hR, hd, Or.inl ⟨hw, h12⟩⟩, hr⟩
        rw [to53]
        simp (disch := omega) only [iX6_tellAll_53, iX6_tellAll_54, iX6_tellAll_57, iX6_tellAll_60, iX6_tellAll_61, iX6_tellAll_63, iX6_tellAll_66, iX6_tellAll_67, iX6_tellAll_68, iX6_tellAll_71, iX6_tellAll_74, iX6_tellAll_77, iX6_tellAll_78, true_or, or_true, Option.bind_some, Option.bind_none, kk_hp, kn_hp, el_i, el_b, el_z, am_cat_nil, am_cat_i, am_cat_r, am_cat_l, am_cat_n, gd_i, gd_r, gd_n, gd_u, List.length_cons, List.length_nil, true_and, and_true, ↓reduceIte, Nat.zero_le, Nat.reduceLeDiff, Nat.reduceAdd, e_10, e_01, e_00, e_11, Int32.reduceLE, Int32.reduceLT, Int32.reduceAdd, Int32.reduceSub, b01, if_true, if_false, ite_self, rc_12, gf_12_0, gf_12_1, gf_12_2, pf_12_2, gf_12_3, pf_12_3, gf_12_4, pf_12_4, gf_12_5, pf_12_5, gf_12_6, pf_12_6, gf_12_7, pf_12_7, rc_13, gf_13_0, gf_13_1, pf_13_1, gf_13_2, pf_13_2, gf_13_3, pf_13_3, gf_13_4, pf_13_4, gf_13_5, pf_13_5, nl_add, nl_add', nl_mul, nI_add, in_t, cl_n, le_nn, lt_nn, le_ln, le_nl, lt_nl, lt_ln, eq_nn, eq_nl, in_lit, cl_lit, Nat.le_refl, Nat.add_zero, ew]
      | false =>
        rw [hw, bI_f] at ew
        have u1 : (up M 12 2 6) 13 1 = nI n := e13
        refine ⟨.inl (l, d), nI l, up (up M 12 2 6) 12 3 (nI n), ?_, fun a h1 _ _ => by rw [up_n _ _ _ h1, up_n _ _ _ h1], ⟨rfl, RG_fa (fun j hj => by rw [up_n _ _ _ (by omega), up_n _ _ _ (by omega)]) hR, hd, Or.inr ⟨hw, rfl, rfl⟩⟩, hr⟩
        rw [to53]
        simp (disch := omega) only [iX6_tellAll_53, iX6_tellAll_54, iX6_tellAll_57, iX6_tellAll_60, iX6_tellAll_61, iX6_tellAll_63, iX6_tellAll_66, iX6_tellAll_67, iX6_tellAll_68, iX6_tellAll_71, iX6_tellAll_74, iX6_tellAll_77, iX6_tellAll_78, true_or, or_true, Option.bind_some, Option.bind_none, kk_hp, kn_hp, el_i, el_b, el_z, am_cat_nil, am_cat_i, am_cat_r, am_cat_l, am_cat_n, gd_i, gd_r, gd_n, gd_u, List.length_cons, List.length_nil, true_and, and_true, ↓reduceIte, Nat.zero_le, Nat.reduceLeDiff, Nat.reduceAdd, e_10, e_01, e_00, e_11, Int32.reduceLE, Int32.reduceLT, Int32.reduceAdd, Int32.reduceSub, b01, if_true, if_false, ite_self, rc_12, gf_12_0, gf_12_1, gf_12_2, pf_12_2, gf_12_3, pf_12_3, gf_12_4, pf_12_4, gf_12_5, pf_12_5, gf_12_6, pf_12_6, gf_12_7, pf_12_7, rc_13, gf_13_0, gf_13_1, pf_13_1, gf_13_2, pf_13_2, gf_13_3, pf_13_3, gf_13_4, pf_13_4, gf_13_5, pf_13_5, nl_add, nl_add', nl_mul, nI_add, in_t, cl_n, le_nn, lt_nn, le_ln, le_nl, lt_nl, lt_ln, eq_nn, eq_nl, in_lit, cl_lit, Nat.le_refl, Nat.add_zero, ew, u1]
    obtain ⟨bb1, bb2⟩ := b3 hk0
    have k2n : ¬ M 13 2 = 0 := by rw [hC.1]; exact fun z => hk0 (nI_inj (by omega) (by decide) z)
    obtain ⟨s1, s2, s3, s4⟩ := @tS_p n p b hpn
    have l3 : ¬ 320 ≤ l := by omega
    by_cases hk4 : tK n b p = 4
    · have nf : ∀ i, i < 13 → nmE n b p i = false := fun i hi => by
        cases h : nmE n b p i with
        | false => rfl
        | true => have := (nm_f hi h).1; omega
      have en := fun i (hi : i < 13) => @C_isName X M n p i b ht hC hpn hi hX
      have e0 := en 0 (by decide)
      have e5 := en 5 (by decide)
      have e6 := en 6 (by decide)
      have e7 := en 7 (by decide)
      have e8 := en 8 (by decide)
      have e9 := en 9 (by decide)
      rw [nf 0 (by decide), bI_f] at e0
      rw [nf 5 (by decide), bI_f] at e5
      rw [nf 6 (by decide), bI_f] at e6
      rw [nf 7 (by decide), bI_f] at e7
      rw [nf 8 (by decide), bI_f] at e8
      rw [nf 9 (by decide), bI_f] at e9
      have erT := @C_refuseToken X M
      rw [hC.1, hC.2.1, rtk b4, if_pos hk4] at erT
      have et : am_ev X kX6_takeLine 0 [.ref 12] [] (hp M) = some (some (.int 0), hp (up (up M 12 2 1) 12 3 (nI (tS n b p)))) := by
        simp (disch := omega) only [iX6_takeLine_0, iX6_takeLine_1, iX6_takeLine_4, iX6_takeLine_6, iX6_takeLine_9, iX6_takeLine_12, iX6_takeLine_13, iX6_takeLine_16, iX6_takeLine_17, iX6_takeLine_18, iX6_takeLine_21, iX6_takeLine_23, iX6_takeLine_26, iX6_takeLine_29, iX6_takeLine_30, iX6_takeLine_33, iX6_takeLine_34, iX6_takeLine_35, iX6_takeLine_38, iX6_takeLine_40, iX6_takeLine_43, iX6_takeLine_46, iX6_takeLine_47, iX6_takeLine_50, iX6_takeLine_51, iX6_takeLine_52, iX6_takeLine_55, iX6_takeLine_57, iX6_takeLine_60, iX6_takeLine_63, iX6_takeLine_64, iX6_takeLine_67, iX6_takeLine_68, iX6_takeLine_69, iX6_takeLine_72, iX6_takeLine_74, iX6_takeLine_77, iX6_takeLine_80, iX6_takeLine_81, iX6_takeLine_84, iX6_takeLine_85, iX6_takeLine_86, iX6_takeLine_89, iX6_takeLine_91, iX6_takeLine_94, iX6_takeLine_97, iX6_takeLine_98, iX6_takeLine_101, iX6_takeLine_104, iX6_takeLine_105, iX6_takeLine_108, true_or, or_true, Option.bind_some, Option.bind_none, kk_hp, kn_hp, el_i, el_b, el_z, am_cat_nil, am_cat_i, am_cat_r, am_cat_l, am_cat_n, gd_i, gd_r, gd_n, gd_u, List.length_cons, List.length_nil, true_and, and_true, ↓reduceIte, Nat.zero_le, Nat.reduceLeDiff, Nat.reduceAdd, e_10, e_01, e_00, e_11, Int32.reduceLE, Int32.reduceLT, Int32.reduceAdd, Int32.reduceSub, b01, if_true, if_false, ite_self, rc_12, gf_12_0, gf_12_1, gf_12_2, pf_12_2, gf_12_3, pf_12_3, gf_12_4, pf_12_4, gf_12_5, pf_12_5, gf_12_6, pf_12_6, gf_12_7, pf_12_7, rc_13, gf_13_0, gf_13_1, pf_13_1, gf_13_2, pf_13_2, gf_13_3, pf_13_3, gf_13_4, pf_13_4, gf_13_5, pf_13_5, e0, e5, e6, e7, e8, e9, erT, Nat.reduceAdd]
      refine ⟨.inr (1, tS n b p), -4, up (up M 12 2 1) 12 3 (nI (tS n b p)), ?_, fun a h1 _ _ => by rw [up_n _ _ _ h1, up_n _ _ _ h1], ⟨rfl, ⟨rfl, rfl⟩, by decide⟩, fun Mr q1 q2 q3 q4 => ⟨Mr, nI l, ?_, ⟨fun _ _ _ _ => rfl, fun _ _ => rfl⟩, q2.2.2.1 hk4⟩⟩
      · conv => lhs; rw [iX6_tellAll_13]
        simp (disch := omega) only [iX6_tellAll_14, iX6_tellAll_17, iX6_tellAll_20, iX6_tellAll_21, iX6_tellAll_24, iX6_tellAll_27, iX6_tellAll_30, iX6_tellAll_31, iX6_tellAll_34, iX6_tellAll_37, iX6_tellAll_39, true_or, or_true, Option.bind_some, Option.bind_none, kk_hp, kn_hp, el_i, el_b, el_z, am_cat_nil, am_cat_i, am_cat_r, am_cat_l, am_cat_n, gd_i, gd_r, gd_n, gd_u, List.length_cons, List.length_nil, true_and, and_true, ↓reduceIte, Nat.zero_le, Nat.reduceLeDiff, Nat.reduceAdd, e_10, e_01, e_00, e_11, Int32.reduceLE, Int32.reduceLT, Int32.reduceAdd, Int32.reduceSub, b01, if_true, if_false, ite_self, rc_12, gf_12_0, gf_12_1, gf_12_2, pf_12_2, gf_12_3, pf_12_3, gf_12_4, pf_12_4, gf_12_5, pf_12_5, gf_12_6, pf_12_6, gf_12_7, pf_12_7, rc_13, gf_13_0, gf_13_1, pf_13_1, gf_13_2, pf_13_2, gf_13_3, pf_13_3, gf_13_4, pf_13_4, gf_13_5, pf_13_5, nl_add, nl_add', nl_mul, nI_add, in_t, cl_n, le_nn, lt_nn, le_ln, le_nl, lt_nl, lt_ln, eq_nn, eq_nl, in_lit, cl_lit, Nat.le_refl, Nat.add_zero, l3, k2n, et]
      · have f1 := (q2.2.2.1 hk4).1
        simp (disch := omega) only [iX9_text_20, iX9_text_21, iX9_text_24, iX9_text_27, iX9_text_28, iX9_text_31, true_or, or_true, Option.bind_some, Option.bind_none, kk_hp, kn_hp, el_i, el_b, el_z, am_cat_nil, am_cat_i, am_cat_r, am_cat_l, am_cat_n, gd_i, gd_r, gd_n, gd_u, List.length_cons, List.length_nil, true_and, and_true, ↓reduceIte, Nat.zero_le, Nat.reduceLeDiff, Nat.reduceAdd, e_10, e_01, e_00, e_11, Int32.reduceLE, Int32.reduceLT, Int32.reduceAdd, Int32.reduceSub, b01, if_true, if_false, ite_self, rc_82, gf_82_0, gf_82_1, gf_82_2, gf_82_3, gf_82_4, gf_82_5, gf_82_6, pf_82_6, gf_82_7, pf_82_7, gf_82_8, pf_82_8, gf_82_9, pf_82_9, gf_82_10, pf_82_10, gf_82_11, pf_82_11, gf_82_12, pf_82_12, gf_82_13, gf_82_14, gf_82_15, gf_82_16, pf_82_16, gf_82_17, gf_82_18, gf_82_19, gf_82_20, gf_82_21, gf_82_22, gf_82_23, gf_82_24, gf_82_25, pf_82_25, ga_83, wi_83, ga_84, wi_84, ga_85, wb_85, ga_86, wi_86, ga_87, wb_87, ga_88, wi_88, ga_89, wi_89, ga_90, wi_90, ga_91, wi_91, ga_92, wi_92, ga_93, wi_93, ga_94, wi_94, ga_95, wi_95, ga_96, wb_96, ga_97, wi_97, ga_98, wi_98, ga_99, wi_99, nl_add, nl_add', nl_mul, nI_add, in_t, cl_n, le_nn, lt_nn, le_ln, le_nl, lt_nl, lt_ln, eq_nn, eq_nl, in_lit, cl_lit, Nat.le_refl, Nat.add_zero, f1]
    obtain ⟨r, v, K, td', y1, y2, y3, y4, y5⟩ := @LL X M n p b d td hX ht hC hpn hk0 hk4 hR hd htd hnc
    match r, y3, y5 with
    | .inr (c, s), ⟨x1, x2, x3⟩, y5 =>
      subst x1
      refine ⟨.inr (c, s), -4, K, ?_, y2, ⟨rfl, x2, x3⟩, fun Mr q1 q2 q3 q4 => ?_⟩
      · conv => lhs; rw [iX6_tellAll_13]
        simp (disch := omega) only [iX6_tellAll_14, iX6_tellAll_17, iX6_tellAll_20, iX6_tellAll_21, iX6_tellAll_24, iX6_tellAll_27, iX6_tellAll_30, iX6_tellAll_31, iX6_tellAll_34, iX6_tellAll_37, iX6_tellAll_39, true_or, or_true, Option.bind_some, Option.bind_none, kk_hp, kn_hp, el_i, el_b, el_z, am_cat_nil, am_cat_i, am_cat_r, am_cat_l, am_cat_n, gd_i, gd_r, gd_n, gd_u, List.length_cons, List.length_nil, true_and, and_true, ↓reduceIte, Nat.zero_le, Nat.reduceLeDiff, Nat.reduceAdd, e_10, e_01, e_00, e_11, Int32.reduceLE, Int32.reduceLT, Int32.reduceAdd, Int32.reduceSub, b01, if_true, if_false, ite_self, rc_12, gf_12_0, gf_12_1, gf_12_2, pf_12_2, gf_12_3, pf_12_3, gf_12_4, pf_12_4, gf_12_5, pf_12_5, gf_12_6, pf_12_6, gf_12_7, pf_12_7, rc_13, gf_13_0, gf_13_1, pf_13_1, gf_13_2, pf_13_2, gf_13_3, pf_13_3, gf_13_4, pf_13_4, gf_13_5, pf_13_5, nl_add, nl_add', nl_mul, nI_add, in_t, cl_n, le_nn, lt_nn, le_ln, le_nl, lt_nl, lt_ln, eq_nn, eq_nl, in_lit, cl_lit, Nat.le_refl, Nat.add_zero, l3, k2n, y1]
      · obtain ⟨Mr', w1, w2, w3⟩ := y5 Mr q1 q2 q3 q4
        obtain ⟨f0, k9⟩ := q2.2.2.2.1 hk4
        have k9n : ¬ Mr 82 9 = 0 := by rw [k9]; exact fun z => hk0 (nI_inj (by omega) (by decide) z)
        have w11 : ¬ Mr' 82 11 = 0 := by rw [w3.1]; exact fun z => absurd (z ▸ x3) (by decide)
        refine ⟨Mr', nI (l + 1), ?_, w2, w3⟩
        conv => lhs; rw [iX9_text_20]
        simp (disch := omega) only [iX9_text_21, iX9_text_24, iX9_text_27, iX9_text_28, iX9_text_31, iX9_text_34, iX9_text_35, iX9_text_38, iX9_text_41, true_or, or_true, Option.bind_some, Option.bind_none, kk_hp, kn_hp, el_i, el_b, el_z, am_cat_nil, am_cat_i, am_cat_r, am_cat_l, am_cat_n, gd_i, gd_r, gd_n, gd_u, List.length_cons, List.length_nil, true_and, and_true, ↓reduceIte, Nat.zero_le, Nat.reduceLeDiff, Nat.reduceAdd, e_10, e_01, e_00, e_11, Int32.reduceLE, Int32.reduceLT, Int32.reduceAdd, Int32.reduceSub, b01, if_true, if_false, ite_self, rc_82, gf_82_0, gf_82_1, gf_82_2, gf_82_3, gf_82_4, gf_82_5, gf_82_6, pf_82_6, gf_82_7, pf_82_7, gf_82_8, pf_82_8, gf_82_9, pf_82_9, gf_82_10, pf_82_10, gf_82_11, pf_82_11, gf_82_12, pf_82_12, gf_82_13, gf_82_14, gf_82_15, gf_82_16, pf_82_16, gf_82_17, gf_82_18, gf_82_19, gf_82_20, gf_82_21, gf_82_22, gf_82_23, gf_82_24, gf_82_25, pf_82_25, ga_83, wi_83, ga_84, wi_84, ga_85, wb_85, ga_86, wi_86, ga_87, wb_87, ga_88, wi_88, ga_89, wi_89, ga_90, wi_90, ga_91, wi_91, ga_92, wi_92, ga_93, wi_93, ga_94, wi_94, ga_95, wi_95, ga_96, wb_96, ga_97, wi_97, ga_98, wi_98, ga_99, wi_99, nl_add, nl_add', nl_mul, nI_add, in_t, cl_n, le_nn, lt_nn, le_ln, le_nl, lt_nl, lt_ln, eq_nn, eq_nl, in_lit, cl_lit, Nat.le_refl, Nat.add_zero, f0, k9n, w1]
        rw [iX9_text_20]
        simp (disch := omega) only [iX9_text_21, iX9_text_24, true_or, or_true, Option.bind_some, Option.bind_none, kk_hp, kn_hp, el_i, el_b, el_z, am_cat_nil, am_cat_i, am_cat_r, am_cat_l, am_cat_n, gd_i, gd_r, gd_n, gd_u, List.length_cons, List.length_nil, true_and, and_true, ↓reduceIte, Nat.zero_le, Nat.reduceLeDiff, Nat.reduceAdd, e_10, e_01, e_00, e_11, Int32.reduceLE, Int32.reduceLT, Int32.reduceAdd, Int32.reduceSub, b01, if_true, if_false, ite_self, rc_82, gf_82_0, gf_82_1, gf_82_2, gf_82_3, gf_82_4, gf_82_5, gf_82_6, pf_82_6, gf_82_7, pf_82_7, gf_82_8, pf_82_8, gf_82_9, pf_82_9, gf_82_10, pf_82_10, gf_82_11, pf_82_11, gf_82_12, pf_82_12, gf_82_13, gf_82_14, gf_82_15, gf_82_16, pf_82_16, gf_82_17, gf_82_18, gf_82_19, gf_82_20, gf_82_21, gf_82_22, gf_82_23, gf_82_24, gf_82_25, pf_82_25, ga_83, wi_83, ga_84, wi_84, ga_85, wb_85, ga_86, wi_86, ga_87, wb_87, ga_88, wi_88, ga_89, wi_89, ga_90, wi_90, ga_91, wi_91, ga_92, wi_92, ga_93, wi_93, ga_94, wi_94, ga_95, wi_95, ga_96, wb_96, ga_97, wi_97, ga_98, wi_98, ga_99, wi_99, nl_add, nl_add', nl_mul, nI_add, in_t, cl_n, le_nn, lt_nn, le_ln, le_nl, lt_nl, lt_ln, eq_nn, eq_nl, in_lit, cl_lit, Nat.le_refl, Nat.add_zero, w11]
    | .inl (q, d'), ⟨x1, x2, x3, x4, x5, x6, x7, x8, x9, x10⟩, y5 =>
      subst x1
      obtain ⟨G, z1, z2, z3, z4, z5, z6, z7⟩ := @C_advance X K n q b x2 x3 x5
      have hnc' : td' 0 = false → nC d' = 0 := by
        intro h
        have hK : K 15 0 = M 15 0 := x10.elim id (fun z => by rw [h] at z; exact absurd z (by decide))
        have ht0 : td 0 = false := by
          cases hh : td 0 with
          | false => rfl
          | true => have := y4 hh; rw [h] at this; exact absurd this (by decide)
        have : d' 0 = d 0 := by rw [← x6.1.1, hK, hR.1.1]
        unfold nC
        rw [this]
        exact hnc ht0
      exact absurd x5 (by omega)
  | succ k ih =>
    intro p l M d td hk ht hC hpn hl hR hd htd hnc h12
    have hn := ht.1
    obtain ⟨b1, b2, b3, b4⟩ := @tB_p n p b hpn
    by_cases hk0 : tK n b p = 0
    · have hs := tK_0 hpn hk0
      have k2 : M 13 2 = 0 := by rw [hC.1, hk0]; rfl
      have ew := @C_isDraftWhole X M d hR hd
      have e13 := ht.2.1
      have to53 : am_ev X kX6_tellAll 13 [.ref 12, .int (nI l)] [] (hp M) = am_ev X kX6_tellAll 53 [.ref 12, .int (nI l)] [] (hp M) := by
        by_cases h3 : 320 ≤ l
        · simp (disch := omega) only [iX6_tellAll_13, iX6_tellAll_14, iX6_tellAll_17, iX6_tellAll_20, iX6_tellAll_21, iX6_tellAll_24, iX6_tellAll_27, true_or, or_true, Option.bind_some, Option.bind_none, kk_hp, kn_hp, el_i, el_b, el_z, am_cat_nil, am_cat_i, am_cat_r, am_cat_l, am_cat_n, gd_i, gd_r, gd_n, gd_u, List.length_cons, List.length_nil, true_and, and_true, ↓reduceIte, Nat.zero_le, Nat.reduceLeDiff, Nat.reduceAdd, e_10, e_01, e_00, e_11, Int32.reduceLE, Int32.reduceLT, Int32.reduceAdd, Int32.reduceSub, b01, if_true, if_false, ite_self, rc_12, gf_12_0, gf_12_1, gf_12_2, pf_12_2, gf_12_3, pf_12_3, gf_12_4, pf_12_4, gf_12_5, pf_12_5, gf_12_6, pf_12_6, gf_12_7, pf_12_7, rc_13, gf_13_0, gf_13_1, pf_13_1, gf_13_2, pf_13_2, gf_13_3, pf_13_3, gf_13_4, pf_13_4, gf_13_5, pf_13_5, nl_add, nl_add', nl_mul, nI_add, in_t, cl_n, le_nn, lt_nn, le_ln, le_nl, lt_nl, lt_ln, eq_nn, eq_nl, in_lit, cl_lit, Nat.le_refl, Nat.add_zero, h3, k2]
        · simp (disch := omega) only [iX6_tellAll_13, iX6_tellAll_14, iX6_tellAll_17, iX6_tellAll_20, iX6_tellAll_21, iX6_tellAll_24, iX6_tellAll_27, true_or, or_true, Option.bind_some, Option.bind_none, kk_hp, kn_hp, el_i, el_b, el_z, am_cat_nil, am_cat_i, am_cat_r, am_cat_l, am_cat_n, gd_i, gd_r, gd_n, gd_u, List.length_cons, List.length_nil, true_and, and_true, ↓reduceIte, Nat.zero_le, Nat.reduceLeDiff, Nat.reduceAdd, e_10, e_01, e_00, e_11, Int32.reduceLE, Int32.reduceLT, Int32.reduceAdd, Int32.reduceSub, b01, if_true, if_false, ite_self, rc_12, gf_12_0, gf_12_1, gf_12_2, pf_12_2, gf_12_3, pf_12_3, gf_12_4, pf_12_4, gf_12_5, pf_12_5, gf_12_6, pf_12_6, gf_12_7, pf_12_7, rc_13, gf_13_0, gf_13_1, pf_13_1, gf_13_2, pf_13_2, gf_13_3, pf_13_3, gf_13_4, pf_13_4, gf_13_5, pf_13_5, nl_add, nl_add', nl_mul, nI_add, in_t, cl_n, le_nn, lt_nn, le_ln, le_nl, lt_nl, lt_ln, eq_nn, eq_nl, in_lit, cl_lit, Nat.le_refl, Nat.add_zero, h3, k2]
      have hr : ∀ Mr : Nat → Nat → Int32, TQ Mr n b → TK Mr n b p → Mr 86 = d → tdM Mr td → ∃ Mr' u, am_ev X kX9_text 20 [.ref 82, .int (nI l)] [] (hp Mr) = am_ev X kX9_text 44 [.ref 82, .int u] [] (hp Mr') ∧ rX Mr Mr' ∧ teM Mr' n u (.inl (l, d)) := by
        intro Mr q1 q2 q3 q4
        obtain ⟨f0, k9⟩ := q2.2.2.2.1 (by omega)
        rw [hk0] at k9
        refine ⟨Mr, nI l, ?_, ⟨fun _ _ _ _ => rfl, fun _ _ => rfl⟩, rfl, f0, by rw [q2.2.1, hs], q3⟩
        simp (disch := omega) only [iX9_text_20, iX9_text_21, iX9_text_24, iX9_text_27, iX9_text_28, iX9_text_31, true_or, or_true, Option.bind_some, Option.bind_none, kk_hp, kn_hp, el_i, el_b, el_z, am_cat_nil, am_cat_i, am_cat_r, am_cat_l, am_cat_n, gd_i, gd_r, gd_n, gd_u, List.length_cons, List.length_nil, true_and, and_true, ↓reduceIte, Nat.zero_le, Nat.reduceLeDiff, Nat.reduceAdd, e_10, e_01, e_00, e_11, Int32.reduceLE, Int32.reduceLT, Int32.reduceAdd, Int32.reduceSub, b01, if_true, if_false, ite_self, rc_82, gf_82_0, gf_82_1, gf_82_2, gf_82_3, gf_82_4, gf_82_5, gf_82_6, pf_82_6, gf_82_7, pf_82_7, gf_82_8, pf_82_8, gf_82_9, pf_82_9, gf_82_10, pf_82_10, gf_82_11, pf_82_11, gf_82_12, pf_82_12, gf_82_13, gf_82_14, gf_82_15, gf_82_16, pf_82_16, gf_82_17, gf_82_18, gf_82_19, gf_82_20, gf_82_21, gf_82_22, gf_82_23, gf_82_24, gf_82_25, pf_82_25, ga_83, wi_83, ga_84, wi_84, ga_85, wb_85, ga_86, wi_86, ga_87, wb_87, ga_88, wi_88, ga_89, wi_89, ga_90, wi_90, ga_91, wi_91, ga_92, wi_92, ga_93, wi_93, ga_94, wi_94, ga_95, wi_95, ga_96, wb_96, ga_97, wi_97, ga_98, wi_98, ga_99, wi_99, nl_add, nl_add', nl_mul, nI_add, in_t, cl_n, le_nn, lt_nn, le_ln, le_nl, lt_nl, lt_ln, eq_nn, eq_nl, in_lit, cl_lit, Nat.le_refl, Nat.add_zero, f0, k9, nI_0]
      cases hw : whB d with
      | true =>
        rw [hw, bI_t] at ew
        refine ⟨.inl (l, d), nI l, M, ?_, fun _ _ _ _ => rfl, ⟨rfl, hR, hd, Or.inl ⟨hw, h12⟩⟩, hr⟩
        rw [to53]
        simp (disch := omega) only [iX6_tellAll_53, iX6_tellAll_54, iX6_tellAll_57, iX6_tellAll_60, iX6_tellAll_61, iX6_tellAll_63, iX6_tellAll_66, iX6_tellAll_67, iX6_tellAll_68, iX6_tellAll_71, iX6_tellAll_74, iX6_tellAll_77, iX6_tellAll_78, true_or, or_true, Option.bind_some, Option.bind_none, kk_hp, kn_hp, el_i, el_b, el_z, am_cat_nil, am_cat_i, am_cat_r, am_cat_l, am_cat_n, gd_i, gd_r, gd_n, gd_u, List.length_cons, List.length_nil, true_and, and_true, ↓reduceIte, Nat.zero_le, Nat.reduceLeDiff, Nat.reduceAdd, e_10, e_01, e_00, e_11, Int32.reduceLE, Int32.reduceLT, Int32.reduceAdd, Int32.reduceSub, b01, if_true, if_false, ite_self, rc_12, gf_12_0, gf_12_1, gf_12_2, pf_12_2, gf_12_3, pf_12_3, gf_12_4, pf_12_4, gf_12_5, pf_12_5, gf_12_6, pf_12_6, gf_12_7, pf_12_7, rc_13, gf_13_0, gf_13_1, pf_13_1, gf_13_2, pf_13_2, gf_13_3, pf_13_3, gf_13_4, pf_13_4, gf_13_5, pf_13_5, nl_add, nl_add', nl_mul, nI_add, in_t, cl_n, le_nn, lt_nn, le_ln, le_nl, lt_nl, lt_ln, eq_nn, eq_nl, in_lit, cl_lit, Nat.le_refl, Nat.add_zero, ew]
      | false =>
        rw [hw, bI_f] at ew
        have u1 : (up M 12 2 6) 13 1 = nI n := e13
        refine ⟨.inl (l, d), nI l, up (up M 12 2 6) 12 3 (nI n), ?_, fun a h1 _ _ => by rw [up_n _ _ _ h1, up_n _ _ _ h1], ⟨rfl, RG_fa (fun j hj => by rw [up_n _ _ _ (by omega), up_n _ _ _ (by omega)]) hR, hd, Or.inr ⟨hw, rfl, rfl⟩⟩, hr⟩
        rw [to53]
        simp (disch := omega) only [iX6_tellAll_53, iX6_tellAll_54, iX6_tellAll_57, iX6_tellAll_60, iX6_tellAll_61, iX6_tellAll_63, iX6_tellAll_66, iX6_tellAll_67, iX6_tellAll_68, iX6_tellAll_71, iX6_tellAll_74, iX6_tellAll_77, iX6_tellAll_78, true_or, or_true, Option.bind_some, Option.bind_none, kk_hp, kn_hp, el_i, el_b, el_z, am_cat_nil, am_cat_i, am_cat_r, am_cat_l, am_cat_n, gd_i, gd_r, gd_n, gd_u, List.length_cons, List.length_nil, true_and, and_true, ↓reduceIte, Nat.zero_le, Nat.reduceLeDiff, Nat.reduceAdd, e_10, e_01, e_00, e_11, Int32.reduceLE, Int32.reduceLT, Int32.reduceAdd, Int32.reduceSub, b01, if_true, if_false, ite_self, rc_12, gf_12_0, gf_12_1, gf_12_2, pf_12_2, gf_12_3, pf_12_3, gf_12_4, pf_12_4, gf_12_5, pf_12_5, gf_12_6, pf_12_6, gf_12_7, pf_12_7, rc_13, gf_13_0, gf_13_1, pf_13_1, gf_13_2, pf_13_2, gf_13_3, pf_13_3, gf_13_4, pf_13_4, gf_13_5, pf_13_5, nl_add, nl_add', nl_mul, nI_add, in_t, cl_n, le_nn, lt_nn, le_ln, le_nl, lt_nl, lt_ln, eq_nn, eq_nl, in_lit, cl_lit, Nat.le_refl, Nat.add_zero, ew, u1]
    obtain ⟨bb1, bb2⟩ := b3 hk0
    have k2n : ¬ M 13 2 = 0 := by rw [hC.1]; exact fun z => hk0 (nI_inj (by omega) (by decide) z)
    obtain ⟨s1, s2, s3, s4⟩ := @tS_p n p b hpn
    have l3 : ¬ 320 ≤ l := by omega
    by_cases hk4 : tK n b p = 4
    · have nf : ∀ i, i < 13 → nmE n b p i = false := fun i hi => by
        cases h : nmE n b p i with
        | false => rfl
        | true => have := (nm_f hi h).1; omega
      have en := fun i (hi : i < 13) => @C_isName X M n p i b ht hC hpn hi hX
      have e0 := en 0 (by decide)
      have e5 := en 5 (by decide)
      have e6 := en 6 (by decide)
      have e7 := en 7 (by decide)
      have e8 := en 8 (by decide)
      have e9 := en 9 (by decide)
      rw [nf 0 (by decide), bI_f] at e0
      rw [nf 5 (by decide), bI_f] at e5
      rw [nf 6 (by decide), bI_f] at e6
      rw [nf 7 (by decide), bI_f] at e7
      rw [nf 8 (by decide), bI_f] at e8
      rw [nf 9 (by decide), bI_f] at e9
      have erT := @C_refuseToken X M
      rw [hC.1, hC.2.1, rtk b4, if_pos hk4] at erT
      have et : am_ev X kX6_takeLine 0 [.ref 12] [] (hp M) = some (some (.int 0), hp (up (up M 12 2 1) 12 3 (nI (tS n b p)))) := by
        simp (disch := omega) only [iX6_takeLine_0, iX6_takeLine_1, iX6_takeLine_4, iX6_takeLine_6, iX6_takeLine_9, iX6_takeLine_12, iX6_takeLine_13, iX6_takeLine_16, iX6_takeLine_17, iX6_takeLine_18, iX6_takeLine_21, iX6_takeLine_23, iX6_takeLine_26, iX6_takeLine_29, iX6_takeLine_30, iX6_takeLine_33, iX6_takeLine_34, iX6_takeLine_35, iX6_takeLine_38, iX6_takeLine_40, iX6_takeLine_43, iX6_takeLine_46, iX6_takeLine_47, iX6_takeLine_50, iX6_takeLine_51, iX6_takeLine_52, iX6_takeLine_55, iX6_takeLine_57, iX6_takeLine_60, iX6_takeLine_63, iX6_takeLine_64, iX6_takeLine_67, iX6_takeLine_68, iX6_takeLine_69, iX6_takeLine_72, iX6_takeLine_74, iX6_takeLine_77, iX6_takeLine_80, iX6_takeLine_81, iX6_takeLine_84, iX6_takeLine_85, iX6_takeLine_86, iX6_takeLine_89, iX6_takeLine_91, iX6_takeLine_94, iX6_takeLine_97, iX6_takeLine_98, iX6_takeLine_101, iX6_takeLine_104, iX6_takeLine_105, iX6_takeLine_108, true_or, or_true, Option.bind_some, Option.bind_none, kk_hp, kn_hp, el_i, el_b, el_z, am_cat_nil, am_cat_i, am_cat_r, am_cat_l, am_cat_n, gd_i, gd_r, gd_n, gd_u, List.length_cons, List.length_nil, true_and, and_true, ↓reduceIte, Nat.zero_le, Nat.reduceLeDiff, Nat.reduceAdd, e_10, e_01, e_00, e_11, Int32.reduceLE, Int32.reduceLT, Int32.reduceAdd, Int32.reduceSub, b01, if_true, if_false, ite_self, rc_12, gf_12_0, gf_12_1, gf_12_2, pf_12_2, gf_12_3, pf_12_3, gf_12_4, pf_12_4, gf_12_5, pf_12_5, gf_12_6, pf_12_6, gf_12_7, pf_12_7, rc_13, gf_13_0, gf_13_1, pf_13_1, gf_13_2, pf_13_2, gf_13_3, pf_13_3, gf_13_4, pf_13_4, gf_13_5, pf_13_5, e0, e5, e6, e7, e8, e9, erT, Nat.reduceAdd]
      refine ⟨.inr (1, tS n b p), -4, up (up M 12 2 1) 12 3 (nI (tS n b p)), ?_, fun a h1 _ _ => by rw [up_n _ _ _ h1, up_n _ _ _ h1], ⟨rfl, ⟨rfl, rfl⟩, by decide⟩, fun Mr q1 q2 q3 q4 => ⟨Mr, nI l, ?_, ⟨fun _ _ _ _ => rfl, fun _ _ => rfl⟩, q2.2.2.1 hk4⟩⟩
      · conv => lhs; rw [iX6_tellAll_13]
        simp (disch := omega) only [iX6_tellAll_14, iX6_tellAll_17, iX6_tellAll_20, iX6_tellAll_21, iX6_tellAll_24, iX6_tellAll_27, iX6_tellAll_30, iX6_tellAll_31, iX6_tellAll_34, iX6_tellAll_37, iX6_tellAll_39, true_or, or_true, Option.bind_some, Option.bind_none, kk_hp, kn_hp, el_i, el_b, el_z, am_cat_nil, am_cat_i, am_cat_r, am_cat_l, am_cat_n, gd_i, gd_r, gd_n, gd_u, List.length_cons, List.length_nil, true_and, and_true, ↓reduceIte, Nat.zero_le, Nat.reduceLeDiff, Nat.reduceAdd, e_10, e_01, e_00, e_11, Int32.reduceLE, Int32.reduceLT, Int32.reduceAdd, Int32.reduceSub, b01, if_true, if_false, ite_self, rc_12, gf_12_0, gf_12_1, gf_12_2, pf_12_2, gf_12_3, pf_12_3, gf_12_4, pf_12_4, gf_12_5, pf_12_5, gf_12_6, pf_12_6, gf_12_7, pf_12_7, rc_13, gf_13_0, gf_13_1, pf_13_1, gf_13_2, pf_13_2, gf_13_3, pf_13_3, gf_13_4, pf_13_4, gf_13_5, pf_13_5, nl_add, nl_add', nl_mul, nI_add, in_t, cl_n, le_nn, lt_nn, le_ln, le_nl, lt_nl, lt_ln, eq_nn, eq_nl, in_lit, cl_lit, Nat.le_refl, Nat.add_zero, l3, k2n, et]
      · have f1 := (q2.2.2.1 hk4).1
        simp (disch := omega) only [iX9_text_20, iX9_text_21, iX9_text_24, iX9_text_27, iX9_text_28, iX9_text_31, true_or, or_true, Option.bind_some, Option.bind_none, kk_hp, kn_hp, el_i, el_b, el_z, am_cat_nil, am_cat_i, am_cat_r, am_cat_l, am_cat_n, gd_i, gd_r, gd_n, gd_u, List.length_cons, List.length_nil, true_and, and_true, ↓reduceIte, Nat.zero_le, Nat.reduceLeDiff, Nat.reduceAdd, e_10, e_01, e_00, e_11, Int32.reduceLE, Int32.reduceLT, Int32.reduceAdd, Int32.reduceSub, b01, if_true, if_false, ite_self, rc_82, gf_82_0, gf_82_1, gf_82_2, gf_82_3, gf_82_4, gf_82_5, gf_82_6, pf_82_6, gf_82_7, pf_82_7, gf_82_8, pf_82_8, gf_82_9, pf_82_9, gf_82_10, pf_82_10, gf_82_11, pf_82_11, gf_82_12, pf_82_12, gf_82_13, gf_82_14, gf_82_15, gf_82_16, pf_82_16, gf_82_17, gf_82_18, gf_82_19, gf_82_20, gf_82_21, gf_82_22, gf_82_23, gf_82_24, gf_82_25, pf_82_25, ga_83, wi_83, ga_84, wi_84, ga_85, wb_85, ga_86, wi_86, ga_87, wb_87, ga_88, wi_88, ga_89, wi_89, ga_90, wi_90, ga_91, wi_91, ga_92, wi_92, ga_93, wi_93, ga_94, wi_94, ga_95, wi_95, ga_96, wb_96, ga_97, wi_97, ga_98, wi_98, ga_99, wi_99, nl_add, nl_add', nl_mul, nI_add, in_t, cl_n, le_nn, lt_nn, le_ln, le_nl, lt_nl, lt_ln, eq_nn, eq_nl, in_lit, cl_lit, Nat.le_refl, Nat.add_zero, f1]
    obtain ⟨r, v, K, td', y1, y2, y3, y4, y5⟩ := @LL X M n p b d td hX ht hC hpn hk0 hk4 hR hd htd hnc
    match r, y3, y5 with
    | .inr (c, s), ⟨x1, x2, x3⟩, y5 =>
      subst x1
      refine ⟨.inr (c, s), -4, K, ?_, y2, ⟨rfl, x2, x3⟩, fun Mr q1 q2 q3 q4 => ?_⟩
      · conv => lhs; rw [iX6_tellAll_13]
        simp (disch := omega) only [iX6_tellAll_14, iX6_tellAll_17, iX6_tellAll_20, iX6_tellAll_21, iX6_tellAll_24, iX6_tellAll_27, iX6_tellAll_30, iX6_tellAll_31, iX6_tellAll_34, iX6_tellAll_37, iX6_tellAll_39, true_or, or_true, Option.bind_some, Option.bind_none, kk_hp, kn_hp, el_i, el_b, el_z, am_cat_nil, am_cat_i, am_cat_r, am_cat_l, am_cat_n, gd_i, gd_r, gd_n, gd_u, List.length_cons, List.length_nil, true_and, and_true, ↓reduceIte, Nat.zero_le, Nat.reduceLeDiff, Nat.reduceAdd, e_10, e_01, e_00, e_11, Int32.reduceLE, Int32.reduceLT, Int32.reduceAdd, Int32.reduceSub, b01, if_true, if_false, ite_self, rc_12, gf_12_0, gf_12_1, gf_12_2, pf_12_2, gf_12_3, pf_12_3, gf_12_4, pf_12_4, gf_12_5, pf_12_5, gf_12_6, pf_12_6, gf_12_7, pf_12_7, rc_13, gf_13_0, gf_13_1, pf_13_1, gf_13_2, pf_13_2, gf_13_3, pf_13_3, gf_13_4, pf_13_4, gf_13_5, pf_13_5, nl_add, nl_add', nl_mul, nI_add, in_t, cl_n, le_nn, lt_nn, le_ln, le_nl, lt_nl, lt_ln, eq_nn, eq_nl, in_lit, cl_lit, Nat.le_refl, Nat.add_zero, l3, k2n, y1]
      · obtain ⟨Mr', w1, w2, w3⟩ := y5 Mr q1 q2 q3 q4
        obtain ⟨f0, k9⟩ := q2.2.2.2.1 hk4
        have k9n : ¬ Mr 82 9 = 0 := by rw [k9]; exact fun z => hk0 (nI_inj (by omega) (by decide) z)
        have w11 : ¬ Mr' 82 11 = 0 := by rw [w3.1]; exact fun z => absurd (z ▸ x3) (by decide)
        refine ⟨Mr', nI (l + 1), ?_, w2, w3⟩
        conv => lhs; rw [iX9_text_20]
        simp (disch := omega) only [iX9_text_21, iX9_text_24, iX9_text_27, iX9_text_28, iX9_text_31, iX9_text_34, iX9_text_35, iX9_text_38, iX9_text_41, true_or, or_true, Option.bind_some, Option.bind_none, kk_hp, kn_hp, el_i, el_b, el_z, am_cat_nil, am_cat_i, am_cat_r, am_cat_l, am_cat_n, gd_i, gd_r, gd_n, gd_u, List.length_cons, List.length_nil, true_and, and_true, ↓reduceIte, Nat.zero_le, Nat.reduceLeDiff, Nat.reduceAdd, e_10, e_01, e_00, e_11, Int32.reduceLE, Int32.reduceLT, Int32.reduceAdd, Int32.reduceSub, b01, if_true, if_false, ite_self, rc_82, gf_82_0, gf_82_1, gf_82_2, gf_82_3, gf_82_4, gf_82_5, gf_82_6, pf_82_6, gf_82_7, pf_82_7, gf_82_8, pf_82_8, gf_82_9, pf_82_9, gf_82_10, pf_82_10, gf_82_11, pf_82_11, gf_82_12, pf_82_12, gf_82_13, gf_82_14, gf_82_15, gf_82_16, pf_82_16, gf_82_17, gf_82_18, gf_82_19, gf_82_20, gf_82_21, gf_82_22, gf_82_23, gf_82_24, gf_82_25, pf_82_25, ga_83, wi_83, ga_84, wi_84, ga_85, wb_85, ga_86, wi_86, ga_87, wb_87, ga_88, wi_88, ga_89, wi_89, ga_90, wi_90, ga_91, wi_91, ga_92, wi_92, ga_93, wi_93, ga_94, wi_94, ga_95, wi_95, ga_96, wb_96, ga_97, wi_97, ga_98, wi_98, ga_99, wi_99, nl_add, nl_add', nl_mul, nI_add, in_t, cl_n, le_nn, lt_nn, le_ln, le_nl, lt_nl, lt_ln, eq_nn, eq_nl, in_lit, cl_lit, Nat.le_refl, Nat.add_zero, f0, k9n, w1]
        rw [iX9_text_20]
        simp (disch := omega) only [iX9_text_21, iX9_text_24, true_or, or_true, Option.bind_some, Option.bind_none, kk_hp, kn_hp, el_i, el_b, el_z, am_cat_nil, am_cat_i, am_cat_r, am_cat_l, am_cat_n, gd_i, gd_r, gd_n, gd_u, List.length_cons, List.length_nil, true_and, and_true, ↓reduceIte, Nat.zero_le, Nat.reduceLeDiff, Nat.reduceAdd, e_10, e_01, e_00, e_11, Int32.reduceLE, Int32.reduceLT, Int32.reduceAdd, Int32.reduceSub, b01, if_true, if_false, ite_self, rc_82, gf_82_0, gf_82_1, gf_82_2, gf_82_3, gf_82_4, gf_82_5, gf_82_6, pf_82_6, gf_82_7, pf_82_7, gf_82_8, pf_82_8, gf_82_9, pf_82_9, gf_82_10, pf_82_10, gf_82_11, pf_82_11, gf_82_12, pf_82_12, gf_82_13, gf_82_14, gf_82_15, gf_82_16, pf_82_16, gf_82_17, gf_82_18, gf_82_19, gf_82_20, gf_82_21, gf_82_22, gf_82_23, gf_82_24, gf_82_25, pf_82_25, ga_83, wi_83, ga_84, wi_84, ga_85, wb_85, ga_86, wi_86, ga_87, wb_87, ga_88, wi_88, ga_89, wi_89, ga_90, wi_90, ga_91, wi_91, ga_92, wi_92, ga_93, wi_93, ga_94, wi_94, ga_95, wi_95, ga_96, wb_96, ga_97, wi_97, ga_98, wi_98, ga_99, wi_99, nl_add, nl_add', nl_mul, nI_add, in_t, cl_n, le_nn, lt_nn, le_ln, le_nl, lt_nl, lt_ln, eq_nn, eq_nl, in_lit, cl_lit, Nat.le_refl, Nat.add_zero, w11]
    | .inl (q, d'), ⟨x1, x2, x3, x4, x5, x6, x7, x8, x9, x10⟩, y5 =>
      subst x1
      obtain ⟨G, z1, z2, z3, z4, z5, z6, z7⟩ := @C_advance X K n q b x2 x3 x5
      have hnc' : td' 0 = false → nC d' = 0 := by
        intro h
        have hK : K 15 0 = M 15 0 := x10.elim id (fun z => by rw [h] at z; exact absurd z (by decide))
        have ht0 : td 0 = false := by
          cases hh : td 0 with
          | false => rfl
          | true => have := y4 hh; rw [h] at this; exact absurd this (by decide)
        have : d' 0 = d 0 := by rw [← x6.1.1, hK, hR.1.1]
        unfold nC
        rw [this]
        exact hnc ht0
      obtain ⟨r2, v2, M2, a1, a2, a3, a4⟩ := ih q (l + 1) G d' td' (by omega) (TP_S x2 z3 (z2 14 (by decide))) ⟨z4, z5, z6, z7⟩ x5 (by omega) (RG_fa (fun j hj => z2 _ (by omega)) x6) x7 (fun j hj => by rw [z2 12 (by decide)]; exact x8 j hj) hnc' (by rw [z2 12 (by decide), x9]; exact h12)
      refine ⟨r2, v2, M2, ?_, cX_t (cX_t y2 (fun a _ h2 _ => z2 a h2)) a2, a3, fun Mr q1 q2 q3 q4 => ?_⟩
      · rw [← a1]
        conv => lhs; rw [iX6_tellAll_13]
        simp (disch := omega) only [iX6_tellAll_14, iX6_tellAll_17, iX6_tellAll_20, iX6_tellAll_21, iX6_tellAll_24, iX6_tellAll_27, iX6_tellAll_30, iX6_tellAll_31, iX6_tellAll_34, iX6_tellAll_37, iX6_tellAll_39, iX6_tellAll_40, iX6_tellAll_43, iX6_tellAll_44, iX6_tellAll_47, iX6_tellAll_50, true_or, or_true, Option.bind_some, Option.bind_none, kk_hp, kn_hp, el_i, el_b, el_z, am_cat_nil, am_cat_i, am_cat_r, am_cat_l, am_cat_n, gd_i, gd_r, gd_n, gd_u, List.length_cons, List.length_nil, true_and, and_true, ↓reduceIte, Nat.zero_le, Nat.reduceLeDiff, Nat.reduceAdd, e_10, e_01, e_00, e_11, Int32.reduceLE, Int32.reduceLT, Int32.reduceAdd, Int32.reduceSub, b01, if_true, if_false, ite_self, rc_12, gf_12_0, gf_12_1, gf_12_2, pf_12_2, gf_12_3, pf_12_3, gf_12_4, pf_12_4, gf_12_5, pf_12_5, gf_12_6, pf_12_6, gf_12_7, pf_12_7, rc_13, gf_13_0, gf_13_1, pf_13_1, gf_13_2, pf_13_2, gf_13_3, pf_13_3, gf_13_4, pf_13_4, gf_13_5, pf_13_5, nl_add, nl_add', nl_mul, nI_add, in_t, cl_n, le_nn, lt_nn, le_ln, le_nl, lt_nl, lt_ln, eq_nn, eq_nl, in_lit, cl_lit, Nat.le_refl, Nat.add_zero, l3, k2n, y1, z1]
      · obtain ⟨Mr1, w1, w2, w3, w4, w5, w6⟩ := y5 Mr q1 q2 q3 q4
        obtain ⟨f0, k9⟩ := q2.2.2.2.1 hk4
        have k9n : ¬ Mr 82 9 = 0 := by rw [k9]; exact fun z => hk0 (nI_inj (by omega) (by decide) z)
        obtain ⟨Mr2, u, c1, c2, c3⟩ := a4 Mr1 w3 w4 w5 w6
        refine ⟨Mr2, u, ?_, rX_t w2 c2, c3⟩
        rw [← c1]
        conv => lhs; rw [iX9_text_20]
        simp (disch := omega) only [iX9_text_21, iX9_text_24, iX9_text_27, iX9_text_28, iX9_text_31, iX9_text_34, iX9_text_35, iX9_text_38, iX9_text_41, true_or, or_true, Option.bind_some, Option.bind_none, kk_hp, kn_hp, el_i, el_b, el_z, am_cat_nil, am_cat_i, am_cat_r, am_cat_l, am_cat_n, gd_i, gd_r, gd_n, gd_u, List.length_cons, List.length_nil, true_and, and_true, ↓reduceIte, Nat.zero_le, Nat.reduceLeDiff, Nat.reduceAdd, e_10, e_01, e_00, e_11, Int32.reduceLE, Int32.reduceLT, Int32.reduceAdd, Int32.reduceSub, b01, if_true, if_false, ite_self, rc_82, gf_82_0, gf_82_1, gf_82_2, gf_82_3, gf_82_4, gf_82_5, gf_82_6, pf_82_6, gf_82_7, pf_82_7, gf_82_8, pf_82_8, gf_82_9, pf_82_9, gf_82_10, pf_82_10, gf_82_11, pf_82_11, gf_82_12, pf_82_12, gf_82_13, gf_82_14, gf_82_15, gf_82_16, pf_82_16, gf_82_17, gf_82_18, gf_82_19, gf_82_20, gf_82_21, gf_82_22, gf_82_23, gf_82_24, gf_82_25, pf_82_25, ga_83, wi_83, ga_84, wi_84, ga_85, wb_85, ga_86, wi_86, ga_87, wb_87, ga_88, wi_88, ga_89, wi_89, ga_90, wi_90, ga_91, wi_91, ga_92, wi_92, ga_93, wi_93, ga_94, wi_94, ga_95, wi_95, ga_96, wb_96, ga_97, wi_97, ga_98, wi_98, ga_99, wi_99, nl_add, nl_add', nl_mul, nI_add, in_t, cl_n, le_nn, lt_nn, le_ln, le_nl, lt_nl, lt_ln, eq_nn, eq_nl, in_lit, cl_lit, Nat.le_refl, Nat.add_zero, f0, k9n, w1]
end S995
