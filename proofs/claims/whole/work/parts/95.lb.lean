/-! lines: gap, and the names of lines -/
section S95
variable {X : am_X} {M : Nat → Nat → Int32}
theorem Lgap {n q : Nat} {b : Nat → Nat} {d : Nat → Int32} {td : Nat → Bool} (ht : TP M n b) (h5 : M 13 5 = nI q) (hq : q ≤ n) (hR : RG M 15 d) (hd : dW d) (htd : tdC M td) (h0 : td 1 = false) :
    ∃ r v M', am_ev X kX6_takeGap 0 [.ref 12] [] (hp M) = some (some (.int v), hp M') ∧ cX M M' ∧ lnC M M' n b q (tdS td 1) v r ∧
      ∀ Mr u, TQ Mr n b → TK Mr n b q → Mr 86 = d → tdM Mr (tdS td 1) → ∃ Mr1 Mr', am_ev X kX9_readLineOf 0 [.ref 82, .int 1] [] (hp Mr) = some (none, hp Mr1) ∧ am_ev X kX9_readLine 107 [.ref 82, .int u] [] (hp Mr1) = some (none, hp Mr') ∧ rX Mr Mr' ∧ lnM Mr' n b (tdS td 1) r := by
  have t0 : M 12 5 = 0 := by have := htd 1 (by decide); rw [h0] at this; exact this
  have htd' : ∀ K : Nat → Nat → Int32, K 12 = (up M 12 5 1) 12 → tdC K (tdS td 1) := fun K hK k hk => by
    rw [hK, up_s]
    unfold tdS
    by_cases hkk : k = 1
    · subst hkk; rw [decide_eq_true rfl, Bool.or_true, pk_us]; rfl
    · rw [decide_eq_false hkk, Bool.or_false, pk_un (by omega)]; exact htd k hk
  obtain ⟨g1, g2⟩ := @tB_ge n q b hq
  obtain ⟨g3, g4⟩ := @tB_ge n (tB n b q) b g2
  obtain ⟨g5, g6⟩ := @tB_ge n (tB n b (tB n b q)) b g4
  obtain ⟨K1, e1, c1, p1, k1, n1, s1⟩ := @C_takeNumber X (up M 12 5 1) n q b 0 20 ht h5 hq
  cases hO : nO n b q 0 20 with
  | some c =>
    rw [hO, if_neg (by simp)] at e1
    refine ⟨.inr (c, tS n b q), 0, K1, ?_, fun a i1 i2 i3 => by rw [c1 a i1 i2, up_n _ _ _ i1], ⟨rfl, s1 c hO, nO_p hO⟩, fun Mr u q1 q2 q3 q4 => ?_⟩
    · simp (disch := omega) only [iX6_takeGap_0, iX6_takeGap_1, iX6_takeGap_4, iX6_takeGap_7, iX6_takeGap_8, iX6_takeGap_9, iX6_takeGap_12, iX6_takeGap_13, iX6_takeGap_14, iX6_takeGap_15, iX6_takeGap_18, iX6_takeGap_19, iX6_takeGap_20, iX6_takeGap_22, iX6_takeGap_25, iX6_takeGap_28, iX6_takeGap_29, iX6_takeGap_30, iX6_takeGap_31, iX6_takeGap_34, iX6_takeGap_35, iX6_takeGap_38, iX6_takeGap_41, iX6_takeGap_44, iX6_takeGap_45, iX6_takeGap_46, iX6_takeGap_48, iX6_takeGap_51, iX6_takeGap_54, iX6_takeGap_55, iX6_takeGap_56, iX6_takeGap_57, iX6_takeGap_60, iX6_takeGap_61, iX6_takeGap_64, iX6_takeGap_67, iX6_takeGap_70, iX6_takeGap_71, iX6_takeGap_74, true_or, or_true, Option.bind_some, Option.bind_none, kk_hp, kn_hp, el_i, el_b, el_z, am_cat_nil, am_cat_i, am_cat_r, am_cat_l, am_cat_n, gd_i, gd_r, gd_n, gd_u, List.length_cons, List.length_nil, true_and, and_true, ↓reduceIte, Nat.zero_le, Nat.reduceLeDiff, Nat.reduceAdd, e_10, e_01, e_00, e_11, Int32.reduceLE, Int32.reduceLT, Int32.reduceAdd, Int32.reduceSub, b01, if_true, if_false, ite_self, rc_12, gf_12_0, gf_12_1, gf_12_2, pf_12_2, gf_12_3, pf_12_3, gf_12_4, pf_12_4, gf_12_5, pf_12_5, gf_12_6, pf_12_6, gf_12_7, pf_12_7, rc_13, gf_13_0, gf_13_1, pf_13_1, gf_13_2, pf_13_2, gf_13_3, pf_13_3, gf_13_4, pf_13_4, gf_13_5, pf_13_5, t0, e1]
    · obtain ⟨R1, r1, r2, r3, r4⟩ := @M_readNumber X Mr n q b 0 20 q1 q2 hq
      rw [hO, if_neg (by simp)] at r1
      have hf := r4 c hO
      have hpos : 0 < R1 82 11 := by rw [hf.1]; exact nO_p hO
      have rf := @M_readNumberF X (up R1 86 1 0) 0 20 hpos
      refine ⟨up (up R1 86 1 0) 86 2 0, up (up R1 86 1 0) 86 2 0, ?_, M_tailF hpos, rX_t (rX_t (rX_S r2) rX_u) rX_u, hf⟩
      simp (disch := omega) only [iX9_readLineOf_0, iX9_readLineOf_1, iX9_readLineOf_43, iX9_readLineOf_44, iX9_readLineOf_47, iX9_readLineOf_48, iX9_readLineOf_49, iX9_readLineOf_50, iX9_readLineOf_52, iX9_readLineOf_55, iX9_readLineOf_56, iX9_readLineOf_57, iX9_readLineOf_60, iX9_readLineOf_61, iX9_readLineOf_62, iX9_readLineOf_63, iX9_readLineOf_65, iX9_readLineOf_68, iX9_readLineOf_69, iX9_readLineOf_116, true_or, or_true, Option.bind_some, Option.bind_none, kk_hp, kn_hp, el_i, el_b, el_z, am_cat_nil, am_cat_i, am_cat_r, am_cat_l, am_cat_n, gd_i, gd_r, gd_n, gd_u, List.length_cons, List.length_nil, true_and, and_true, ↓reduceIte, Nat.zero_le, Nat.reduceLeDiff, Nat.reduceAdd, e_10, e_01, e_00, e_11, Int32.reduceLE, Int32.reduceLT, Int32.reduceAdd, Int32.reduceSub, b01, if_true, if_false, ite_self, rc_82, gf_82_0, gf_82_1, gf_82_2, gf_82_3, gf_82_4, gf_82_5, gf_82_6, pf_82_6, gf_82_7, pf_82_7, gf_82_8, pf_82_8, gf_82_9, pf_82_9, gf_82_10, pf_82_10, gf_82_11, pf_82_11, gf_82_12, pf_82_12, gf_82_13, gf_82_14, gf_82_15, gf_82_16, pf_82_16, gf_82_17, gf_82_18, gf_82_19, gf_82_20, gf_82_21, gf_82_22, gf_82_23, gf_82_24, gf_82_25, pf_82_25, ga_83, wi_83, ga_84, wi_84, ga_85, wb_85, ga_86, wi_86, ga_87, wb_87, ga_88, wi_88, ga_89, wi_89, ga_90, wi_90, ga_91, wi_91, ga_92, wi_92, ga_93, wi_93, ga_94, wi_94, ga_95, wi_95, ga_96, wb_96, ga_97, wi_97, ga_98, wi_98, ga_99, wi_99, nl_add, nl_add', nl_mul, nI_add, in_t, cl_n, le_nn, lt_nn, le_ln, le_nl, lt_nl, lt_ln, eq_nn, eq_nl, in_lit, cl_lit, Nat.le_refl, Nat.add_zero, eq_ll, Nat.reduceEqDiff, r1, rf]
  | none =>
    rw [hO, if_pos rfl] at e1
    obtain ⟨hk2, hlo, hhi⟩ := nO_n hO
    have kv := k1.2.2.2 hk2
    have hRK : RG K1 15 d := RG_fa (fun k hk => by rw [c1 _ (by omega) (by omega), up_n _ _ _ (by omega)]) hR
    obtain ⟨K2, e2, c2, p2, k2, n2, s2⟩ := @C_takeNumber X (up K1 15 3 (tV n b q)) n (tB n b q) b 0 20 p1 k1.2.2.1 g2
    cases hO2 : nO n b (tB n b q) 0 20 with
    | some c =>
      rw [hO2, if_neg (by simp)] at e2
      refine ⟨.inr (c, tS n b (tB n b q)), 0, K2, ?_, fun a i1 i2 i3 => by rw [c2 a i1 i2, up_n _ _ _ (by omega), c1 a i1 i2, up_n _ _ _ i1], ⟨rfl, s2 c hO2, nO_p hO2⟩, fun Mr u q1 q2 q3 q4 => ?_⟩
      · simp (disch := omega) only [iX6_takeGap_0, iX6_takeGap_1, iX6_takeGap_4, iX6_takeGap_7, iX6_takeGap_8, iX6_takeGap_9, iX6_takeGap_12, iX6_takeGap_13, iX6_takeGap_14, iX6_takeGap_15, iX6_takeGap_18, iX6_takeGap_19, iX6_takeGap_20, iX6_takeGap_22, iX6_takeGap_25, iX6_takeGap_28, iX6_takeGap_29, iX6_takeGap_30, iX6_takeGap_31, iX6_takeGap_34, iX6_takeGap_35, iX6_takeGap_38, iX6_takeGap_41, iX6_takeGap_44, iX6_takeGap_45, iX6_takeGap_46, iX6_takeGap_48, iX6_takeGap_51, iX6_takeGap_54, iX6_takeGap_55, iX6_takeGap_56, iX6_takeGap_57, iX6_takeGap_60, iX6_takeGap_61, iX6_takeGap_64, iX6_takeGap_67, iX6_takeGap_70, iX6_takeGap_71, iX6_takeGap_74, true_or, or_true, Option.bind_some, Option.bind_none, kk_hp, kn_hp, el_i, el_b, el_z, am_cat_nil, am_cat_i, am_cat_r, am_cat_l, am_cat_n, gd_i, gd_r, gd_n, gd_u, List.length_cons, List.length_nil, true_and, and_true, ↓reduceIte, Nat.zero_le, Nat.reduceLeDiff, Nat.reduceAdd, e_10, e_01, e_00, e_11, Int32.reduceLE, Int32.reduceLT, Int32.reduceAdd, Int32.reduceSub, b01, if_true, if_false, ite_self, rc_12, gf_12_0, gf_12_1, gf_12_2, pf_12_2, gf_12_3, pf_12_3, gf_12_4, pf_12_4, gf_12_5, pf_12_5, gf_12_6, pf_12_6, gf_12_7, pf_12_7, rc_13, gf_13_0, gf_13_1, pf_13_1, gf_13_2, pf_13_2, gf_13_3, pf_13_3, gf_13_4, pf_13_4, gf_13_5, pf_13_5, rc_15, gf_15_0, pf_15_0, gf_15_1, gf_15_2, gf_15_3, pf_15_3, gf_15_4, pf_15_4, gf_15_5, pf_15_5, gf_15_6, pf_15_6, gf_15_7, pf_15_7, gf_15_8, gf_15_9, t0, e1, kv, e2]
      · obtain ⟨R1, r1, r2, r3, r4⟩ := @M_readNumber X Mr n q b 0 20 q1 q2 hq
        rw [hO, if_pos rfl] at r1
        obtain ⟨R2, w1, w2, w3, w4⟩ := @M_readNumber X (up R1 86 1 (tV n b q)) n (tB n b q) b 0 20 (TQ_fr (TQ_S q1 r2) rfl rfl) (TK_u (r3 hO) rfl) g2
        rw [hO2, if_neg (by simp)] at w1
        have hf := w4 c hO2
        have hpos : 0 < R2 82 11 := by rw [hf.1]; exact nO_p hO2
        refine ⟨up R2 86 2 0, up R2 86 2 0, ?_, M_tailF hpos, rX_t (rX_t (rX_t (rX_S r2) rX_u) (rX_S w2)) rX_u, hf⟩
        simp (disch := omega) only [iX9_readLineOf_0, iX9_readLineOf_1, iX9_readLineOf_43, iX9_readLineOf_44, iX9_readLineOf_47, iX9_readLineOf_48, iX9_readLineOf_49, iX9_readLineOf_50, iX9_readLineOf_52, iX9_readLineOf_55, iX9_readLineOf_56, iX9_readLineOf_57, iX9_readLineOf_60, iX9_readLineOf_61, iX9_readLineOf_62, iX9_readLineOf_63, iX9_readLineOf_65, iX9_readLineOf_68, iX9_readLineOf_69, iX9_readLineOf_116, true_or, or_true, Option.bind_some, Option.bind_none, kk_hp, kn_hp, el_i, el_b, el_z, am_cat_nil, am_cat_i, am_cat_r, am_cat_l, am_cat_n, gd_i, gd_r, gd_n, gd_u, List.length_cons, List.length_nil, true_and, and_true, ↓reduceIte, Nat.zero_le, Nat.reduceLeDiff, Nat.reduceAdd, e_10, e_01, e_00, e_11, Int32.reduceLE, Int32.reduceLT, Int32.reduceAdd, Int32.reduceSub, b01, if_true, if_false, ite_self, rc_82, gf_82_0, gf_82_1, gf_82_2, gf_82_3, gf_82_4, gf_82_5, gf_82_6, pf_82_6, gf_82_7, pf_82_7, gf_82_8, pf_82_8, gf_82_9, pf_82_9, gf_82_10, pf_82_10, gf_82_11, pf_82_11, gf_82_12, pf_82_12, gf_82_13, gf_82_14, gf_82_15, gf_82_16, pf_82_16, gf_82_17, gf_82_18, gf_82_19, gf_82_20, gf_82_21, gf_82_22, gf_82_23, gf_82_24, gf_82_25, pf_82_25, ga_83, wi_83, ga_84, wi_84, ga_85, wb_85, ga_86, wi_86, ga_87, wb_87, ga_88, wi_88, ga_89, wi_89, ga_90, wi_90, ga_91, wi_91, ga_92, wi_92, ga_93, wi_93, ga_94, wi_94, ga_95, wi_95, ga_96, wb_96, ga_97, wi_97, ga_98, wi_98, ga_99, wi_99, nl_add, nl_add', nl_mul, nI_add, in_t, cl_n, le_nn, lt_nn, le_ln, le_nl, lt_nl, lt_ln, eq_nn, eq_nl, in_lit, cl_lit, Nat.le_refl, Nat.add_zero, eq_ll, Nat.reduceEqDiff, r1, w1]
    | none =>
      rw [hO2, if_pos rfl] at e2
      obtain ⟨hk22, -, -⟩ := nO_n hO2
      have kv2 := k2.2.2.2 hk22
      have hR1 : RG (up K1 15 3 (tV n b q)) 15 (upd d 1 (tV n b q)) := by
        have r := hRK.1
        exact RG_sc hRK (fun k i1 i2 => up_n _ _ _ (by omega)) (fun j hj => pk_un (by omega)) (Nat.le_refl _) (Nat.le_refl _) ⟨r.1, rfl, r.2.2.1, r.2.2.2.1, r.2.2.2.2.1, r.2.2.2.2.2⟩ hd.1.2
      have hd1 : dW (upd d 1 (tV n b q)) := dW_ext hd (fun j hj => pk_un (by omega))
      have hR2 : RG (up K2 15 4 (tV n b (tB n b q))) 15 (upd (upd d 1 (tV n b q)) 2 (tV n b (tB n b q))) := by
        have hRK2 : RG K2 15 (upd d 1 (tV n b q)) := RG_fa (fun k hk => c2 _ (by omega) (by omega)) hR1
        have r := hRK2.1
        exact RG_sc hRK2 (fun k i1 i2 => up_n _ _ _ (by omega)) (fun j hj => pk_un (by omega)) (Nat.le_refl _) (Nat.le_refl _) ⟨r.1, r.2.1, rfl, r.2.2.2.1, r.2.2.2.2.1, r.2.2.2.2.2⟩ hd1.1.2
      have hd2 : dW (upd (upd d 1 (tV n b q)) 2 (tV n b (tB n b q))) := dW_ext hd1 (fun j hj => pk_un (by omega))
      obtain ⟨K3, e3, c3, p3, k3, n3, s3⟩ := @C_takeSemicolon X (up K2 15 4 (tV n b (tB n b q))) n (tB n b (tB n b q)) b p2 k2.2.2.1 g4
      have fX : cX M K3 := fun a i1 i2 i3 => by rw [c3 a i1 i2, up_n _ _ _ (by omega), c2 a i1 i2, up_n _ _ _ (by omega), c1 a i1 i2, up_n _ _ _ i1]
      have ref : ∀ Mr : Nat → Nat → Int32, ∀ u, TQ Mr n b → TK Mr n b q → ∃ R2 R3, am_ev X kX9_readLineOf 0 [.ref 82, .int 1] [] (hp Mr) = some (none, hp (up R2 86 2 (tV n b (tB n b q)))) ∧ am_ev X kX9_readLine 107 [.ref 82, .int u] [] (hp (up R2 86 2 (tV n b (tB n b q)))) = some (none, hp R3) ∧ rX Mr R3 ∧ rS (up R2 86 2 (tV n b (tB n b q))) R3 ∧ TQ (up R2 86 2 (tV n b (tB n b q))) n b ∧ R2 86 = upd (Mr 86) 1 (tV n b q) ∧ R2 87 = Mr 87 ∧ (sO n b (tB n b (tB n b q)) = none → TK R3 n b (tB n b (tB n b (tB n b q)))) ∧ ∀ c, sO n b (tB n b (tB n b q)) = some c → rF R3 c (tS n b (tB n b (tB n b q))) := by
        intro Mr u q1 q2
        obtain ⟨R1, r1, r2, r3, r4⟩ := @M_readNumber X Mr n q b 0 20 q1 q2 hq
        rw [hO, if_pos rfl] at r1
        obtain ⟨R2, w1, w2, w3, w4⟩ := @M_readNumber X (up R1 86 1 (tV n b q)) n (tB n b q) b 0 20 (TQ_fr (TQ_S q1 r2) rfl rfl) (TK_u (r3 hO) rfl) g2
        rw [hO2, if_pos rfl] at w1
        have tq2 : TQ R2 n b := TQ_S (M := up R1 86 1 (tV n b q)) (TQ_fr (TQ_S q1 r2) rfl rfl) w2
        obtain ⟨R3, x1, x2, x3, x4⟩ := @M_tail X (up R2 86 2 (tV n b (tB n b q))) n (tB n b (tB n b q)) b u (TQ_fr tq2 rfl rfl) (TK_u (w3 hO2) rfl) g4
        refine ⟨R2, R3, ?_, x1, rX_t (rX_t (rX_t (rX_t (rX_S r2) rX_u) (rX_S w2)) rX_u) (rX_S x2), x2, TQ_fr tq2 rfl rfl, ?_, ?_, x3, x4⟩
        · simp (disch := omega) only [iX9_readLineOf_0, iX9_readLineOf_1, iX9_readLineOf_43, iX9_readLineOf_44, iX9_readLineOf_47, iX9_readLineOf_48, iX9_readLineOf_49, iX9_readLineOf_50, iX9_readLineOf_52, iX9_readLineOf_55, iX9_readLineOf_56, iX9_readLineOf_57, iX9_readLineOf_60, iX9_readLineOf_61, iX9_readLineOf_62, iX9_readLineOf_63, iX9_readLineOf_65, iX9_readLineOf_68, iX9_readLineOf_69, iX9_readLineOf_116, true_or, or_true, Option.bind_some, Option.bind_none, kk_hp, kn_hp, el_i, el_b, el_z, am_cat_nil, am_cat_i, am_cat_r, am_cat_l, am_cat_n, gd_i, gd_r, gd_n, gd_u, List.length_cons, List.length_nil, true_and, and_true, ↓reduceIte, Nat.zero_le, Nat.reduceLeDiff, Nat.reduceAdd, e_10, e_01, e_00, e_11, Int32.reduceLE, Int32.reduceLT, Int32.reduceAdd, Int32.reduceSub, b01, if_true, if_false, ite_self, rc_82, gf_82_0, gf_82_1, gf_82_2, gf_82_3, gf_82_4, gf_82_5, gf_82_6, pf_82_6, gf_82_7, pf_82_7, gf_82_8, pf_82_8, gf_82_9, pf_82_9, gf_82_10, pf_82_10, gf_82_11, pf_82_11, gf_82_12, pf_82_12, gf_82_13, gf_82_14, gf_82_15, gf_82_16, pf_82_16, gf_82_17, gf_82_18, gf_82_19, gf_82_20, gf_82_21, gf_82_22, gf_82_23, gf_82_24, gf_82_25, pf_82_25, ga_83, wi_83, ga_84, wi_84, ga_85, wb_85, ga_86, wi_86, ga_87, wb_87, ga_88, wi_88, ga_89, wi_89, ga_90, wi_90, ga_91, wi_91, ga_92, wi_92, ga_93, wi_93, ga_94, wi_94, ga_95, wi_95, ga_96, wb_96, ga_97, wi_97, ga_98, wi_98, ga_99, wi_99, nl_add, nl_add', nl_mul, nI_add, in_t, cl_n, le_nn, lt_nn, le_ln, le_nl, lt_nl, lt_ln, eq_nn, eq_nl, in_lit, cl_lit, Nat.le_refl, Nat.add_zero, eq_ll, Nat.reduceEqDiff, r1, w1]
        · rw [w2.1 86 (by decide), up_s, r2.1 86 (by decide)]
        · rw [w2.1 87 (by decide)]
          show R1 87 = _
          rw [r2.1 87 (by decide)]
      cases hS : sO n b (tB n b (tB n b q)) with
      | some c =>
        rw [hS, if_neg (by simp)] at e3
        refine ⟨.inr (c, tS n b (tB n b (tB n b q))), 0, K3, ?_, fX, ⟨rfl, s3 c hS, sO_p hS⟩, fun Mr u q1 q2 q3 q4 => ?_⟩
        · simp (disch := omega) only [iX6_takeGap_0, iX6_takeGap_1, iX6_takeGap_4, iX6_takeGap_7, iX6_takeGap_8, iX6_takeGap_9, iX6_takeGap_12, iX6_takeGap_13, iX6_takeGap_14, iX6_takeGap_15, iX6_takeGap_18, iX6_takeGap_19, iX6_takeGap_20, iX6_takeGap_22, iX6_takeGap_25, iX6_takeGap_28, iX6_takeGap_29, iX6_takeGap_30, iX6_takeGap_31, iX6_takeGap_34, iX6_takeGap_35, iX6_takeGap_38, iX6_takeGap_41, iX6_takeGap_44, iX6_takeGap_45, iX6_takeGap_46, iX6_takeGap_48, iX6_takeGap_51, iX6_takeGap_54, iX6_takeGap_55, iX6_takeGap_56, iX6_takeGap_57, iX6_takeGap_60, iX6_takeGap_61, iX6_takeGap_64, iX6_takeGap_67, iX6_takeGap_70, iX6_takeGap_71, iX6_takeGap_74, true_or, or_true, Option.bind_some, Option.bind_none, kk_hp, kn_hp, el_i, el_b, el_z, am_cat_nil, am_cat_i, am_cat_r, am_cat_l, am_cat_n, gd_i, gd_r, gd_n, gd_u, List.length_cons, List.length_nil, true_and, and_true, ↓reduceIte, Nat.zero_le, Nat.reduceLeDiff, Nat.reduceAdd, e_10, e_01, e_00, e_11, Int32.reduceLE, Int32.reduceLT, Int32.reduceAdd, Int32.reduceSub, b01, if_true, if_false, ite_self, rc_12, gf_12_0, gf_12_1, gf_12_2, pf_12_2, gf_12_3, pf_12_3, gf_12_4, pf_12_4, gf_12_5, pf_12_5, gf_12_6, pf_12_6, gf_12_7, pf_12_7, rc_13, gf_13_0, gf_13_1, pf_13_1, gf_13_2, pf_13_2, gf_13_3, pf_13_3, gf_13_4, pf_13_4, gf_13_5, pf_13_5, rc_15, gf_15_0, pf_15_0, gf_15_1, gf_15_2, gf_15_3, pf_15_3, gf_15_4, pf_15_4, gf_15_5, pf_15_5, gf_15_6, pf_15_6, gf_15_7, pf_15_7, gf_15_8, gf_15_9, t0, e1, kv, e2, kv2, e3]
        · obtain ⟨R2, R3, y1, y2, y3, y4, y5, y6, y7, y8, y9⟩ := ref Mr u q1 q2
          exact ⟨_, R3, y1, y2, y3, y9 c hS⟩
      | none =>
        rw [hS, if_pos rfl] at e3
        have h3 := tB_3 g4 (sO_n hS)
        refine ⟨.inl (tB n b (tB n b (tB n b q)), upd (upd d 1 (tV n b q)) 2 (tV n b (tB n b q))), 1, K3, ?_, fX, ⟨rfl, p3, k3.2.2.1, by omega, g6, RG_fa (fun k hk => c3 _ (by omega) (by omega)) hR2, hd2, htd' K3 ((n3 hS).trans ((n2 hO2).trans (n1 hO))), by rw [n3 hS]; show K2 12 2 = _; rw [n2 hO2]; show K1 12 2 = _; rw [n1 hO]; rfl, Or.inl (by rw [c3 15 (by decide) (by decide), up_s, pk_un (by decide), c2 15 (by decide) (by decide), up_s, pk_un (by decide), c1 15 (by decide) (by decide)]; rfl)⟩, fun Mr u q1 q2 q3 q4 => ?_⟩
        · simp (disch := omega) only [iX6_takeGap_0, iX6_takeGap_1, iX6_takeGap_4, iX6_takeGap_7, iX6_takeGap_8, iX6_takeGap_9, iX6_takeGap_12, iX6_takeGap_13, iX6_takeGap_14, iX6_takeGap_15, iX6_takeGap_18, iX6_takeGap_19, iX6_takeGap_20, iX6_takeGap_22, iX6_takeGap_25, iX6_takeGap_28, iX6_takeGap_29, iX6_takeGap_30, iX6_takeGap_31, iX6_takeGap_34, iX6_takeGap_35, iX6_takeGap_38, iX6_takeGap_41, iX6_takeGap_44, iX6_takeGap_45, iX6_takeGap_46, iX6_takeGap_48, iX6_takeGap_51, iX6_takeGap_54, iX6_takeGap_55, iX6_takeGap_56, iX6_takeGap_57, iX6_takeGap_60, iX6_takeGap_61, iX6_takeGap_64, iX6_takeGap_67, iX6_takeGap_70, iX6_takeGap_71, iX6_takeGap_74, true_or, or_true, Option.bind_some, Option.bind_none, kk_hp, kn_hp, el_i, el_b, el_z, am_cat_nil, am_cat_i, am_cat_r, am_cat_l, am_cat_n, gd_i, gd_r, gd_n, gd_u, List.length_cons, List.length_nil, true_and, and_true, ↓reduceIte, Nat.zero_le, Nat.reduceLeDiff, Nat.reduceAdd, e_10, e_01, e_00, e_11, Int32.reduceLE, Int32.reduceLT, Int32.reduceAdd, Int32.reduceSub, b01, if_true, if_false, ite_self, rc_12, gf_12_0, gf_12_1, gf_12_2, pf_12_2, gf_12_3, pf_12_3, gf_12_4, pf_12_4, gf_12_5, pf_12_5, gf_12_6, pf_12_6, gf_12_7, pf_12_7, rc_13, gf_13_0, gf_13_1, pf_13_1, gf_13_2, pf_13_2, gf_13_3, pf_13_3, gf_13_4, pf_13_4, gf_13_5, pf_13_5, rc_15, gf_15_0, pf_15_0, gf_15_1, gf_15_2, gf_15_3, pf_15_3, gf_15_4, pf_15_4, gf_15_5, pf_15_5, gf_15_6, pf_15_6, gf_15_7, pf_15_7, gf_15_8, gf_15_9, t0, e1, kv, e2, kv2, e3]
        · obtain ⟨R2, R3, y1, y2, y3, y4, y5, y6, y7, y8, y9⟩ := ref Mr u q1 q2
          refine ⟨_, R3, y1, y2, y3, TQ_S y5 y4, y8 hS, ?_, fun k hk => ?_⟩
          · rw [y4.1 86 (by decide), up_s, y6, q3]
          · rw [y4.1 87 (by decide)]
            show R2 87 k = _
            rw [y7]; exact q4 k hk
theorem Lline {n q : Nat} {b : Nat → Nat} {d : Nat → Int32} {td : Nat → Bool} (ht : TP M n b) (h5 : M 13 5 = nI q) (hq : q ≤ n) (hR : RG M 15 d) (hd : dW d) (htd : tdC M td) :
    ∃ r v M', am_ev X kX6_takeNamedLine 0 [.ref 12, am_u] [] (hp M) = some (some (.int v), hp M') ∧ cX M M' ∧ lnC M M' n b q td v r ∧
      ∀ Mr u, TQ Mr n b → TK Mr n b q → Mr 86 = d → tdM Mr td → ∃ Mr1 Mr', am_ev X kX9_readLineOf 0 [.ref 82, .int 4] [] (hp Mr) = some (none, hp Mr1) ∧ am_ev X kX9_readLine 107 [.ref 82, .int u] [] (hp Mr1) = some (none, hp Mr') ∧ rX Mr Mr' ∧ lnM Mr' n b td r := by
  obtain ⟨g1, g2⟩ := @tB_ge n q b hq
  obtain ⟨g3, g4⟩ := @tB_ge n (tB n b q) b g2
  obtain ⟨g5, g6⟩ := @tB_ge n (tB n b (tB n b q)) b g4
  obtain ⟨b1, b2, b3, b4⟩ := @tB_p n q b hq
  have hn := ht.1
  obtain ⟨K, a1, a2, a3, a4, a5, a6, a7⟩ := @C_advance X M n q b ht h5 hq
  have tK' : TP K n b := TP_S ht a3 (a2 14 (by decide))
  have ck : CK K n b q := ⟨a4, a5, a6, a7⟩
  have hRK : RG K 15 d := RG_fa (fun k hk => a2 _ (by omega)) hR
  obtain ⟨cl1, cl2⟩ := @C_letter X K n q b tK' ck hq
  have rn : ∀ Mr : Nat → Nat → Int32, TQ Mr n b → 0 < Mr 82 11 → Mr 82 8 = nI (tS n b q) → am_ev X kX9_readLineOf 0 [.ref 82, .int 4] [] (hp Mr) = some (none, hp Mr) := by
    intro Mr q1 hpos h8
    have hz : ¬ Mr 82 11 = 0 := fun z => by rw [z] at hpos; exact absurd hpos (by decide)
    have e1 := @M_lineNowF X Mr n (tS n b q) b q1 h8 (by omega) hz
    have e2 := @M_readsF X Mr hpos
    have e3 := @M_readNumberF X Mr 0 6 hpos
    simp (disch := omega) only [iX9_readLineOf_0, iX9_readLineOf_1, iX9_readLineOf_105, iX9_readLineOf_106, iX9_readLineOf_109, iX9_readLineOf_116, iX9_readLineTold_0, iX9_readLineTold_1, iX9_readLineTold_4, iX9_readLineTold_5, iX9_readLineTold_6, iX9_readLineTold_9, iX9_readLineTold_12, iX9_readLineTold_13, iX9_readLineTold_14, iX9_readLineTold_17, iX9_readLineTold_19, iX9_readLineTold_20, iX9_readLineTold_21, iX9_readLineTold_22, iX9_readLineTold_24, iX9_readLineTold_27, iX9_readLineTold_28, iX9_readLineTold_31, iX9_readLineTold_32, iX9_readLineTold_33, iX9_readLineTold_36, iX9_readLineTold_37, iX9_readLineTold_40, iX9_readLineTold_41, iX9_readLineTold_42, iX9_readLineTold_44, iX9_readLineTold_47, iX9_readLineTold_48, iX9_readLineTold_49, iX9_readLineTold_52, iX9_readLineTold_55, iX9_readLineTold_56, iX9_readLineTold_59, iX9_readLineTold_61, iX9_readLineTold_62, iX9_readLineTold_63, iX9_readLineTold_64, iX9_readLineTold_65, true_or, or_true, Option.bind_some, Option.bind_none, kk_hp, kn_hp, el_i, el_b, el_z, am_cat_nil, am_cat_i, am_cat_r, am_cat_l, am_cat_n, gd_i, gd_r, gd_n, gd_u, List.length_cons, List.length_nil, true_and, and_true, ↓reduceIte, Nat.zero_le, Nat.reduceLeDiff, Nat.reduceAdd, e_10, e_01, e_00, e_11, Int32.reduceLE, Int32.reduceLT, Int32.reduceAdd, Int32.reduceSub, b01, if_true, if_false, ite_self, rc_82, gf_82_0, gf_82_1, gf_82_2, gf_82_3, gf_82_4, gf_82_5, gf_82_6, pf_82_6, gf_82_7, pf_82_7, gf_82_8, pf_82_8, gf_82_9, pf_82_9, gf_82_10, pf_82_10, gf_82_11, pf_82_11, gf_82_12, pf_82_12, gf_82_13, gf_82_14, gf_82_15, gf_82_16, pf_82_16, gf_82_17, gf_82_18, gf_82_19, gf_82_20, gf_82_21, gf_82_22, gf_82_23, gf_82_24, gf_82_25, pf_82_25, ga_83, wi_83, ga_84, wi_84, ga_85, wb_85, ga_86, wi_86, ga_87, wb_87, ga_88, wi_88, ga_89, wi_89, ga_90, wi_90, ga_91, wi_91, ga_92, wi_92, ga_93, wi_93, ga_94, wi_94, ga_95, wi_95, ga_96, wb_96, ga_97, wi_97, ga_98, wi_98, ga_99, wi_99, nl_add, nl_add', nl_mul, nI_add, in_t, cl_n, le_nn, lt_nn, le_ln, le_nl, lt_nl, lt_ln, eq_nn, eq_nl, in_lit, cl_lit, Nat.le_refl, Nat.add_zero, eq_ll, Nat.reduceEqDiff, e1, hz, e2, e3]
  by_cases hl : lt n b q
  · have hk1 := hl.1
    obtain ⟨l1, l2, l3⟩ := lt_97 hk1
    have hl3 := hl.2.2
    have h4 : tK n b q ≠ 4 := by omega
    have ev := cl1 hl
    generalize hv : b (tS n b q) - 97 = v at *
    have hv8 : v < 8 := by omega
    have ln : K 25 v = d (17 + v) := hRK.2.2.1 v hv8
    by_cases hz : d (17 + v) = -4
    · obtain ⟨K1, e1, c1, p1, k1, n1, s1⟩ := @C_takeNumber X K n (tB n b q) b 0 6 tK' a6 g2
      have lz : K 25 v = -4 := ln.trans hz
      cases hO : nO n b (tB n b q) 0 6 with
      | some c =>
        rw [hO, if_neg (by simp)] at e1
        refine ⟨.inr (c, tS n b (tB n b q)), 0, K1, ?_, fun a i1 i2 i3 => by rw [c1 a i1 i2, a2 a i2], ⟨rfl, s1 c hO, nO_p hO⟩, fun Mr u q1 q2 q3 q4 => ?_⟩
        · simp (disch := omega) only [iX6_takeNamedLine_0, iX6_takeNamedLine_1, iX6_takeNamedLine_4, iX6_takeNamedLine_7, iX6_takeNamedLine_8, iX6_takeNamedLine_11, iX6_takeNamedLine_14, iX6_takeNamedLine_15, iX6_takeNamedLine_16, iX6_takeNamedLine_18, iX6_takeNamedLine_21, iX6_takeNamedLine_22, iX6_takeNamedLine_25, iX6_takeNamedLine_26, iX6_takeNamedLine_27, iX6_takeNamedLine_30, iX6_takeNamedLine_33, iX6_takeNamedLine_34, iX6_takeNamedLine_35, iX6_takeNamedLine_37, iX6_takeNamedLine_40, iX6_takeNamedLine_41, iX6_takeNamedLine_42, iX6_takeNamedLine_45, iX6_takeNamedLine_46, iX6_takeNamedLine_47, iX6_takeNamedLine_48, iX6_takeNamedLine_50, iX6_takeNamedLine_53, iX6_takeNamedLine_56, iX6_takeNamedLine_57, iX6_takeNamedLine_58, iX6_takeNamedLine_59, iX6_takeNamedLine_62, iX6_takeNamedLine_65, iX6_takeNamedLine_66, iX6_takeNamedLine_67, iX6_takeNamedLine_70, iX6_takeNamedLine_73, iX6_takeNamedLine_74, iX6_takeNamedLine_75, iX6_takeNamedLine_78, true_or, or_true, Option.bind_some, Option.bind_none, kk_hp, kn_hp, el_i, el_b, el_z, am_cat_nil, am_cat_i, am_cat_r, am_cat_l, am_cat_n, gd_i, gd_r, gd_n, gd_u, List.length_cons, List.length_nil, true_and, and_true, ↓reduceIte, Nat.zero_le, Nat.reduceLeDiff, Nat.reduceAdd, e_10, e_01, e_00, e_11, Int32.reduceLE, Int32.reduceLT, Int32.reduceAdd, Int32.reduceSub, b01, if_true, if_false, ite_self, rc_12, gf_12_0, gf_12_1, gf_12_2, pf_12_2, gf_12_3, pf_12_3, gf_12_4, pf_12_4, gf_12_5, pf_12_5, gf_12_6, pf_12_6, gf_12_7, pf_12_7, rc_13, gf_13_0, gf_13_1, pf_13_1, gf_13_2, pf_13_2, gf_13_3, pf_13_3, gf_13_4, pf_13_4, gf_13_5, pf_13_5, rc_15, gf_15_0, pf_15_0, gf_15_1, gf_15_2, gf_15_3, pf_15_3, gf_15_4, pf_15_4, gf_15_5, pf_15_5, gf_15_6, pf_15_6, gf_15_7, pf_15_7, gf_15_8, gf_15_9, ga_25, wi_25, nl_add, nl_add', nl_mul, nI_add, in_t, cl_n, le_nn, lt_nn, le_ln, le_nl, lt_nl, lt_ln, eq_nn, eq_nl, in_lit, cl_lit, Nat.le_refl, Nat.add_zero, a1, ev, lz, e1, ne_m4]
        · have eN := (@M_lineNow X Mr n q b q1 q2 hq h4).1 hl
          rw [hv] at eN
          obtain ⟨k7, k8, -, kn, -⟩ := q2
          obtain ⟨k11, k9⟩ := kn h4
          obtain ⟨R0, y1, y2, y3, y4⟩ := @M_reads X Mr n (tB n b q) b q1 k7 g2 k11
          have hz86 : Mr 86 (17 + v) = -4 := by rw [q3]; exact hz
          obtain ⟨R1, r1, r2, r3, r4⟩ := @M_readNumber X R0 n (tB n b q) b 0 6 (TQ_S q1 ⟨y2, y3⟩) y4 g2
          rw [hO, if_neg (by simp)] at r1
          have hf := r4 c hO
          have hpos : 0 < R1 82 11 := by rw [hf.1]; exact nO_p hO
          have hnz : ¬ R1 82 11 = 0 := fun z => by rw [z] at hpos; exact absurd hpos (by decide)
          refine ⟨R1, R1, ?_, M_tailF hpos, rX_S (rS_t ⟨y2, y3⟩ r2), hf⟩
          simp (disch := omega) only [iX9_readLineOf_0, iX9_readLineOf_1, iX9_readLineOf_105, iX9_readLineOf_106, iX9_readLineOf_109, iX9_readLineOf_116, iX9_readLineTold_0, iX9_readLineTold_1, iX9_readLineTold_4, iX9_readLineTold_5, iX9_readLineTold_6, iX9_readLineTold_9, iX9_readLineTold_12, iX9_readLineTold_13, iX9_readLineTold_14, iX9_readLineTold_17, iX9_readLineTold_19, iX9_readLineTold_20, iX9_readLineTold_21, iX9_readLineTold_22, iX9_readLineTold_24, iX9_readLineTold_27, iX9_readLineTold_28, iX9_readLineTold_31, iX9_readLineTold_32, iX9_readLineTold_33, iX9_readLineTold_36, iX9_readLineTold_37, iX9_readLineTold_40, iX9_readLineTold_41, iX9_readLineTold_42, iX9_readLineTold_44, iX9_readLineTold_47, iX9_readLineTold_48, iX9_readLineTold_49, iX9_readLineTold_52, iX9_readLineTold_55, iX9_readLineTold_56, iX9_readLineTold_59, iX9_readLineTold_61, iX9_readLineTold_62, iX9_readLineTold_63, iX9_readLineTold_64, iX9_readLineTold_65, true_or, or_true, Option.bind_some, Option.bind_none, kk_hp, kn_hp, el_i, el_b, el_z, am_cat_nil, am_cat_i, am_cat_r, am_cat_l, am_cat_n, gd_i, gd_r, gd_n, gd_u, List.length_cons, List.length_nil, true_and, and_true, ↓reduceIte, Nat.zero_le, Nat.reduceLeDiff, Nat.reduceAdd, e_10, e_01, e_00, e_11, Int32.reduceLE, Int32.reduceLT, Int32.reduceAdd, Int32.reduceSub, b01, if_true, if_false, ite_self, rc_82, gf_82_0, gf_82_1, gf_82_2, gf_82_3, gf_82_4, gf_82_5, gf_82_6, pf_82_6, gf_82_7, pf_82_7, gf_82_8, pf_82_8, gf_82_9, pf_82_9, gf_82_10, pf_82_10, gf_82_11, pf_82_11, gf_82_12, pf_82_12, gf_82_13, gf_82_14, gf_82_15, gf_82_16, pf_82_16, gf_82_17, gf_82_18, gf_82_19, gf_82_20, gf_82_21, gf_82_22, gf_82_23, gf_82_24, gf_82_25, pf_82_25, ga_83, wi_83, ga_84, wi_84, ga_85, wb_85, ga_86, wi_86, ga_87, wb_87, ga_88, wi_88, ga_89, wi_89, ga_90, wi_90, ga_91, wi_91, ga_92, wi_92, ga_93, wi_93, ga_94, wi_94, ga_95, wi_95, ga_96, wb_96, ga_97, wi_97, ga_98, wi_98, ga_99, wi_99, nl_add, nl_add', nl_mul, nI_add, in_t, cl_n, le_nn, lt_nn, le_ln, le_nl, lt_nl, lt_ln, eq_nn, eq_nl, in_lit, cl_lit, Nat.le_refl, Nat.add_zero, eq_ll, Nat.reduceEqDiff, eN, k11, hz86, M_req1, y1, r1, hnz]
      | none =>
        rw [hO, if_pos rfl] at e1
        obtain ⟨hk2, hlo, hhi⟩ := nO_n hO
        have kv := k1.2.2.2 hk2
        obtain ⟨w, hw, ew⟩ := (btw0 (n := 6) (by decide)).mp ⟨hlo, hhi⟩
        have hR1 : RG (up K1 25 v (tV n b (tB n b q))) 15 (upd d (17 + v) (tV n b (tB n b q))) := by
          have hRK1 : RG K1 15 d := RG_fa (fun k hk => c1 _ (by omega) (by omega)) hRK
          obtain ⟨x1, x2, x3, x4⟩ := hRK1
          have hn6 := hd.1.2
          have en : nC (upd d (17 + v) (tV n b (tB n b q))) = nC d := by unfold nC; rw [pk_un (by omega)]
          have em : mI (upd d (17 + v) (tV n b (tB n b q))) = mI d := by unfold mI; rw [pk_un (by omega)]
          refine ⟨?_, fun c hc => ?_, fun y hy => ?_, fun i hi w hw => ?_⟩
          · rw [up_n _ _ _ (by decide), pk_un (by omega), pk_un (by omega), pk_un (by omega), pk_un (by omega), pk_un (by omega), pk_un (by omega)]
            exact x1
          · rw [en] at hc
            rw [up_n _ _ _ (by decide), up_n _ _ _ (by decide), pk_un (by omega), pk_un (by omega)]
            exact x2 c hc
          · show (up K1 25 v (tV n b (tB n b q))) 25 y = _
            rw [up_s]
            by_cases hyv : y = v
            · rw [hyv, pk_us, pk_us]
            · rw [pk_un hyv, pk_un (by omega)]; exact x3 y hy
          · rw [em] at hi
            rw [up_n _ _ _ (by omega), pk_un (by omega)]
            exact x4 i hi w hw
        have hd1 : dW (upd d (17 + v) (tV n b (tB n b q))) := by
          obtain ⟨h1, h2, h3, h4', h5'⟩ := hd
          have en : nC (upd d (17 + v) (tV n b (tB n b q))) = nC d := by unfold nC; rw [pk_un (by omega)]
          have em : mI (upd d (17 + v) (tV n b (tB n b q))) = mI d := by unfold mI; rw [pk_un (by omega)]
          refine ⟨by rw [pk_un (by omega), en]; exact h1, by rw [pk_un (by omega), em]; exact h2, fun i hi => dI_ext (h3 i (by omega)) (fun w _ => pk_un (by omega)), fun y hy => ?_, fun c hc => by rw [pk_un (by omega), pk_un (by omega)]; exact h5' c (by omega)⟩
          by_cases hyv : y = v
          · rw [hyv, pk_us]; exact Or.inr ⟨w, hw, ew⟩
          · rw [pk_un (by omega)]; exact h4' y hy
        obtain ⟨K2, e2, c2, p2, k2, n2, s2⟩ := @C_takeSemicolon X (up K1 25 v (tV n b (tB n b q))) n (tB n b (tB n b q)) b p1 k1.2.2.1 g4
        have fX : cX M K2 := fun a i1 i2 i3 => by rw [c2 a i1 i2, up_n _ _ _ (by omega), c1 a i1 i2, a2 a i2]
        have pre : ∀ Mr : Nat → Nat → Int32, TQ Mr n b → TK Mr n b q → Mr 86 = d → ∃ R1, rS Mr R1 ∧ TQ R1 n b ∧ TK R1 n b (tB n b (tB n b q)) ∧ am_ev X kX9_readLineOf 0 [.ref 82, .int 4] [] (hp Mr) = some (none, hp (if tK n b (tB n b (tB n b q)) = 4 then R1 else up R1 86 (17 + v) (tV n b (tB n b q)))) := by
          intro Mr q1 q2 q3
          have eN := (@M_lineNow X Mr n q b q1 q2 hq h4).1 hl
          rw [hv] at eN
          obtain ⟨k7, k8, -, kn, -⟩ := q2
          obtain ⟨k11, k9⟩ := kn h4
          obtain ⟨R0, y1, y2, y3, y4⟩ := @M_reads X Mr n (tB n b q) b q1 k7 g2 k11
          have hz86 : Mr 86 (17 + v) = -4 := by rw [q3]; exact hz
          obtain ⟨R1, r1, r2, r3, r4⟩ := @M_readNumber X R0 n (tB n b q) b 0 6 (TQ_S q1 ⟨y2, y3⟩) y4 g2
          rw [hO, if_pos rfl] at r1
          have tk := r3 hO
          refine ⟨R1, rS_t ⟨y2, y3⟩ r2, TQ_S (TQ_S q1 ⟨y2, y3⟩) r2, tk, ?_⟩
          by_cases hk4 : tK n b (tB n b (tB n b q)) = 4
          · have f0 := (tk.2.2.1 hk4).1
            rw [if_pos hk4]
            simp (disch := omega) only [iX9_readLineOf_0, iX9_readLineOf_1, iX9_readLineOf_105, iX9_readLineOf_106, iX9_readLineOf_109, iX9_readLineOf_116, iX9_readLineTold_0, iX9_readLineTold_1, iX9_readLineTold_4, iX9_readLineTold_5, iX9_readLineTold_6, iX9_readLineTold_9, iX9_readLineTold_12, iX9_readLineTold_13, iX9_readLineTold_14, iX9_readLineTold_17, iX9_readLineTold_19, iX9_readLineTold_20, iX9_readLineTold_21, iX9_readLineTold_22, iX9_readLineTold_24, iX9_readLineTold_27, iX9_readLineTold_28, iX9_readLineTold_31, iX9_readLineTold_32, iX9_readLineTold_33, iX9_readLineTold_36, iX9_readLineTold_37, iX9_readLineTold_40, iX9_readLineTold_41, iX9_readLineTold_42, iX9_readLineTold_44, iX9_readLineTold_47, iX9_readLineTold_48, iX9_readLineTold_49, iX9_readLineTold_52, iX9_readLineTold_55, iX9_readLineTold_56, iX9_readLineTold_59, iX9_readLineTold_61, iX9_readLineTold_62, iX9_readLineTold_63, iX9_readLineTold_64, iX9_readLineTold_65, true_or, or_true, Option.bind_some, Option.bind_none, kk_hp, kn_hp, el_i, el_b, el_z, am_cat_nil, am_cat_i, am_cat_r, am_cat_l, am_cat_n, gd_i, gd_r, gd_n, gd_u, List.length_cons, List.length_nil, true_and, and_true, ↓reduceIte, Nat.zero_le, Nat.reduceLeDiff, Nat.reduceAdd, e_10, e_01, e_00, e_11, Int32.reduceLE, Int32.reduceLT, Int32.reduceAdd, Int32.reduceSub, b01, if_true, if_false, ite_self, rc_82, gf_82_0, gf_82_1, gf_82_2, gf_82_3, gf_82_4, gf_82_5, gf_82_6, pf_82_6, gf_82_7, pf_82_7, gf_82_8, pf_82_8, gf_82_9, pf_82_9, gf_82_10, pf_82_10, gf_82_11, pf_82_11, gf_82_12, pf_82_12, gf_82_13, gf_82_14, gf_82_15, gf_82_16, pf_82_16, gf_82_17, gf_82_18, gf_82_19, gf_82_20, gf_82_21, gf_82_22, gf_82_23, gf_82_24, gf_82_25, pf_82_25, ga_83, wi_83, ga_84, wi_84, ga_85, wb_85, ga_86, wi_86, ga_87, wb_87, ga_88, wi_88, ga_89, wi_89, ga_90, wi_90, ga_91, wi_91, ga_92, wi_92, ga_93, wi_93, ga_94, wi_94, ga_95, wi_95, ga_96, wb_96, ga_97, wi_97, ga_98, wi_98, ga_99, wi_99, nl_add, nl_add', nl_mul, nI_add, in_t, cl_n, le_nn, lt_nn, le_ln, le_nl, lt_nl, lt_ln, eq_nn, eq_nl, in_lit, cl_lit, Nat.le_refl, Nat.add_zero, eq_ll, Nat.reduceEqDiff, eN, k11, hz86, M_req1, y1, r1, f0]
          · have f0 := (tk.2.2.2.1 hk4).1
            rw [if_neg hk4]
            simp (disch := omega) only [iX9_readLineOf_0, iX9_readLineOf_1, iX9_readLineOf_105, iX9_readLineOf_106, iX9_readLineOf_109, iX9_readLineOf_116, iX9_readLineTold_0, iX9_readLineTold_1, iX9_readLineTold_4, iX9_readLineTold_5, iX9_readLineTold_6, iX9_readLineTold_9, iX9_readLineTold_12, iX9_readLineTold_13, iX9_readLineTold_14, iX9_readLineTold_17, iX9_readLineTold_19, iX9_readLineTold_20, iX9_readLineTold_21, iX9_readLineTold_22, iX9_readLineTold_24, iX9_readLineTold_27, iX9_readLineTold_28, iX9_readLineTold_31, iX9_readLineTold_32, iX9_readLineTold_33, iX9_readLineTold_36, iX9_readLineTold_37, iX9_readLineTold_40, iX9_readLineTold_41, iX9_readLineTold_42, iX9_readLineTold_44, iX9_readLineTold_47, iX9_readLineTold_48, iX9_readLineTold_49, iX9_readLineTold_52, iX9_readLineTold_55, iX9_readLineTold_56, iX9_readLineTold_59, iX9_readLineTold_61, iX9_readLineTold_62, iX9_readLineTold_63, iX9_readLineTold_64, iX9_readLineTold_65, true_or, or_true, Option.bind_some, Option.bind_none, kk_hp, kn_hp, el_i, el_b, el_z, am_cat_nil, am_cat_i, am_cat_r, am_cat_l, am_cat_n, gd_i, gd_r, gd_n, gd_u, List.length_cons, List.length_nil, true_and, and_true, ↓reduceIte, Nat.zero_le, Nat.reduceLeDiff, Nat.reduceAdd, e_10, e_01, e_00, e_11, Int32.reduceLE, Int32.reduceLT, Int32.reduceAdd, Int32.reduceSub, b01, if_true, if_false, ite_self, rc_82, gf_82_0, gf_82_1, gf_82_2, gf_82_3, gf_82_4, gf_82_5, gf_82_6, pf_82_6, gf_82_7, pf_82_7, gf_82_8, pf_82_8, gf_82_9, pf_82_9, gf_82_10, pf_82_10, gf_82_11, pf_82_11, gf_82_12, pf_82_12, gf_82_13, gf_82_14, gf_82_15, gf_82_16, pf_82_16, gf_82_17, gf_82_18, gf_82_19, gf_82_20, gf_82_21, gf_82_22, gf_82_23, gf_82_24, gf_82_25, pf_82_25, ga_83, wi_83, ga_84, wi_84, ga_85, wb_85, ga_86, wi_86, ga_87, wb_87, ga_88, wi_88, ga_89, wi_89, ga_90, wi_90, ga_91, wi_91, ga_92, wi_92, ga_93, wi_93, ga_94, wi_94, ga_95, wi_95, ga_96, wb_96, ga_97, wi_97, ga_98, wi_98, ga_99, wi_99, nl_add, nl_add', nl_mul, nI_add, in_t, cl_n, le_nn, lt_nn, le_ln, le_nl, lt_nl, lt_ln, eq_nn, eq_nl, in_lit, cl_lit, Nat.le_refl, Nat.add_zero, eq_ll, Nat.reduceEqDiff, eN, k11, hz86, M_req1, y1, r1, f0]
        cases hS : sO n b (tB n b (tB n b q)) with
        | some c =>
          rw [hS, if_neg (by simp)] at e2
          refine ⟨.inr (c, tS n b (tB n b (tB n b q))), 0, K2, ?_, fX, ⟨rfl, s2 c hS, sO_p hS⟩, fun Mr u q1 q2 q3 q4 => ?_⟩
          · simp (disch := omega) only [iX6_takeNamedLine_0, iX6_takeNamedLine_1, iX6_takeNamedLine_4, iX6_takeNamedLine_7, iX6_takeNamedLine_8, iX6_takeNamedLine_11, iX6_takeNamedLine_14, iX6_takeNamedLine_15, iX6_takeNamedLine_16, iX6_takeNamedLine_18, iX6_takeNamedLine_21, iX6_takeNamedLine_22, iX6_takeNamedLine_25, iX6_takeNamedLine_26, iX6_takeNamedLine_27, iX6_takeNamedLine_30, iX6_takeNamedLine_33, iX6_takeNamedLine_34, iX6_takeNamedLine_35, iX6_takeNamedLine_37, iX6_takeNamedLine_40, iX6_takeNamedLine_41, iX6_takeNamedLine_42, iX6_takeNamedLine_45, iX6_takeNamedLine_46, iX6_takeNamedLine_47, iX6_takeNamedLine_48, iX6_takeNamedLine_50, iX6_takeNamedLine_53, iX6_takeNamedLine_56, iX6_takeNamedLine_57, iX6_takeNamedLine_58, iX6_takeNamedLine_59, iX6_takeNamedLine_62, iX6_takeNamedLine_65, iX6_takeNamedLine_66, iX6_takeNamedLine_67, iX6_takeNamedLine_70, iX6_takeNamedLine_73, iX6_takeNamedLine_74, iX6_takeNamedLine_75, iX6_takeNamedLine_78, true_or, or_true, Option.bind_some, Option.bind_none, kk_hp, kn_hp, el_i, el_b, el_z, am_cat_nil, am_cat_i, am_cat_r, am_cat_l, am_cat_n, gd_i, gd_r, gd_n, gd_u, List.length_cons, List.length_nil, true_and, and_true, ↓reduceIte, Nat.zero_le, Nat.reduceLeDiff, Nat.reduceAdd, e_10, e_01, e_00, e_11, Int32.reduceLE, Int32.reduceLT, Int32.reduceAdd, Int32.reduceSub, b01, if_true, if_false, ite_self, rc_12, gf_12_0, gf_12_1, gf_12_2, pf_12_2, gf_12_3, pf_12_3, gf_12_4, pf_12_4, gf_12_5, pf_12_5, gf_12_6, pf_12_6, gf_12_7, pf_12_7, rc_13, gf_13_0, gf_13_1, pf_13_1, gf_13_2, pf_13_2, gf_13_3, pf_13_3, gf_13_4, pf_13_4, gf_13_5, pf_13_5, rc_15, gf_15_0, pf_15_0, gf_15_1, gf_15_2, gf_15_3, pf_15_3, gf_15_4, pf_15_4, gf_15_5, pf_15_5, gf_15_6, pf_15_6, gf_15_7, pf_15_7, gf_15_8, gf_15_9, ga_25, wi_25, nl_add, nl_add', nl_mul, nI_add, in_t, cl_n, le_nn, lt_nn, le_ln, le_nl, lt_nl, lt_ln, eq_nn, eq_nl, in_lit, cl_lit, Nat.le_refl, Nat.add_zero, a1, ev, lz, e1, kv, e2, ne_m4]
          · obtain ⟨R1, y1, y2, y3, y4⟩ := pre Mr q1 q2 q3
            by_cases hk4 : tK n b (tB n b (tB n b q)) = 4
            · rw [if_pos hk4] at y4
              obtain ⟨R2, x1, x2, x3, x4⟩ := @M_tail X R1 n (tB n b (tB n b q)) b u y2 y3 g4
              exact ⟨R1, R2, y4, x1, rX_S (rS_t y1 x2), x4 c hS⟩
            · rw [if_neg hk4] at y4
              obtain ⟨R2, x1, x2, x3, x4⟩ := @M_tail X (up R1 86 (17 + v) (tV n b (tB n b q))) n (tB n b (tB n b q)) b u (TQ_fr y2 rfl rfl) (TK_u y3 rfl) g4
              exact ⟨_, R2, y4, x1, rX_t (rX_t (rX_S y1) rX_u) (rX_S x2), x4 c hS⟩
        | none =>
          rw [hS, if_pos rfl] at e2
          have hk3 := sO_n hS
          have h3 := tB_3 g4 hk3
          refine ⟨.inl (tB n b (tB n b (tB n b q)), upd d (17 + v) (tV n b (tB n b q))), 1, K2, ?_, fX, ⟨rfl, p2, k2.2.2.1, by omega, g6, RG_fa (fun k hk => c2 _ (by omega) (by omega)) hR1, hd1, fun k hk => ?_, ?_, Or.inl (by rw [c2 15 (by decide) (by decide), up_n _ _ _ (by decide), c1 15 (by decide) (by decide), a2 15 (by decide)])⟩, fun Mr u q1 q2 q3 q4 => ?_⟩
          · simp (disch := omega) only [iX6_takeNamedLine_0, iX6_takeNamedLine_1, iX6_takeNamedLine_4, iX6_takeNamedLine_7, iX6_takeNamedLine_8, iX6_takeNamedLine_11, iX6_takeNamedLine_14, iX6_takeNamedLine_15, iX6_takeNamedLine_16, iX6_takeNamedLine_18, iX6_takeNamedLine_21, iX6_takeNamedLine_22, iX6_takeNamedLine_25, iX6_takeNamedLine_26, iX6_takeNamedLine_27, iX6_takeNamedLine_30, iX6_takeNamedLine_33, iX6_takeNamedLine_34, iX6_takeNamedLine_35, iX6_takeNamedLine_37, iX6_takeNamedLine_40, iX6_takeNamedLine_41, iX6_takeNamedLine_42, iX6_takeNamedLine_45, iX6_takeNamedLine_46, iX6_takeNamedLine_47, iX6_takeNamedLine_48, iX6_takeNamedLine_50, iX6_takeNamedLine_53, iX6_takeNamedLine_56, iX6_takeNamedLine_57, iX6_takeNamedLine_58, iX6_takeNamedLine_59, iX6_takeNamedLine_62, iX6_takeNamedLine_65, iX6_takeNamedLine_66, iX6_takeNamedLine_67, iX6_takeNamedLine_70, iX6_takeNamedLine_73, iX6_takeNamedLine_74, iX6_takeNamedLine_75, iX6_takeNamedLine_78, true_or, or_true, Option.bind_some, Option.bind_none, kk_hp, kn_hp, el_i, el_b, el_z, am_cat_nil, am_cat_i, am_cat_r, am_cat_l, am_cat_n, gd_i, gd_r, gd_n, gd_u, List.length_cons, List.length_nil, true_and, and_true, ↓reduceIte, Nat.zero_le, Nat.reduceLeDiff, Nat.reduceAdd, e_10, e_01, e_00, e_11, Int32.reduceLE, Int32.reduceLT, Int32.reduceAdd, Int32.reduceSub, b01, if_true, if_false, ite_self, rc_12, gf_12_0, gf_12_1, gf_12_2, pf_12_2, gf_12_3, pf_12_3, gf_12_4, pf_12_4, gf_12_5, pf_12_5, gf_12_6, pf_12_6, gf_12_7, pf_12_7, rc_13, gf_13_0, gf_13_1, pf_13_1, gf_13_2, pf_13_2, gf_13_3, pf_13_3, gf_13_4, pf_13_4, gf_13_5, pf_13_5, rc_15, gf_15_0, pf_15_0, gf_15_1, gf_15_2, gf_15_3, pf_15_3, gf_15_4, pf_15_4, gf_15_5, pf_15_5, gf_15_6, pf_15_6, gf_15_7, pf_15_7, gf_15_8, gf_15_9, ga_25, wi_25, nl_add, nl_add', nl_mul, nI_add, in_t, cl_n, le_nn, lt_nn, le_ln, le_nl, lt_nl, lt_ln, eq_nn, eq_nl, in_lit, cl_lit, Nat.le_refl, Nat.add_zero, a1, ev, lz, e1, kv, e2, ne_m4]
          · rw [n2 hS]
            show K1 12 (4 + k) = _
            rw [n1 hO, a2 12 (by decide)]; exact htd k hk
          · rw [n2 hS]
            show K1 12 2 = _
            rw [n1 hO, a2 12 (by decide)]
          · obtain ⟨R1, y1, y2, y3, y4⟩ := pre Mr q1 q2 q3
            rw [if_neg (by omega)] at y4
            obtain ⟨R2, x1, x2, x3, x4⟩ := @M_tail X (up R1 86 (17 + v) (tV n b (tB n b q))) n (tB n b (tB n b q)) b u (TQ_fr y2 rfl rfl) (TK_u y3 rfl) g4
            refine ⟨_, R2, y4, x1, rX_t (rX_t (rX_S y1) rX_u) (rX_S x2), TQ_S (M := up R1 86 _ (tV n b (tB n b q))) (TQ_fr y2 rfl rfl) x2, x3 hS, ?_, fun k hk => ?_⟩
            · rw [x2.1 86 (by decide), up_s, y1.1 86 (by decide), q3]
            · rw [x2.1 87 (by decide)]
              show R1 87 k = _
              rw [y1.1 87 (by decide)]; exact q4 k hk
    · have lz : ¬ K 25 v = -4 := by rw [ln]; exact hz
      have er := @C_refuse X K 4
      rw [a5] at er
      refine ⟨.inr (4, tS n b q), 0, up (up K 12 2 4) 12 3 (nI (tS n b q)), ?_, fun a i1 i2 i3 => by rw [up_n _ _ _ i1, up_n _ _ _ i1]; exact a2 a i2, ⟨rfl, ⟨rfl, rfl⟩, by decide⟩, fun Mr u q1 q2 q3 q4 => ?_⟩
      · simp (disch := omega) only [iX6_takeNamedLine_0, iX6_takeNamedLine_1, iX6_takeNamedLine_4, iX6_takeNamedLine_7, iX6_takeNamedLine_8, iX6_takeNamedLine_11, iX6_takeNamedLine_14, iX6_takeNamedLine_15, iX6_takeNamedLine_16, iX6_takeNamedLine_18, iX6_takeNamedLine_21, iX6_takeNamedLine_22, iX6_takeNamedLine_25, iX6_takeNamedLine_26, iX6_takeNamedLine_27, iX6_takeNamedLine_30, iX6_takeNamedLine_33, iX6_takeNamedLine_34, iX6_takeNamedLine_35, iX6_takeNamedLine_37, iX6_takeNamedLine_40, iX6_takeNamedLine_41, iX6_takeNamedLine_42, iX6_takeNamedLine_45, iX6_takeNamedLine_46, iX6_takeNamedLine_47, iX6_takeNamedLine_48, iX6_takeNamedLine_50, iX6_takeNamedLine_53, iX6_takeNamedLine_56, iX6_takeNamedLine_57, iX6_takeNamedLine_58, iX6_takeNamedLine_59, iX6_takeNamedLine_62, iX6_takeNamedLine_65, iX6_takeNamedLine_66, iX6_takeNamedLine_67, iX6_takeNamedLine_70, iX6_takeNamedLine_73, iX6_takeNamedLine_74, iX6_takeNamedLine_75, iX6_takeNamedLine_78, true_or, or_true, Option.bind_some, Option.bind_none, kk_hp, kn_hp, el_i, el_b, el_z, am_cat_nil, am_cat_i, am_cat_r, am_cat_l, am_cat_n, gd_i, gd_r, gd_n, gd_u, List.length_cons, List.length_nil, true_and, and_true, ↓reduceIte, Nat.zero_le, Nat.reduceLeDiff, Nat.reduceAdd, e_10, e_01, e_00, e_11, Int32.reduceLE, Int32.reduceLT, Int32.reduceAdd, Int32.reduceSub, b01, if_true, if_false, ite_self, rc_12, gf_12_0, gf_12_1, gf_12_2, pf_12_2, gf_12_3, pf_12_3, gf_12_4, pf_12_4, gf_12_5, pf_12_5, gf_12_6, pf_12_6, gf_12_7, pf_12_7, rc_13, gf_13_0, gf_13_1, pf_13_1, gf_13_2, pf_13_2, gf_13_3, pf_13_3, gf_13_4, pf_13_4, gf_13_5, pf_13_5, rc_15, gf_15_0, pf_15_0, gf_15_1, gf_15_2, gf_15_3, pf_15_3, gf_15_4, pf_15_4, gf_15_5, pf_15_5, gf_15_6, pf_15_6, gf_15_7, pf_15_7, gf_15_8, gf_15_9, ga_25, wi_25, nl_add, nl_add', nl_mul, nI_add, in_t, cl_n, le_nn, lt_nn, le_ln, le_nl, lt_nl, lt_ln, eq_nn, eq_nl, in_lit, cl_lit, Nat.le_refl, Nat.add_zero, a1, ev, lz, ne_m4, er]
      · have eN := (@M_lineNow X Mr n q b q1 q2 hq h4).1 hl
        rw [hv] at eN
        obtain ⟨k7, k8, -, kn, -⟩ := q2
        obtain ⟨k11, k9⟩ := kn h4
        have hz86 : ¬ Mr 86 (17 + v) = -4 := by rw [q3]; exact hz
        have eq0 := @M_req0 X Mr 4 k11
        rw [k8] at eq0
        have hpos : (0 : Int32) < (up (up Mr 82 11 4) 82 12 (nI (tS n b q))) 82 11 := by show (0 : Int32) < 4; decide
        have u11 : (up (up Mr 82 11 4) 82 12 (nI (tS n b q))) 82 11 = 4 := rfl
        have e2 := @M_readsF X (up (up Mr 82 11 4) 82 12 (nI (tS n b q))) hpos
        have e3 := @M_readNumberF X (up (up Mr 82 11 4) 82 12 (nI (tS n b q))) 0 6 hpos
        refine ⟨up (up Mr 82 11 4) 82 12 (nI (tS n b q)), up (up Mr 82 11 4) 82 12 (nI (tS n b q)), ?_, M_tailF hpos, ⟨fun a h1 _ _ => by rw [up_n _ _ _ h1, up_n _ _ _ h1], fun j hj => by rw [up_s, pk_un (by omega), up_s, pk_un (by omega)]⟩, rfl, rfl⟩
        simp (disch := omega) only [iX9_readLineOf_0, iX9_readLineOf_1, iX9_readLineOf_105, iX9_readLineOf_106, iX9_readLineOf_109, iX9_readLineOf_116, iX9_readLineTold_0, iX9_readLineTold_1, iX9_readLineTold_4, iX9_readLineTold_5, iX9_readLineTold_6, iX9_readLineTold_9, iX9_readLineTold_12, iX9_readLineTold_13, iX9_readLineTold_14, iX9_readLineTold_17, iX9_readLineTold_19, iX9_readLineTold_20, iX9_readLineTold_21, iX9_readLineTold_22, iX9_readLineTold_24, iX9_readLineTold_27, iX9_readLineTold_28, iX9_readLineTold_31, iX9_readLineTold_32, iX9_readLineTold_33, iX9_readLineTold_36, iX9_readLineTold_37, iX9_readLineTold_40, iX9_readLineTold_41, iX9_readLineTold_42, iX9_readLineTold_44, iX9_readLineTold_47, iX9_readLineTold_48, iX9_readLineTold_49, iX9_readLineTold_52, iX9_readLineTold_55, iX9_readLineTold_56, iX9_readLineTold_59, iX9_readLineTold_61, iX9_readLineTold_62, iX9_readLineTold_63, iX9_readLineTold_64, iX9_readLineTold_65, true_or, or_true, Option.bind_some, Option.bind_none, kk_hp, kn_hp, el_i, el_b, el_z, am_cat_nil, am_cat_i, am_cat_r, am_cat_l, am_cat_n, gd_i, gd_r, gd_n, gd_u, List.length_cons, List.length_nil, true_and, and_true, ↓reduceIte, Nat.zero_le, Nat.reduceLeDiff, Nat.reduceAdd, e_10, e_01, e_00, e_11, Int32.reduceLE, Int32.reduceLT, Int32.reduceAdd, Int32.reduceSub, b01, if_true, if_false, ite_self, rc_82, gf_82_0, gf_82_1, gf_82_2, gf_82_3, gf_82_4, gf_82_5, gf_82_6, pf_82_6, gf_82_7, pf_82_7, gf_82_8, pf_82_8, gf_82_9, pf_82_9, gf_82_10, pf_82_10, gf_82_11, pf_82_11, gf_82_12, pf_82_12, gf_82_13, gf_82_14, gf_82_15, gf_82_16, pf_82_16, gf_82_17, gf_82_18, gf_82_19, gf_82_20, gf_82_21, gf_82_22, gf_82_23, gf_82_24, gf_82_25, pf_82_25, ga_83, wi_83, ga_84, wi_84, ga_85, wb_85, ga_86, wi_86, ga_87, wb_87, ga_88, wi_88, ga_89, wi_89, ga_90, wi_90, ga_91, wi_91, ga_92, wi_92, ga_93, wi_93, ga_94, wi_94, ga_95, wi_95, ga_96, wb_96, ga_97, wi_97, ga_98, wi_98, ga_99, wi_99, nl_add, nl_add', nl_mul, nI_add, in_t, cl_n, le_nn, lt_nn, le_ln, le_nl, lt_nl, lt_ln, eq_nn, eq_nl, in_lit, cl_lit, Nat.le_refl, Nat.add_zero, eq_ll, Nat.reduceEqDiff, eN, k11, hz86, eq0, u11, show ¬ (4 : Int32) = 0 by decide, e2, e3]
  · have ev := cl2 hl
    have er := @C_refuseToken X K
    rw [a5, a4] at er
    have hc : ∃ c : Int32, (if nI (tK n b q) = 4 then (1 : Int32) else 2) = c ∧ 0 < c ∧ c = (if tK n b q = 4 then 1 else 2) := by
      by_cases h4 : tK n b q = 4
      · exact ⟨1, by rw [h4, if_pos (show nI 4 = (4 : Int32) from rfl)], by decide, by rw [if_pos h4]⟩
      · exact ⟨2, by rw [if_neg (show ¬ nI (tK n b q) = 4 from fun z => h4 (nI_inj (by omega) (by decide) z))], by decide, by rw [if_neg h4]⟩
    obtain ⟨c, hc1, hc2, hc3⟩ := hc
    rw [hc1] at er
    refine ⟨.inr (c, tS n b q), 0, up (up K 12 2 c) 12 3 (nI (tS n b q)), ?_, fun a i1 i2 i3 => by rw [up_n _ _ _ i1, up_n _ _ _ i1]; exact a2 a i2, ⟨rfl, ⟨rfl, rfl⟩, hc2⟩, fun Mr u q1 q2 q3 q4 => ?_⟩
    · simp (disch := omega) only [iX6_takeNamedLine_0, iX6_takeNamedLine_1, iX6_takeNamedLine_4, iX6_takeNamedLine_7, iX6_takeNamedLine_8, iX6_takeNamedLine_11, iX6_takeNamedLine_14, iX6_takeNamedLine_15, iX6_takeNamedLine_16, iX6_takeNamedLine_18, iX6_takeNamedLine_21, iX6_takeNamedLine_22, iX6_takeNamedLine_25, iX6_takeNamedLine_26, iX6_takeNamedLine_27, iX6_takeNamedLine_30, iX6_takeNamedLine_33, iX6_takeNamedLine_34, iX6_takeNamedLine_35, iX6_takeNamedLine_37, iX6_takeNamedLine_40, iX6_takeNamedLine_41, iX6_takeNamedLine_42, iX6_takeNamedLine_45, iX6_takeNamedLine_46, iX6_takeNamedLine_47, iX6_takeNamedLine_48, iX6_takeNamedLine_50, iX6_takeNamedLine_53, iX6_takeNamedLine_56, iX6_takeNamedLine_57, iX6_takeNamedLine_58, iX6_takeNamedLine_59, iX6_takeNamedLine_62, iX6_takeNamedLine_65, iX6_takeNamedLine_66, iX6_takeNamedLine_67, iX6_takeNamedLine_70, iX6_takeNamedLine_73, iX6_takeNamedLine_74, iX6_takeNamedLine_75, iX6_takeNamedLine_78, true_or, or_true, Option.bind_some, Option.bind_none, kk_hp, kn_hp, el_i, el_b, el_z, am_cat_nil, am_cat_i, am_cat_r, am_cat_l, am_cat_n, gd_i, gd_r, gd_n, gd_u, List.length_cons, List.length_nil, true_and, and_true, ↓reduceIte, Nat.zero_le, Nat.reduceLeDiff, Nat.reduceAdd, e_10, e_01, e_00, e_11, Int32.reduceLE, Int32.reduceLT, Int32.reduceAdd, Int32.reduceSub, b01, if_true, if_false, ite_self, rc_12, gf_12_0, gf_12_1, gf_12_2, pf_12_2, gf_12_3, pf_12_3, gf_12_4, pf_12_4, gf_12_5, pf_12_5, gf_12_6, pf_12_6, gf_12_7, pf_12_7, rc_13, gf_13_0, gf_13_1, pf_13_1, gf_13_2, pf_13_2, gf_13_3, pf_13_3, gf_13_4, pf_13_4, gf_13_5, pf_13_5, rc_15, gf_15_0, pf_15_0, gf_15_1, gf_15_2, gf_15_3, pf_15_3, gf_15_4, pf_15_4, gf_15_5, pf_15_5, gf_15_6, pf_15_6, gf_15_7, pf_15_7, gf_15_8, gf_15_9, ga_25, wi_25, nl_add, nl_add', nl_mul, nI_add, in_t, cl_n, le_nn, lt_nn, le_ln, le_nl, lt_nl, lt_ln, eq_nn, eq_nl, in_lit, cl_lit, Nat.le_refl, Nat.add_zero, a1, ev, er]
    · by_cases h4 : tK n b q = 4
      · rw [if_pos h4] at hc3
        obtain ⟨f1, f2⟩ := q2.2.2.1 h4
        have hpos : (0 : Int32) < Mr 82 11 := by rw [f1]; decide
        exact ⟨Mr, Mr, rn Mr q1 hpos q2.2.1, M_tailF hpos, ⟨fun _ _ _ _ => rfl, fun _ _ => rfl⟩, by rw [hc3]; exact ⟨f1, f2⟩⟩
      · rw [if_neg h4] at hc3
        have eN := (@M_lineNow X Mr n q b q1 q2 hq h4).2 hl
        have hpos : (0 : Int32) < (up (up Mr 82 11 2) 82 12 (nI (tS n b q))) 82 11 := by show (0 : Int32) < 2; decide
        have u11 : (up (up Mr 82 11 2) 82 12 (nI (tS n b q))) 82 11 = 2 := rfl
        have e2 := @M_readsF X (up (up Mr 82 11 2) 82 12 (nI (tS n b q))) hpos
        have e3 := @M_readNumberF X (up (up Mr 82 11 2) 82 12 (nI (tS n b q))) 0 6 hpos
        refine ⟨up (up Mr 82 11 2) 82 12 (nI (tS n b q)), up (up Mr 82 11 2) 82 12 (nI (tS n b q)), ?_, M_tailF hpos, ⟨fun a h1 _ _ => by rw [up_n _ _ _ h1, up_n _ _ _ h1], fun j hj => by rw [up_s, pk_un (by omega), up_s, pk_un (by omega)]⟩, by rw [hc3]; exact ⟨rfl, rfl⟩⟩
        simp (disch := omega) only [iX9_readLineOf_0, iX9_readLineOf_1, iX9_readLineOf_105, iX9_readLineOf_106, iX9_readLineOf_109, iX9_readLineOf_116, iX9_readLineTold_0, iX9_readLineTold_1, iX9_readLineTold_4, iX9_readLineTold_5, iX9_readLineTold_6, iX9_readLineTold_9, iX9_readLineTold_12, iX9_readLineTold_13, iX9_readLineTold_14, iX9_readLineTold_17, iX9_readLineTold_19, iX9_readLineTold_20, iX9_readLineTold_21, iX9_readLineTold_22, iX9_readLineTold_24, iX9_readLineTold_27, iX9_readLineTold_28, iX9_readLineTold_31, iX9_readLineTold_32, iX9_readLineTold_33, iX9_readLineTold_36, iX9_readLineTold_37, iX9_readLineTold_40, iX9_readLineTold_41, iX9_readLineTold_42, iX9_readLineTold_44, iX9_readLineTold_47, iX9_readLineTold_48, iX9_readLineTold_49, iX9_readLineTold_52, iX9_readLineTold_55, iX9_readLineTold_56, iX9_readLineTold_59, iX9_readLineTold_61, iX9_readLineTold_62, iX9_readLineTold_63, iX9_readLineTold_64, iX9_readLineTold_65, true_or, or_true, Option.bind_some, Option.bind_none, kk_hp, kn_hp, el_i, el_b, el_z, am_cat_nil, am_cat_i, am_cat_r, am_cat_l, am_cat_n, gd_i, gd_r, gd_n, gd_u, List.length_cons, List.length_nil, true_and, and_true, ↓reduceIte, Nat.zero_le, Nat.reduceLeDiff, Nat.reduceAdd, e_10, e_01, e_00, e_11, Int32.reduceLE, Int32.reduceLT, Int32.reduceAdd, Int32.reduceSub, b01, if_true, if_false, ite_self, rc_82, gf_82_0, gf_82_1, gf_82_2, gf_82_3, gf_82_4, gf_82_5, gf_82_6, pf_82_6, gf_82_7, pf_82_7, gf_82_8, pf_82_8, gf_82_9, pf_82_9, gf_82_10, pf_82_10, gf_82_11, pf_82_11, gf_82_12, pf_82_12, gf_82_13, gf_82_14, gf_82_15, gf_82_16, pf_82_16, gf_82_17, gf_82_18, gf_82_19, gf_82_20, gf_82_21, gf_82_22, gf_82_23, gf_82_24, gf_82_25, pf_82_25, ga_83, wi_83, ga_84, wi_84, ga_85, wb_85, ga_86, wi_86, ga_87, wb_87, ga_88, wi_88, ga_89, wi_89, ga_90, wi_90, ga_91, wi_91, ga_92, wi_92, ga_93, wi_93, ga_94, wi_94, ga_95, wi_95, ga_96, wb_96, ga_97, wi_97, ga_98, wi_98, ga_99, wi_99, nl_add, nl_add', nl_mul, nI_add, in_t, cl_n, le_nn, lt_nn, le_ln, le_nl, lt_nl, lt_ln, eq_nn, eq_nl, in_lit, cl_lit, Nat.le_refl, Nat.add_zero, eq_ll, Nat.reduceEqDiff, eN, u11, show ¬ (2 : Int32) = 0 by decide, e2, e3]
end S95
