/-! shares by need, both -/
section S51
variable {X : am_X} {M : Nat → Nat → Int32}
theorem C_dealByNeed {g n : Nat} {kd nb sz : Nat → Int32} {gap : Int32} {gl : List (Nat × Nat × Int32)} (hg : isA g) (hA : RA M g n kd nb gap gl) (hs : ∀ c, c < n → M (g + 3) c = sz c) (hz : ∀ c, c < n → kd c = 2 → sz c = 0) :
    ∃ M', am_ev X kX4_dealByNeed 0 [.ref 80, .ref g, am_u, am_u, am_u, am_u] [] (hp M) = some (none, hp M') ∧ (∀ a, a ≠ g + 3 → M' a = M a) ∧ ∀ c, c < n → M' (g + 3) c = if kd c = 2 then gl.foldl (sh1 kd nb sz gap) 0 * nb c else sz c := by
  obtain ⟨u, v, e1⟩ := @dealByNeed_i X M g n kd nb sz gap gl hg hA hs hz
  obtain ⟨hn, hn12, hgap, hkd, hnb, hgn, hg10, hgl⟩ := hA
  generalize gl.foldl (sh1 kd nb sz gap) 0 = x at *
  have e2 := chain (fun t => am_ev X kX4_dealByNeed 59 [.ref 80, .ref g, .int x, .int (nI t), u, v] [] (hp (ua M (g + 3) (fil (M (g + 3)) (fun c => if M (g + 1) c = 2 then x * M (g + 2) c else M (g + 3) c) t)))) 0 n (by omega) (fun t _ ht => by
    have c0 : ∀ f, (ua M (g + 3) f) g 0 = nI n := fun f => by rw [ua_n _ _ (by omega)]; exact hn
    have c1 : ∀ f, (ua M (g + 3) f) (g + 1) = M (g + 1) := fun f => ua_n _ _ (by omega)
    have c2 : ∀ f, (ua M (g + 3) f) (g + 2) = M (g + 2) := fun f => ua_n _ _ (by omega)
    conv => lhs; rw [iX4_dealByNeed_59]
    rw [← fil_s]
    by_cases h : M (g + 1) t = 2
    · rw [if_pos h]
      simp (disch := omega) only [iX4_dealByNeed_60, iX4_dealByNeed_61, iX4_dealByNeed_64, iX4_dealByNeed_67, iX4_dealByNeed_68, iX4_dealByNeed_71, iX4_dealByNeed_72, iX4_dealByNeed_73, iX4_dealByNeed_74, iX4_dealByNeed_77, iX4_dealByNeed_78, iX4_dealByNeed_81, iX4_dealByNeed_82, iX4_dealByNeed_83, iX4_dealByNeed_84, iX4_dealByNeed_87, iX4_dealByNeed_88, iX4_dealByNeed_89, iX4_dealByNeed_90, iX4_dealByNeed_91, iX4_dealByNeed_94, true_or, or_true, Option.bind_some, Option.bind_none, kk_hp, kn_hp, el_i, el_b, el_z, am_cat_nil, am_cat_i, am_cat_r, am_cat_l, am_cat_n, gd_i, gd_r, gd_n, gd_u, List.length_cons, List.length_nil, true_and, and_true, ↓reduceIte, Nat.zero_le, Nat.reduceLeDiff, Nat.reduceAdd, e_10, e_01, e_00, e_11, Int32.reduceLE, Int32.reduceLT, Int32.reduceAdd, Int32.reduceSub, b01, if_true, if_false, ite_self, nl_add, nl_add', nl_mul, nI_add, in_t, cl_n, le_nn, lt_nn, le_ln, le_nl, lt_nl, lt_ln, eq_nn, eq_nl, in_lit, cl_lit, Nat.le_refl, Nat.add_zero, gA0 hg, gA2 hg, gA3 hg, gA4 hg, aA1 hg, aA2 hg, wA3 hg, c0, c1, c2, show ¬ n ≤ t by omega, h, up_of]
    · rw [if_neg h]
      have es : upd (fil (M (g + 3)) (fun c => if M (g + 1) c = 2 then x * M (g + 2) c else M (g + 3) c) t) t (M (g + 3) t) = fil (M (g + 3)) (fun c => if M (g + 1) c = 2 then x * M (g + 2) c else M (g + 3) c) t := by
        funext j
        by_cases hj : j = t
        · rw [hj, pk_us, fil_out (by omega)]
        · rw [pk_un hj]
      rw [es]
      simp (disch := omega) only [iX4_dealByNeed_60, iX4_dealByNeed_61, iX4_dealByNeed_64, iX4_dealByNeed_67, iX4_dealByNeed_68, iX4_dealByNeed_71, iX4_dealByNeed_72, iX4_dealByNeed_73, iX4_dealByNeed_74, iX4_dealByNeed_77, iX4_dealByNeed_78, iX4_dealByNeed_81, iX4_dealByNeed_82, iX4_dealByNeed_83, iX4_dealByNeed_84, iX4_dealByNeed_87, iX4_dealByNeed_88, iX4_dealByNeed_89, iX4_dealByNeed_90, iX4_dealByNeed_91, iX4_dealByNeed_94, true_or, or_true, Option.bind_some, Option.bind_none, kk_hp, kn_hp, el_i, el_b, el_z, am_cat_nil, am_cat_i, am_cat_r, am_cat_l, am_cat_n, gd_i, gd_r, gd_n, gd_u, List.length_cons, List.length_nil, true_and, and_true, ↓reduceIte, Nat.zero_le, Nat.reduceLeDiff, Nat.reduceAdd, e_10, e_01, e_00, e_11, Int32.reduceLE, Int32.reduceLT, Int32.reduceAdd, Int32.reduceSub, b01, if_true, if_false, ite_self, nl_add, nl_add', nl_mul, nI_add, in_t, cl_n, le_nn, lt_nn, le_ln, le_nl, lt_nl, lt_ln, eq_nn, eq_nl, in_lit, cl_lit, Nat.le_refl, Nat.add_zero, gA0 hg, gA2 hg, gA3 hg, gA4 hg, aA1 hg, aA2 hg, wA3 hg, c0, c1, c2, show ¬ n ≤ t by omega, h])
  simp only [fil_0, ua_self, nI_0] at e1 e2
  refine ⟨ua M (g + 3) (fil (M (g + 3)) (fun c => if M (g + 1) c = 2 then x * M (g + 2) c else M (g + 3) c) n), ?_, fun a ha => ua_n _ _ ha, fun c hc => ?_⟩
  · have c0 : ∀ f, (ua M (g + 3) f) g 0 = nI n := fun f => by rw [ua_n _ _ (by omega)]; exact hn
    simp (disch := omega) only [iX4_dealByNeed_0, iX4_dealByNeed_1, iX4_dealByNeed_2, iX4_dealByNeed_3, true_or, or_true, Option.bind_some, Option.bind_none, kk_hp, kn_hp, el_i, el_b, el_z, am_cat_nil, am_cat_i, am_cat_r, am_cat_l, am_cat_n, gd_i, gd_r, gd_n, gd_u, List.length_cons, List.length_nil, true_and, and_true, ↓reduceIte, Nat.zero_le, Nat.reduceLeDiff, Nat.reduceAdd, e_10, e_01, e_00, e_11, Int32.reduceLE, Int32.reduceLT, Int32.reduceAdd, Int32.reduceSub, b01, if_true, if_false, ite_self]
    rw [e1]
    simp (disch := omega) only [iX4_dealByNeed_4, iX4_dealByNeed_5, iX4_dealByNeed_6, iX4_dealByNeed_9, iX4_dealByNeed_57, iX4_dealByNeed_58, true_or, or_true, Option.bind_some, Option.bind_none, kk_hp, kn_hp, el_i, el_b, el_z, am_cat_nil, am_cat_i, am_cat_r, am_cat_l, am_cat_n, gd_i, gd_r, gd_n, gd_u, List.length_cons, List.length_nil, true_and, and_true, ↓reduceIte, Nat.zero_le, Nat.reduceLeDiff, Nat.reduceAdd, e_10, e_01, e_00, e_11, Int32.reduceLE, Int32.reduceLT, Int32.reduceAdd, Int32.reduceSub, b01, if_true, if_false, ite_self, nl_add, nl_add', nl_mul, nI_add, in_t, cl_n, le_nn, lt_nn, le_ln, le_nl, lt_nl, lt_ln, eq_nn, eq_nl, in_lit, cl_lit, Nat.le_refl, Nat.add_zero, gA6 hg, hgn]
    rw [e2]
    simp (disch := omega) only [iX4_dealByNeed_59, iX4_dealByNeed_60, iX4_dealByNeed_61, iX4_dealByNeed_64, iX4_dealByNeed_97, true_or, or_true, Option.bind_some, Option.bind_none, kk_hp, kn_hp, el_i, el_b, el_z, am_cat_nil, am_cat_i, am_cat_r, am_cat_l, am_cat_n, gd_i, gd_r, gd_n, gd_u, List.length_cons, List.length_nil, true_and, and_true, ↓reduceIte, Nat.zero_le, Nat.reduceLeDiff, Nat.reduceAdd, e_10, e_01, e_00, e_11, Int32.reduceLE, Int32.reduceLT, Int32.reduceAdd, Int32.reduceSub, b01, if_true, if_false, ite_self, nl_add, nl_add', nl_mul, nI_add, in_t, cl_n, le_nn, lt_nn, le_ln, le_nl, lt_nl, lt_ln, eq_nn, eq_nl, in_lit, cl_lit, Nat.le_refl, Nat.add_zero, gA0 hg, c0]
  · rw [ua_s, fil_in hc, (hkd c hc).1, (hkd c hc).2, hs c hc]
end S51
