/-! frozen tracks: bits -/
theorem bit_and {b t : Nat} (hb : b < 64) (ht : t < 6) : (nI b &&& (1 <<< (nI t &&& 31)) = 0) ↔ b.testBit t = false := by
  have : ∀ b, b < 64 → ∀ t, t < 6 → ((nI b &&& (1 <<< (nI t &&& 31)) = 0) ↔ b.testBit t = false) := by decide +kernel
  exact this b hb t ht
theorem bit_or {b t : Nat} (hb : b < 64) (ht : t < 6) : ∃ b', b' < 64 ∧ nI b ||| (1 <<< (nI t &&& 31)) = nI b' ∧ ∀ x, x < 6 → b'.testBit x = (b.testBit x || decide (x = t)) := by
  have h1 : ∀ b, b < 64 → ∀ t, t < 6 → (nI b ||| (1 <<< (nI t &&& 31))).toNatClampNeg < 64 := by decide +kernel
  have h2 : ∀ b, b < 64 → ∀ t, t < 6 → (nI b ||| (1 <<< (nI t &&& 31))) = nI (nI b ||| (1 <<< (nI t &&& 31))).toNatClampNeg := by decide +kernel
  have h3 : ∀ b, b < 64 → ∀ t, t < 6 → ∀ x, x < 6 → (nI b ||| (1 <<< (nI t &&& 31))).toNatClampNeg.testBit x = (b.testBit x || decide (x = t)) := by decide +kernel
  exact ⟨_, h1 b hb t ht, h2 b hb t ht, h3 b hb t ht⟩
section S56
variable {X : am_X} {M : Nat → Nat → Int32}
theorem C_isFrozen {b t : Nat} (hb : b < 64) (ht : t < 6) (h : M 80 1 = nI b) : am_ev X kX4_isFrozen 0 [.ref 80, .int (nI t)] [] (hp M) = some (some (.int (bI (b.testBit t))), hp M) := by
  cases hq : b.testBit t with
  | false =>
    have := (bit_and hb ht).mpr hq
    simp (disch := omega) only [iX4_isFrozen_0, iX4_isFrozen_1, iX4_isFrozen_4, iX4_isFrozen_5, iX4_isFrozen_6, iX4_isFrozen_7, iX4_isFrozen_8, iX4_isFrozen_11, iX4_isFrozen_12, iX4_isFrozen_15, iX4_isFrozen_16, true_or, or_true, Option.bind_some, Option.bind_none, kk_hp, kn_hp, el_i, el_b, el_z, am_cat_nil, am_cat_i, am_cat_r, am_cat_l, am_cat_n, gd_i, gd_r, gd_n, gd_u, List.length_cons, List.length_nil, true_and, and_true, ↓reduceIte, Nat.zero_le, Nat.reduceLeDiff, Nat.reduceAdd, e_10, e_01, e_00, e_11, Int32.reduceLE, Int32.reduceLT, Int32.reduceAdd, Int32.reduceSub, b01, if_true, if_false, ite_self, rc_80, gf_80_0, gf_80_1, pf_80_1, nl_add, nl_add', nl_mul, nI_add, in_t, cl_n, le_nn, lt_nn, le_ln, le_nl, lt_nl, lt_ln, eq_nn, eq_nl, in_lit, cl_lit, Nat.le_refl, Nat.add_zero, h, this, bI_f]
  | true =>
    have : ¬ (nI b &&& (1 <<< (nI t &&& 31)) = 0) := fun z => by rw [(bit_and hb ht).mp z] at hq; exact absurd hq (by decide)
    simp (disch := omega) only [iX4_isFrozen_0, iX4_isFrozen_1, iX4_isFrozen_4, iX4_isFrozen_5, iX4_isFrozen_6, iX4_isFrozen_7, iX4_isFrozen_8, iX4_isFrozen_11, iX4_isFrozen_12, iX4_isFrozen_15, iX4_isFrozen_16, true_or, or_true, Option.bind_some, Option.bind_none, kk_hp, kn_hp, el_i, el_b, el_z, am_cat_nil, am_cat_i, am_cat_r, am_cat_l, am_cat_n, gd_i, gd_r, gd_n, gd_u, List.length_cons, List.length_nil, true_and, and_true, ↓reduceIte, Nat.zero_le, Nat.reduceLeDiff, Nat.reduceAdd, e_10, e_01, e_00, e_11, Int32.reduceLE, Int32.reduceLT, Int32.reduceAdd, Int32.reduceSub, b01, if_true, if_false, ite_self, rc_80, gf_80_0, gf_80_1, pf_80_1, nl_add, nl_add', nl_mul, nI_add, in_t, cl_n, le_nn, lt_nn, le_ln, le_nl, lt_nl, lt_ln, eq_nn, eq_nl, in_lit, cl_lit, Nat.le_refl, Nat.add_zero, h, this, bI_t]
theorem C_isOpen {g b t : Nat} (hg : isA g) (hb : b < 64) (ht : t < 6) (h : M 80 1 = nI b) : am_ev X kX4_isOpen 0 [.ref 80, .ref g, .int (nI t)] [] (hp M) = some (some (.int (bI (decide (M (g + 1) t = 2) && !b.testBit t))), hp M) := by
  have e := @C_isFrozen X M b t hb ht h
  by_cases h1 : M (g + 1) t = 2
  · cases hq : b.testBit t with
    | false =>
      rw [hq, bI_f] at e
      simp (disch := omega) only [iX4_isOpen_0, iX4_isOpen_1, iX4_isOpen_4, iX4_isOpen_5, iX4_isOpen_6, iX4_isOpen_7, iX4_isOpen_10, iX4_isOpen_11, iX4_isOpen_12, iX4_isOpen_15, iX4_isOpen_18, iX4_isOpen_19, iX4_isOpen_22, iX4_isOpen_23, true_or, or_true, Option.bind_some, Option.bind_none, kk_hp, kn_hp, el_i, el_b, el_z, am_cat_nil, am_cat_i, am_cat_r, am_cat_l, am_cat_n, gd_i, gd_r, gd_n, gd_u, List.length_cons, List.length_nil, true_and, and_true, ↓reduceIte, Nat.zero_le, Nat.reduceLeDiff, Nat.reduceAdd, e_10, e_01, e_00, e_11, Int32.reduceLE, Int32.reduceLT, Int32.reduceAdd, Int32.reduceSub, b01, if_true, if_false, ite_self, rc_80, gf_80_0, gf_80_1, pf_80_1, nl_add, nl_add', nl_mul, nI_add, in_t, cl_n, le_nn, lt_nn, le_ln, le_nl, lt_nl, lt_ln, eq_nn, eq_nl, in_lit, cl_lit, Nat.le_refl, Nat.add_zero, gA2 hg, aA1 hg, h1, e, decide_true, Bool.not_false, Bool.and_self, bI_t]
    | true =>
      rw [hq, bI_t] at e
      simp (disch := omega) only [iX4_isOpen_0, iX4_isOpen_1, iX4_isOpen_4, iX4_isOpen_5, iX4_isOpen_6, iX4_isOpen_7, iX4_isOpen_10, iX4_isOpen_11, iX4_isOpen_12, iX4_isOpen_15, iX4_isOpen_18, iX4_isOpen_19, iX4_isOpen_22, iX4_isOpen_23, true_or, or_true, Option.bind_some, Option.bind_none, kk_hp, kn_hp, el_i, el_b, el_z, am_cat_nil, am_cat_i, am_cat_r, am_cat_l, am_cat_n, gd_i, gd_r, gd_n, gd_u, List.length_cons, List.length_nil, true_and, and_true, ↓reduceIte, Nat.zero_le, Nat.reduceLeDiff, Nat.reduceAdd, e_10, e_01, e_00, e_11, Int32.reduceLE, Int32.reduceLT, Int32.reduceAdd, Int32.reduceSub, b01, if_true, if_false, ite_self, rc_80, gf_80_0, gf_80_1, pf_80_1, nl_add, nl_add', nl_mul, nI_add, in_t, cl_n, le_nn, lt_nn, le_ln, le_nl, lt_nl, lt_ln, eq_nn, eq_nl, in_lit, cl_lit, Nat.le_refl, Nat.add_zero, gA2 hg, aA1 hg, h1, e, decide_true, Bool.not_true, Bool.and_false, bI_f]
  · simp (disch := omega) only [iX4_isOpen_0, iX4_isOpen_1, iX4_isOpen_4, iX4_isOpen_5, iX4_isOpen_6, iX4_isOpen_7, iX4_isOpen_10, iX4_isOpen_11, iX4_isOpen_12, iX4_isOpen_15, iX4_isOpen_18, iX4_isOpen_19, iX4_isOpen_22, iX4_isOpen_23, true_or, or_true, Option.bind_some, Option.bind_none, kk_hp, kn_hp, el_i, el_b, el_z, am_cat_nil, am_cat_i, am_cat_r, am_cat_l, am_cat_n, gd_i, gd_r, gd_n, gd_u, List.length_cons, List.length_nil, true_and, and_true, ↓reduceIte, Nat.zero_le, Nat.reduceLeDiff, Nat.reduceAdd, e_10, e_01, e_00, e_11, Int32.reduceLE, Int32.reduceLT, Int32.reduceAdd, Int32.reduceSub, b01, if_true, if_false, ite_self, rc_80, gf_80_0, gf_80_1, pf_80_1, nl_add, nl_add', nl_mul, nI_add, in_t, cl_n, le_nn, lt_nn, le_ln, le_nl, lt_nl, lt_ln, eq_nn, eq_nl, in_lit, cl_lit, Nat.le_refl, Nat.add_zero, gA2 hg, aA1 hg, h1, decide_false, Bool.false_and, bI_f]
end S56
