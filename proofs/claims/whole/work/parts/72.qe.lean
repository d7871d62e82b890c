/-! questions, v: at, empty, hole -/
theorem sub_bt {c d w : Nat} (hc : c < 12) (hd : d < 13) (hw : w < 13) : (0 ≤ nI c - nI d ∧ nI c - nI d ≤ nI w - 1) ↔ (d ≤ c ∧ c < d + w) := by
  have : ∀ c, c < 12 → ∀ d, d < 13 → ∀ w, w < 13 → ((0 ≤ nI c - nI d ∧ nI c - nI d ≤ nI w - 1) ↔ (d ≤ c ∧ c < d + w)) := by decide +kernel
  exact this c hc d hd w hw
theorem cnt_tail {T : Nat → Int32} {a b : Nat} (hab : a ≤ b) (h : ∀ j, a ≤ j → j < b → T j = -4) : cnt T b = cnt T a := by
  obtain ⟨d, rfl⟩ : ∃ d, b = a + d := ⟨b - a, by omega⟩
  clear hab
  induction d with
  | zero => rfl
  | succ d ih => rw [← Nat.add_assoc, cnt, ih (fun j h1 h2 => h j h1 (by omega)), if_pos (h (a + d) (by omega) (by omega))]; rfl
theorem cnt_row (T : Nat → Int32) (a n : Nat) : ∃ e f, sm (fun c => if T (a + c) = -4 then 1 else 0) n = nI e ∧ cnt T (a + n) = cnt T a + f ∧ e + f = n := by
  induction n with
  | zero => exact ⟨0, 0, rfl, rfl, rfl⟩
  | succ n ih =>
    obtain ⟨e, f, h1, h2, h3⟩ := ih
    rw [sm_s, h1, ← Nat.add_assoc, cnt, h2]
    by_cases h : T (a + n) = -4
    · exact ⟨e + 1, f, by rw [if_pos h, ← nI_add]; rfl, by rw [if_pos h]; omega, by omega⟩
    · exact ⟨e, f + 1, by rw [if_neg h, Int32.add_zero], by rw [if_neg h]; omega, by omega⟩
theorem cnt_all {T : Nat → Int32} {n ro : Nat} (hn : n ≤ 6) (hro : ro ≤ 12) (h : ∀ y x, y < 12 → x < 6 → T (6 * y + x) ≠ -4 → y < ro ∧ x < n) : sm (fun r => sm (fun c => if T (6 * r + c) = -4 then 1 else 0) n) ro = nI n * nI ro - nI (cnt T 72) := by
  have key : ∀ r, r ≤ ro → ∃ E, sm (fun r => sm (fun c => if T (6 * r + c) = -4 then 1 else 0) n) r = nI E ∧ E + cnt T (6 * r) = n * r := by
    intro r
    induction r with
    | zero => intro _; exact ⟨0, rfl, rfl⟩
    | succ r ih =>
      intro hr
      obtain ⟨E, e1, e2⟩ := ih (by omega)
      obtain ⟨e, f, h1, h2, h3⟩ := cnt_row T (6 * r) n
      have h4 : cnt T (6 * (r + 1)) = cnt T (6 * r + n) := cnt_tail (by omega) (fun j h1 h2 => by
        have := h r (j - 6 * r) (by omega) (by omega)
        rw [show 6 * r + (j - 6 * r) = j by omega] at this
        exact Decidable.byContradiction (fun z => by have := this z; omega))
      refine ⟨E + e, by rw [sm_s, e1, h1, nI_add], ?_⟩
      rw [h4, h2, Nat.mul_succ]
      omega
  obtain ⟨E, e1, e2⟩ := key ro (Nat.le_refl _)
  have h4 : cnt T 72 = cnt T (6 * ro) := cnt_tail (by omega) (fun j h1 h2 => by
    have := h (j / 6) (j % 6) (by omega) (by omega)
    rw [show 6 * (j / 6) + j % 6 = j by omega] at this
    exact Decidable.byContradiction (fun z => by have := this z; omega))
  rw [e1, h4, pk_mul, nI_sub' (by omega)]
  congr 1
  omega
theorem btw1 {w : Int32} {n : Nat} (hn : n < 2147483648) : (1 ≤ w ∧ w ≤ nI n) ↔ ∃ k, 1 ≤ k ∧ k ≤ n ∧ w = nI k := by
  constructor
  · intro ⟨h1, h2⟩
    obtain ⟨u, hu, rfl⟩ := nI_of (fun z => by
      have h3 := Int32.lt_of_le_of_lt h1 z
      exact absurd h3 (by decide))
    rw [le_nn hu hn] at h2
    have h1' : nI 1 ≤ nI u := h1
    rw [le_nn (by decide) hu] at h1'
    exact ⟨u, h1', h2, rfl⟩
  · rintro ⟨k, h1, h2, rfl⟩
    have : nI 1 ≤ nI k := by rw [le_nn (by decide) (by omega)]; exact h1
    exact ⟨this, by rw [le_nn (by omega) hn]; exact h2⟩
section S72
variable {X : am_X} {M : Nat → Nat → Int32}
theorem itemAt_l {s : Nat → Int32} (hwf : wf s) (hD : DR M s) (hG : RG M 1 s) {c r : Nat} (hc : c < nC s) (hr : r < roI s) (k : Nat) : ∀ i, i + k = mI s → (∀ j, j < i → (PS s).1 (6 * r + c) ≠ nI j) →
    am_ev X kX3_itemAt 3 [.ref 60, .ref 1, .int (nI c), .int (nI r), .int (nI i)] [] (hp M) = some (some (.int ((PS s).1 (6 * r + c))), hp M) := by
  have hm := hwf.2.1.2
  have hn := hwf.1.2
  obtain ⟨hro, h12, hst⟩ := PI_ro hD.1.1
  obtain ⟨ro, z1, z2, z3, z4, z5, z6⟩ := hD.1.1
  have q7 : M 1 7 = nI (mI s) := hG.1.2.2.2.2.2.trans hwf.2.1.1
  induction k with
  | zero =>
    intro i hi hj
    have hT : (PS s).1 (6 * r + c) = -4 := by
      rcases z5 r c (by omega) (by omega) with h | ⟨j, hj1, _, h⟩
      · exact h
      · exact absurd h (hj j (by omega))
    rw [hT]
    simp (disch := omega) only [iX3_itemAt_3, iX3_itemAt_5, iX3_itemAt_6, iX3_itemAt_9, iX3_itemAt_84, iX3_itemAt_86, true_or, or_true, Option.bind_some, Option.bind_none, kk_hp, kn_hp, el_i, el_b, el_z, am_cat_nil, am_cat_i, am_cat_r, am_cat_l, am_cat_n, gd_i, gd_r, gd_n, gd_u, List.length_cons, List.length_nil, true_and, and_true, ↓reduceIte, Nat.zero_le, Nat.reduceLeDiff, Nat.reduceAdd, e_10, e_01, e_00, e_11, Int32.reduceLE, Int32.reduceLT, Int32.reduceAdd, Int32.reduceSub, b01, if_true, if_false, ite_self, rc_1, gf_1_0, pf_1_0, gf_1_1, gf_1_2, gf_1_3, pf_1_3, gf_1_4, pf_1_4, gf_1_5, pf_1_5, gf_1_6, pf_1_6, gf_1_7, pf_1_7, gf_1_8, gf_1_9, nl_add, nl_add', nl_mul, nI_add, in_t, cl_n, le_nn, lt_nn, le_ln, le_nl, lt_nl, lt_ln, eq_nn, eq_nl, in_lit, cl_lit, Nat.le_refl, Nat.add_zero, q7, show mI s ≤ i by omega]
  | succ k ih =>
    intro i hi hj
    have him : i < mI s := by omega
    obtain ⟨c1, c2⟩ := hD.1.2.2.2.1 i him (Sq_all him)
    have z := z6 i him (Sq_all him) r c (by omega) (by omega)
    have elo := @C_isLost X M i (by omega)
    rw [c1] at elo
    obtain ⟨⟨ww, w1, wn⟩, ⟨tw, t1, t4⟩, -, -⟩ := hwf.2.2.1 i him
    have c5 : M 5 i = nI (wI s i) := (hG.2.2.2 i him 0 (by decide)).trans ww
    have c6 : M 6 i = nI (tI s i) := (hG.2.2.2 i him 1 (by decide)).trans tw
    have nx : (PS s).1 (6 * r + c) ≠ nI i → am_ev X kX3_itemAt 78 [.ref 60, .ref 1, .int (nI c), .int (nI r), .int (nI i)] [] (hp M) = some (some (.int ((PS s).1 (6 * r + c))), hp M) := by
      intro hne
      simp (disch := omega) only [iX3_itemAt_78, iX3_itemAt_81, true_or, or_true, Option.bind_some, Option.bind_none, kk_hp, kn_hp, el_i, el_b, el_z, am_cat_nil, am_cat_i, am_cat_r, am_cat_l, am_cat_n, gd_i, gd_r, gd_n, gd_u, List.length_cons, List.length_nil, true_and, and_true, ↓reduceIte, Nat.zero_le, Nat.reduceLeDiff, Nat.reduceAdd, e_10, e_01, e_00, e_11, Int32.reduceLE, Int32.reduceLT, Int32.reduceAdd, Int32.reduceSub, b01, if_true, if_false, ite_self, nl_add, nl_add', nl_mul, nI_add, in_t, cl_n, le_nn, lt_nn, le_ln, le_nl, lt_nl, lt_ln, eq_nn, eq_nl, in_lit, cl_lit, Nat.le_refl, Nat.add_zero]
      exact ih (i + 1) (by omega) (fun j hj2 => by
        by_cases hji : j = i
        · rw [hji]; exact hne
        · exact hj j (by omega))
    rcases hst i him with hz | ⟨c', r', ec, er, hcw, hrt⟩
    · rw [if_pos hz] at elo
      rw [← nx (fun e => by
        obtain ⟨a, b, e1, e2, ⟨e3, e4⟩, e5⟩ := z.mp e
        rw [hz] at e1
        exact absurd e1.symm (nI_ne (by omega)))]
      conv => lhs; rw [iX3_itemAt_3]
      simp (disch := omega) only [iX3_itemAt_5, iX3_itemAt_6, iX3_itemAt_9, iX3_itemAt_12, iX3_itemAt_13, iX3_itemAt_15, iX3_itemAt_18, iX3_itemAt_21, iX3_itemAt_22, iX3_itemAt_23, iX3_itemAt_26, iX3_itemAt_28, iX3_itemAt_29, iX3_itemAt_30, iX3_itemAt_31, iX3_itemAt_32, iX3_itemAt_35, iX3_itemAt_36, iX3_itemAt_37, iX3_itemAt_39, iX3_itemAt_40, iX3_itemAt_41, iX3_itemAt_42, iX3_itemAt_45, iX3_itemAt_48, iX3_itemAt_49, iX3_itemAt_50, iX3_itemAt_53, iX3_itemAt_55, iX3_itemAt_56, iX3_itemAt_57, iX3_itemAt_58, iX3_itemAt_59, iX3_itemAt_62, iX3_itemAt_63, iX3_itemAt_64, iX3_itemAt_66, iX3_itemAt_67, iX3_itemAt_68, iX3_itemAt_69, iX3_itemAt_72, iX3_itemAt_75, iX3_itemAt_77, true_or, or_true, Option.bind_some, Option.bind_none, kk_hp, kn_hp, el_i, el_b, el_z, am_cat_nil, am_cat_i, am_cat_r, am_cat_l, am_cat_n, gd_i, gd_r, gd_n, gd_u, List.length_cons, List.length_nil, true_and, and_true, ↓reduceIte, Nat.zero_le, Nat.reduceLeDiff, Nat.reduceAdd, e_10, e_01, e_00, e_11, Int32.reduceLE, Int32.reduceLT, Int32.reduceAdd, Int32.reduceSub, b01, if_true, if_false, ite_self, rc_1, gf_1_0, pf_1_0, gf_1_1, gf_1_2, gf_1_3, pf_1_3, gf_1_4, pf_1_4, gf_1_5, pf_1_5, gf_1_6, pf_1_6, gf_1_7, pf_1_7, gf_1_8, gf_1_9, rc_60, gf_60_0, gf_60_1, gf_60_2, gf_60_3, pf_60_3, gf_60_4, pf_60_4, gf_60_5, pf_60_5, nl_add, nl_add', nl_mul, nI_add, in_t, cl_n, le_nn, lt_nn, le_ln, le_nl, lt_nl, lt_ln, eq_nn, eq_nl, in_lit, cl_lit, Nat.le_refl, Nat.add_zero, q7, show ¬ mI s ≤ i by omega, elo]
    · have hne : ¬ (PS s).2.1 i = -4 := by rw [ec]; exact nI_ne (by omega)
      rw [if_neg hne] at elo
      have c1' := c1.trans ec
      have c2' := c2.trans er
      have b1 := @C_isBetween X M (nI c - nI c') 0 (nI (wI s i) - 1)
      have b2 := @C_isBetween X M (nI r - nI r') 0 (nI (tI s i) - 1)
      have inb : ((c' ≤ c ∧ c < c' + wI s i) ∧ (r' ≤ r ∧ r < r' + tI s i)) ↔ (PS s).1 (6 * r + c) = nI i := by
        rw [z]
        constructor
        · intro hh; exact ⟨c', r', ec, er, hh⟩
        · rintro ⟨a, b, e1, e2, e3, e4⟩
          have a1 := nI_inj (by omega) (by omega) (ec.symm.trans e1)
          have a2 := nI_inj (by omega) (by omega) (er.symm.trans e2)
          rw [a1, a2]; exact ⟨e3, e4⟩
      by_cases hcc : c' ≤ c ∧ c < c' + wI s i
      · rw [if_pos ((sub_bt (by omega) (by omega) (by omega)).mpr hcc)] at b1
        by_cases hrr : r' ≤ r ∧ r < r' + tI s i
        · rw [if_pos ((sub_bt (by omega) (by omega) (by omega)).mpr hrr)] at b2
          rw [inb.mp ⟨hcc, hrr⟩]
          conv => lhs; rw [iX3_itemAt_3]
          simp (disch := omega) only [iX3_itemAt_5, iX3_itemAt_6, iX3_itemAt_9, iX3_itemAt_12, iX3_itemAt_13, iX3_itemAt_15, iX3_itemAt_18, iX3_itemAt_21, iX3_itemAt_22, iX3_itemAt_23, iX3_itemAt_26, iX3_itemAt_28, iX3_itemAt_29, iX3_itemAt_30, iX3_itemAt_31, iX3_itemAt_32, iX3_itemAt_35, iX3_itemAt_36, iX3_itemAt_37, iX3_itemAt_39, iX3_itemAt_40, iX3_itemAt_41, iX3_itemAt_42, iX3_itemAt_45, iX3_itemAt_48, iX3_itemAt_49, iX3_itemAt_50, iX3_itemAt_53, iX3_itemAt_55, iX3_itemAt_56, iX3_itemAt_57, iX3_itemAt_58, iX3_itemAt_59, iX3_itemAt_62, iX3_itemAt_63, iX3_itemAt_64, iX3_itemAt_66, iX3_itemAt_67, iX3_itemAt_68, iX3_itemAt_69, iX3_itemAt_72, iX3_itemAt_75, iX3_itemAt_77, true_or, or_true, Option.bind_some, Option.bind_none, kk_hp, kn_hp, el_i, el_b, el_z, am_cat_nil, am_cat_i, am_cat_r, am_cat_l, am_cat_n, gd_i, gd_r, gd_n, gd_u, List.length_cons, List.length_nil, true_and, and_true, ↓reduceIte, Nat.zero_le, Nat.reduceLeDiff, Nat.reduceAdd, e_10, e_01, e_00, e_11, Int32.reduceLE, Int32.reduceLT, Int32.reduceAdd, Int32.reduceSub, b01, if_true, if_false, ite_self, rc_1, gf_1_0, pf_1_0, gf_1_1, gf_1_2, gf_1_3, pf_1_3, gf_1_4, pf_1_4, gf_1_5, pf_1_5, gf_1_6, pf_1_6, gf_1_7, pf_1_7, gf_1_8, gf_1_9, ga_5, wi_5, ga_6, wi_6, rc_60, gf_60_0, gf_60_1, gf_60_2, gf_60_3, pf_60_3, gf_60_4, pf_60_4, gf_60_5, pf_60_5, ga_61, wi_61, ga_62, wi_62, nl_add, nl_add', nl_mul, nI_add, in_t, cl_n, le_nn, lt_nn, le_ln, le_nl, lt_nl, lt_ln, eq_nn, eq_nl, in_lit, cl_lit, Nat.le_refl, Nat.add_zero, f1_0, f1_1, q7, show ¬ mI s ≤ i by omega, elo, c1', c2', c5, c6, b1, b2]
        · rw [if_neg (fun hh => hrr ((sub_bt (by omega) (by omega) (by omega)).mp hh))] at b2
          rw [← nx (fun e => hrr (inb.mpr e).2)]
          conv => lhs; rw [iX3_itemAt_3]
          simp (disch := omega) only [iX3_itemAt_5, iX3_itemAt_6, iX3_itemAt_9, iX3_itemAt_12, iX3_itemAt_13, iX3_itemAt_15, iX3_itemAt_18, iX3_itemAt_21, iX3_itemAt_22, iX3_itemAt_23, iX3_itemAt_26, iX3_itemAt_28, iX3_itemAt_29, iX3_itemAt_30, iX3_itemAt_31, iX3_itemAt_32, iX3_itemAt_35, iX3_itemAt_36, iX3_itemAt_37, iX3_itemAt_39, iX3_itemAt_40, iX3_itemAt_41, iX3_itemAt_42, iX3_itemAt_45, iX3_itemAt_48, iX3_itemAt_49, iX3_itemAt_50, iX3_itemAt_53, iX3_itemAt_55, iX3_itemAt_56, iX3_itemAt_57, iX3_itemAt_58, iX3_itemAt_59, iX3_itemAt_62, iX3_itemAt_63, iX3_itemAt_64, iX3_itemAt_66, iX3_itemAt_67, iX3_itemAt_68, iX3_itemAt_69, iX3_itemAt_72, iX3_itemAt_75, iX3_itemAt_77, true_or, or_true, Option.bind_some, Option.bind_none, kk_hp, kn_hp, el_i, el_b, el_z, am_cat_nil, am_cat_i, am_cat_r, am_cat_l, am_cat_n, gd_i, gd_r, gd_n, gd_u, List.length_cons, List.length_nil, true_and, and_true, ↓reduceIte, Nat.zero_le, Nat.reduceLeDiff, Nat.reduceAdd, e_10, e_01, e_00, e_11, Int32.reduceLE, Int32.reduceLT, Int32.reduceAdd, Int32.reduceSub, b01, if_true, if_false, ite_self, rc_1, gf_1_0, pf_1_0, gf_1_1, gf_1_2, gf_1_3, pf_1_3, gf_1_4, pf_1_4, gf_1_5, pf_1_5, gf_1_6, pf_1_6, gf_1_7, pf_1_7, gf_1_8, gf_1_9, ga_5, wi_5, ga_6, wi_6, rc_60, gf_60_0, gf_60_1, gf_60_2, gf_60_3, pf_60_3, gf_60_4, pf_60_4, gf_60_5, pf_60_5, ga_61, wi_61, ga_62, wi_62, nl_add, nl_add', nl_mul, nI_add, in_t, cl_n, le_nn, lt_nn, le_ln, le_nl, lt_nl, lt_ln, eq_nn, eq_nl, in_lit, cl_lit, Nat.le_refl, Nat.add_zero, f1_0, f1_1, q7, show ¬ mI s ≤ i by omega, elo, c1', c2', c5, c6, b1, b2]
      · rw [if_neg (fun hh => hcc ((sub_bt (by omega) (by omega) (by omega)).mp hh))] at b1
        rw [← nx (fun e => hcc (inb.mpr e).1)]
        conv => lhs; rw [iX3_itemAt_3]
        simp (disch := omega) only [iX3_itemAt_5, iX3_itemAt_6, iX3_itemAt_9, iX3_itemAt_12, iX3_itemAt_13, iX3_itemAt_15, iX3_itemAt_18, iX3_itemAt_21, iX3_itemAt_22, iX3_itemAt_23, iX3_itemAt_26, iX3_itemAt_28, iX3_itemAt_29, iX3_itemAt_30, iX3_itemAt_31, iX3_itemAt_32, iX3_itemAt_35, iX3_itemAt_36, iX3_itemAt_37, iX3_itemAt_39, iX3_itemAt_40, iX3_itemAt_41, iX3_itemAt_42, iX3_itemAt_45, iX3_itemAt_48, iX3_itemAt_49, iX3_itemAt_50, iX3_itemAt_53, iX3_itemAt_55, iX3_itemAt_56, iX3_itemAt_57, iX3_itemAt_58, iX3_itemAt_59, iX3_itemAt_62, iX3_itemAt_63, iX3_itemAt_64, iX3_itemAt_66, iX3_itemAt_67, iX3_itemAt_68, iX3_itemAt_69, iX3_itemAt_72, iX3_itemAt_75, iX3_itemAt_77, true_or, or_true, Option.bind_some, Option.bind_none, kk_hp, kn_hp, el_i, el_b, el_z, am_cat_nil, am_cat_i, am_cat_r, am_cat_l, am_cat_n, gd_i, gd_r, gd_n, gd_u, List.length_cons, List.length_nil, true_and, and_true, ↓reduceIte, Nat.zero_le, Nat.reduceLeDiff, Nat.reduceAdd, e_10, e_01, e_00, e_11, Int32.reduceLE, Int32.reduceLT, Int32.reduceAdd, Int32.reduceSub, b01, if_true, if_false, ite_self, rc_1, gf_1_0, pf_1_0, gf_1_1, gf_1_2, gf_1_3, pf_1_3, gf_1_4, pf_1_4, gf_1_5, pf_1_5, gf_1_6, pf_1_6, gf_1_7, pf_1_7, gf_1_8, gf_1_9, ga_5, wi_5, ga_6, wi_6, rc_60, gf_60_0, gf_60_1, gf_60_2, gf_60_3, pf_60_3, gf_60_4, pf_60_4, gf_60_5, pf_60_5, ga_61, wi_61, ga_62, wi_62, nl_add, nl_add', nl_mul, nI_add, in_t, cl_n, le_nn, lt_nn, le_ln, le_nl, lt_nl, lt_ln, eq_nn, eq_nl, in_lit, cl_lit, Nat.le_refl, Nat.add_zero, f1_0, f1_1, q7, show ¬ mI s ≤ i by omega, elo, c1', c2', c5, c6, b1]
theorem S_at (h : RR M) (c r : Int32) : St X kX8_at [.ref 0, .int c, .int r] kX9_at [.ref 82, .int c, .int r] M := by
  have hwf := h.1
  have hn := hwf.1.2
  obtain ⟨M1, e1, hD, hG, h83, hR1, M2, e2, hF, k83, hR2⟩ := @Q_all X M h
  obtain ⟨hro, h12, hst⟩ := PI_ro hD.1.1
  have q0 : M1 1 0 = nI (nC (M 83)) := hG.1.1.trans hwf.1.1
  have p60 : M1 60 3 = nI (roI (M 83)) := hD.1.2.2.1.trans hro
  have p16 : M2 82 16 = nI (roI (M 83)) := hF.2.2.1.trans hro
  have k0 : M2 83 0 = nI (nC (M 83)) := by rw [k83]; exact hwf.1.1
  rcases Classical.em (∃ k, k < nC (M 83) ∧ c = nI k) with ⟨k, hk, rfl⟩ | hno
  · have hb := @C_bt1 X M1 k (nC (M 83)) hk (by omega)
    have hr := @M_col1 X M2 k (nC (M 83)) k0 hk (by omega)
    have hi := @M_in X M2 r.toInt64 0 (nI (roI (M 83)) - 1).toInt64
    simp (disch := decide) only [wl, wl_l, wl_r] at hi
    rcases Classical.em (∃ k, k < roI (M 83) ∧ r = nI k) with ⟨y, hy, rfl⟩ | hno
    · have hb2 := @C_bt1 X M1 y (roI (M 83)) hy (by omega)
      rw [if_pos ((btw (by omega)).mpr ⟨y, hy, rfl⟩)] at hi
      have x := @itemAt_l X M1 (M 83) hwf hD hG k y hk hy (mI (M 83)) 0 (by omega) (fun j hj => by omega)
      rw [nI_0] at x
      have x89 : M2 89 (6 * y + k) = (PS (M 83)).1 (6 * y + k) := hF.1 _ (by omega)
      refine ⟨(PS (M 83)).1 (6 * y + k), M1, M2, ?_, ?_, hR2⟩
      · simp (disch := omega) only [iX8_at_0, iX8_at_1, iX8_at_4, iX8_at_5, iX8_at_6, iX8_at_7, iX8_at_10, iX8_at_13, iX8_at_14, iX8_at_15, iX8_at_18, iX8_at_21, iX8_at_22, iX8_at_23, iX8_at_24, iX8_at_27, iX8_at_30, iX8_at_31, iX8_at_32, iX8_at_35, iX8_at_38, iX8_at_39, iX8_at_40, iX8_at_41, iX8_at_44, iX8_at_45, iX8_at_48, iX8_at_49, iX8_at_50, iX8_at_53, iX3_itemAt_0, iX3_itemAt_1, true_or, or_true, Option.bind_some, Option.bind_none, kk_hp, kn_hp, el_i, el_b, el_z, am_cat_nil, am_cat_i, am_cat_r, am_cat_l, am_cat_n, gd_i, gd_r, gd_n, gd_u, List.length_cons, List.length_nil, true_and, and_true, ↓reduceIte, Nat.zero_le, Nat.reduceLeDiff, Nat.reduceAdd, e_10, e_01, e_00, e_11, Int32.reduceLE, Int32.reduceLT, Int32.reduceAdd, Int32.reduceSub, b01, if_true, if_false, ite_self, rc_0, gf_0_0, gf_0_1, gf_0_2, gf_0_3, gf_0_4, gf_0_5, gf_0_6, gf_0_7, gf_0_8, pf_0_8, gf_0_9, pf_0_9, rc_1, gf_1_0, pf_1_0, gf_1_1, gf_1_2, gf_1_3, pf_1_3, gf_1_4, pf_1_4, gf_1_5, pf_1_5, gf_1_6, pf_1_6, gf_1_7, pf_1_7, gf_1_8, gf_1_9, rc_60, gf_60_0, gf_60_1, gf_60_2, gf_60_3, pf_60_3, gf_60_4, pf_60_4, gf_60_5, pf_60_5, nl_add, nl_add', nl_mul, nI_add, in_t, cl_n, le_nn, lt_nn, le_ln, le_nl, lt_nl, lt_ln, eq_nn, eq_nl, in_lit, cl_lit, Nat.le_refl, Nat.add_zero, e1, q0, p60, hb, hb2, x]
      · simp (disch := omega) only [iX9_at_0, iX9_at_1, iX9_at_4, iX9_at_5, iX9_at_6, iX9_at_9, iX9_at_12, iX9_at_13, iX9_at_14, iX9_at_15, iX9_at_16, iX9_at_19, iX9_at_20, iX9_at_21, iX9_at_22, iX9_at_25, iX9_at_28, iX9_at_29, iX9_at_32, iX9_at_34, iX9_at_35, iX9_at_36, iX9_at_37, iX9_at_38, iX9_at_39, iX9_at_42, iX9_at_43, true_or, or_true, Option.bind_some, Option.bind_none, kk_hp, kn_hp, el_i, el_b, el_z, am_cat_nil, am_cat_i, am_cat_r, am_cat_l, am_cat_n, gd_i, gd_r, gd_n, gd_u, List.length_cons, List.length_nil, true_and, and_true, ↓reduceIte, Nat.zero_le, Nat.reduceLeDiff, Nat.reduceAdd, e_10, e_01, e_00, e_11, Int32.reduceLE, Int32.reduceLT, Int32.reduceAdd, Int32.reduceSub, b01, if_true, if_false, ite_self, rc_82, gf_82_0, gf_82_1, gf_82_2, gf_82_3, gf_82_4, gf_82_5, gf_82_6, pf_82_6, gf_82_7, pf_82_7, gf_82_8, pf_82_8, gf_82_9, pf_82_9, gf_82_10, pf_82_10, gf_82_11, pf_82_11, gf_82_12, pf_82_12, gf_82_13, gf_82_14, gf_82_15, gf_82_16, pf_82_16, gf_82_17, gf_82_18, gf_82_19, gf_82_20, gf_82_21, gf_82_22, gf_82_23, gf_82_24, gf_82_25, pf_82_25, ga_83, wi_83, ga_84, wi_84, ga_85, wb_85, ga_86, wi_86, ga_87, wb_87, ga_88, wi_88, ga_89, wi_89, ga_90, wi_90, ga_91, wi_91, ga_92, wi_92, ga_93, wi_93, ga_94, wi_94, ga_95, wi_95, ga_96, wb_96, ga_97, wi_97, ga_98, wi_98, ga_99, wi_99, nl_add, nl_add', nl_mul, nI_add, in_t, cl_n, le_nn, lt_nn, le_ln, le_nl, lt_nl, lt_ln, eq_nn, eq_nl, in_lit, cl_lit, Nat.le_refl, Nat.add_zero, e2, hr, hi, p16, x89]
    · have hb2 := @C_bt0 X M1 r (roI (M 83)) (by omega) hno
      rw [if_neg (fun z => hno ((btw (by omega)).mp z))] at hi
      refine ⟨-1, M1, M2, ?_, ?_, hR2⟩
      · simp (disch := omega) only [iX8_at_0, iX8_at_1, iX8_at_4, iX8_at_5, iX8_at_6, iX8_at_7, iX8_at_10, iX8_at_13, iX8_at_14, iX8_at_15, iX8_at_18, iX8_at_21, iX8_at_22, iX8_at_23, iX8_at_24, iX8_at_27, iX8_at_30, iX8_at_31, iX8_at_32, iX8_at_35, iX8_at_38, iX8_at_39, iX8_at_40, iX8_at_41, iX8_at_44, iX8_at_45, iX8_at_48, iX8_at_49, iX8_at_50, iX8_at_53, true_or, or_true, Option.bind_some, Option.bind_none, kk_hp, kn_hp, el_i, el_b, el_z, am_cat_nil, am_cat_i, am_cat_r, am_cat_l, am_cat_n, gd_i, gd_r, gd_n, gd_u, List.length_cons, List.length_nil, true_and, and_true, ↓reduceIte, Nat.zero_le, Nat.reduceLeDiff, Nat.reduceAdd, e_10, e_01, e_00, e_11, Int32.reduceLE, Int32.reduceLT, Int32.reduceAdd, Int32.reduceSub, b01, if_true, if_false, ite_self, rc_0, gf_0_0, gf_0_1, gf_0_2, gf_0_3, gf_0_4, gf_0_5, gf_0_6, gf_0_7, gf_0_8, pf_0_8, gf_0_9, pf_0_9, rc_1, gf_1_0, pf_1_0, gf_1_1, gf_1_2, gf_1_3, pf_1_3, gf_1_4, pf_1_4, gf_1_5, pf_1_5, gf_1_6, pf_1_6, gf_1_7, pf_1_7, gf_1_8, gf_1_9, rc_60, gf_60_0, gf_60_1, gf_60_2, gf_60_3, pf_60_3, gf_60_4, pf_60_4, gf_60_5, pf_60_5, nl_add, nl_add', nl_mul, nI_add, in_t, cl_n, le_nn, lt_nn, le_ln, le_nl, lt_nl, lt_ln, eq_nn, eq_nl, in_lit, cl_lit, Nat.le_refl, Nat.add_zero, e1, q0, p60, hb, hb2]
      · simp (disch := omega) only [iX9_at_0, iX9_at_1, iX9_at_4, iX9_at_5, iX9_at_6, iX9_at_9, iX9_at_12, iX9_at_13, iX9_at_14, iX9_at_15, iX9_at_16, iX9_at_19, iX9_at_20, iX9_at_21, iX9_at_22, iX9_at_25, iX9_at_28, iX9_at_29, iX9_at_32, iX9_at_34, iX9_at_35, iX9_at_36, iX9_at_37, iX9_at_38, iX9_at_39, iX9_at_42, iX9_at_43, true_or, or_true, Option.bind_some, Option.bind_none, kk_hp, kn_hp, el_i, el_b, el_z, am_cat_nil, am_cat_i, am_cat_r, am_cat_l, am_cat_n, gd_i, gd_r, gd_n, gd_u, List.length_cons, List.length_nil, true_and, and_true, ↓reduceIte, Nat.zero_le, Nat.reduceLeDiff, Nat.reduceAdd, e_10, e_01, e_00, e_11, Int32.reduceLE, Int32.reduceLT, Int32.reduceAdd, Int32.reduceSub, b01, if_true, if_false, ite_self, rc_82, gf_82_0, gf_82_1, gf_82_2, gf_82_3, gf_82_4, gf_82_5, gf_82_6, pf_82_6, gf_82_7, pf_82_7, gf_82_8, pf_82_8, gf_82_9, pf_82_9, gf_82_10, pf_82_10, gf_82_11, pf_82_11, gf_82_12, pf_82_12, gf_82_13, gf_82_14, gf_82_15, gf_82_16, pf_82_16, gf_82_17, gf_82_18, gf_82_19, gf_82_20, gf_82_21, gf_82_22, gf_82_23, gf_82_24, gf_82_25, pf_82_25, ga_83, wi_83, ga_84, wi_84, ga_85, wb_85, ga_86, wi_86, ga_87, wb_87, ga_88, wi_88, ga_89, wi_89, ga_90, wi_90, ga_91, wi_91, ga_92, wi_92, ga_93, wi_93, ga_94, wi_94, ga_95, wi_95, ga_96, wb_96, ga_97, wi_97, ga_98, wi_98, ga_99, wi_99, nl_add, nl_add', nl_mul, nI_add, in_t, cl_n, le_nn, lt_nn, le_ln, le_nl, lt_nl, lt_ln, eq_nn, eq_nl, in_lit, cl_lit, Nat.le_refl, Nat.add_zero, e2, hr, hi, p16]
  · have hb := @C_bt0 X M1 c (nC (M 83)) (by omega) hno
    have hr := @M_col0 X M2 c (nC (M 83)) k0 (by omega) hno
    refine ⟨-1, M1, M2, ?_, ?_, hR2⟩
    · simp (disch := omega) only [iX8_at_0, iX8_at_1, iX8_at_4, iX8_at_5, iX8_at_6, iX8_at_7, iX8_at_10, iX8_at_13, iX8_at_14, iX8_at_15, iX8_at_18, iX8_at_21, iX8_at_22, iX8_at_23, iX8_at_24, iX8_at_27, iX8_at_30, iX8_at_31, iX8_at_32, iX8_at_35, iX8_at_38, iX8_at_39, iX8_at_40, iX8_at_41, iX8_at_44, iX8_at_45, iX8_at_48, iX8_at_49, iX8_at_50, iX8_at_53, true_or, or_true, Option.bind_some, Option.bind_none, kk_hp, kn_hp, el_i, el_b, el_z, am_cat_nil, am_cat_i, am_cat_r, am_cat_l, am_cat_n, gd_i, gd_r, gd_n, gd_u, List.length_cons, List.length_nil, true_and, and_true, ↓reduceIte, Nat.zero_le, Nat.reduceLeDiff, Nat.reduceAdd, e_10, e_01, e_00, e_11, Int32.reduceLE, Int32.reduceLT, Int32.reduceAdd, Int32.reduceSub, b01, if_true, if_false, ite_self, rc_0, gf_0_0, gf_0_1, gf_0_2, gf_0_3, gf_0_4, gf_0_5, gf_0_6, gf_0_7, gf_0_8, pf_0_8, gf_0_9, pf_0_9, rc_1, gf_1_0, pf_1_0, gf_1_1, gf_1_2, gf_1_3, pf_1_3, gf_1_4, pf_1_4, gf_1_5, pf_1_5, gf_1_6, pf_1_6, gf_1_7, pf_1_7, gf_1_8, gf_1_9, rc_60, gf_60_0, gf_60_1, gf_60_2, gf_60_3, pf_60_3, gf_60_4, pf_60_4, gf_60_5, pf_60_5, nl_add, nl_add', nl_mul, nI_add, in_t, cl_n, le_nn, lt_nn, le_ln, le_nl, lt_nl, lt_ln, eq_nn, eq_nl, in_lit, cl_lit, Nat.le_refl, Nat.add_zero, e1, q0, hb]
    · simp (disch := omega) only [iX9_at_0, iX9_at_1, iX9_at_4, iX9_at_5, iX9_at_6, iX9_at_9, iX9_at_12, iX9_at_13, iX9_at_14, iX9_at_15, iX9_at_16, iX9_at_19, iX9_at_20, iX9_at_21, iX9_at_22, iX9_at_25, iX9_at_28, iX9_at_29, iX9_at_32, iX9_at_34, iX9_at_35, iX9_at_36, iX9_at_37, iX9_at_38, iX9_at_39, iX9_at_42, iX9_at_43, true_or, or_true, Option.bind_some, Option.bind_none, kk_hp, kn_hp, el_i, el_b, el_z, am_cat_nil, am_cat_i, am_cat_r, am_cat_l, am_cat_n, gd_i, gd_r, gd_n, gd_u, List.length_cons, List.length_nil, true_and, and_true, ↓reduceIte, Nat.zero_le, Nat.reduceLeDiff, Nat.reduceAdd, e_10, e_01, e_00, e_11, Int32.reduceLE, Int32.reduceLT, Int32.reduceAdd, Int32.reduceSub, b01, if_true, if_false, ite_self, rc_82, gf_82_0, gf_82_1, gf_82_2, gf_82_3, gf_82_4, gf_82_5, gf_82_6, pf_82_6, gf_82_7, pf_82_7, gf_82_8, pf_82_8, gf_82_9, pf_82_9, gf_82_10, pf_82_10, gf_82_11, pf_82_11, gf_82_12, pf_82_12, gf_82_13, gf_82_14, gf_82_15, gf_82_16, pf_82_16, gf_82_17, gf_82_18, gf_82_19, gf_82_20, gf_82_21, gf_82_22, gf_82_23, gf_82_24, gf_82_25, pf_82_25, ga_83, wi_83, ga_84, wi_84, ga_85, wb_85, ga_86, wi_86, ga_87, wb_87, ga_88, wi_88, ga_89, wi_89, ga_90, wi_90, ga_91, wi_91, ga_92, wi_92, ga_93, wi_93, ga_94, wi_94, ga_95, wi_95, ga_96, wb_96, ga_97, wi_97, ga_98, wi_98, ga_99, wi_99, nl_add, nl_add', nl_mul, nI_add, in_t, cl_n, le_nn, lt_nn, le_ln, le_nl, lt_nl, lt_ln, eq_nn, eq_nl, in_lit, cl_lit, Nat.le_refl, Nat.add_zero, e2, hr]
theorem S_empty (h : RR M) : St X kX8_empty [.ref 0] kX9_empty [.ref 82, am_u, am_u, am_u] M := by
  have hwf := h.1
  have hn := hwf.1.2
  obtain ⟨M1, e1, hD, hG, h83, hR1, M2, e2, hF, k83, hR2⟩ := @Q_all X M h
  obtain ⟨hro, h12, hst⟩ := PI_ro hD.1.1
  have q0 : M1 1 0 = nI (nC (M 83)) := hG.1.1.trans hwf.1.1
  have p60 : M1 60 3 = nI (roI (M 83)) := hD.1.2.2.1.trans hro
  have p16 : M2 82 16 = nI (roI (M 83)) := hF.2.2.1.trans hro
  have p65 : M1 60 5 = nI (cnt (PS (M 83)).1 72) := hD.1.2.2.2.2.2
  have k0 : M2 83 0 = nI (nC (M 83)) := by rw [k83]; exact hwf.1.1
  have hcn : sm (fun r => sm (fun c => if M2 89 (6 * r + c) = -4 then 1 else 0) (nC (M 83))) (roI (M 83)) = nI (nC (M 83)) * nI (roI (M 83)) - nI (cnt (PS (M 83)).1 72) := by
    obtain ⟨ro, z1, z2, z3, z4, z5, z6⟩ := hD.1.1
    have hroe : ro = roI (M 83) := nI_inj (by omega) (by omega) (z2.symm.trans hro)
    rw [← cnt_all hn h12 (fun y x hy hx hne => by rw [← hroe]; exact z3 y x hy hx hne)]
    refine sm_ext (fun r hr => sm_ext (fun c hc => ?_))
    rw [hF.1 (6 * r + c) (by omega)]
  generalize nC (M 83) = n at *
  generalize roI (M 83) = ro at *
  have hlp := loop_inv (fun r (v : Value) => am_ev X kX9_empty 8 [.ref 82, .int (sm (fun r => sm (fun c => if M2 89 (6 * r + c) = -4 then 1 else 0) n) r), .int (nI r), v] [] (hp M2)) (fun _ _ => True) 0 ro (by omega) am_u trivial ?_
  · obtain ⟨v, e3, -⟩ := hlp
    rw [hcn] at e3
    simp only [sm_0, nI_0] at e3
    refine ⟨nI n * nI ro - nI (cnt (PS (M 83)).1 72), M1, M2, ?_, ?_, hR2⟩
    · simp (disch := omega) only [iX8_empty_0, iX8_empty_1, iX8_empty_4, iX8_empty_5, iX8_empty_8, iX8_empty_11, iX8_empty_12, iX8_empty_15, iX8_empty_18, iX8_empty_19, iX8_empty_20, iX8_empty_23, iX8_empty_26, iX8_empty_27, true_or, or_true, Option.bind_some, Option.bind_none, kk_hp, kn_hp, el_i, el_b, el_z, am_cat_nil, am_cat_i, am_cat_r, am_cat_l, am_cat_n, gd_i, gd_r, gd_n, gd_u, List.length_cons, List.length_nil, true_and, and_true, ↓reduceIte, Nat.zero_le, Nat.reduceLeDiff, Nat.reduceAdd, e_10, e_01, e_00, e_11, Int32.reduceLE, Int32.reduceLT, Int32.reduceAdd, Int32.reduceSub, b01, if_true, if_false, ite_self, rc_0, gf_0_0, gf_0_1, gf_0_2, gf_0_3, gf_0_4, gf_0_5, gf_0_6, gf_0_7, gf_0_8, pf_0_8, gf_0_9, pf_0_9, rc_1, gf_1_0, pf_1_0, gf_1_1, gf_1_2, gf_1_3, pf_1_3, gf_1_4, pf_1_4, gf_1_5, pf_1_5, gf_1_6, pf_1_6, gf_1_7, pf_1_7, gf_1_8, gf_1_9, rc_60, gf_60_0, gf_60_1, gf_60_2, gf_60_3, pf_60_3, gf_60_4, pf_60_4, gf_60_5, pf_60_5, e1, q0, p60, p65]
    · simp (disch := omega) only [iX9_empty_0, iX9_empty_1, iX9_empty_4, iX9_empty_5, iX9_empty_6, iX9_empty_7, true_or, or_true, Option.bind_some, Option.bind_none, kk_hp, kn_hp, el_i, el_b, el_z, am_cat_nil, am_cat_i, am_cat_r, am_cat_l, am_cat_n, gd_i, gd_r, gd_n, gd_u, List.length_cons, List.length_nil, true_and, and_true, ↓reduceIte, Nat.zero_le, Nat.reduceLeDiff, Nat.reduceAdd, e_10, e_01, e_00, e_11, Int32.reduceLE, Int32.reduceLT, Int32.reduceAdd, Int32.reduceSub, b01, if_true, if_false, ite_self, rc_82, gf_82_0, gf_82_1, gf_82_2, gf_82_3, gf_82_4, gf_82_5, gf_82_6, pf_82_6, gf_82_7, pf_82_7, gf_82_8, pf_82_8, gf_82_9, pf_82_9, gf_82_10, pf_82_10, gf_82_11, pf_82_11, gf_82_12, pf_82_12, gf_82_13, gf_82_14, gf_82_15, gf_82_16, pf_82_16, gf_82_17, gf_82_18, gf_82_19, gf_82_20, gf_82_21, gf_82_22, gf_82_23, gf_82_24, gf_82_25, pf_82_25, ga_83, wi_83, ga_84, wi_84, ga_85, wb_85, ga_86, wi_86, ga_87, wb_87, ga_88, wi_88, ga_89, wi_89, ga_90, wi_90, ga_91, wi_91, ga_92, wi_92, ga_93, wi_93, ga_94, wi_94, ga_95, wi_95, ga_96, wb_96, ga_97, wi_97, ga_98, wi_98, ga_99, wi_99, nl_add, nl_add', nl_mul, nI_add, in_t, cl_n, le_nn, lt_nn, le_ln, le_nl, lt_nl, lt_ln, eq_nn, eq_nl, in_lit, cl_lit, Nat.le_refl, Nat.add_zero, e2]
      rw [e3]
      simp (disch := omega) only [iX9_empty_8, iX9_empty_9, iX9_empty_10, iX9_empty_13, iX9_empty_67, iX9_empty_68, true_or, or_true, Option.bind_some, Option.bind_none, kk_hp, kn_hp, el_i, el_b, el_z, am_cat_nil, am_cat_i, am_cat_r, am_cat_l, am_cat_n, gd_i, gd_r, gd_n, gd_u, List.length_cons, List.length_nil, true_and, and_true, ↓reduceIte, Nat.zero_le, Nat.reduceLeDiff, Nat.reduceAdd, e_10, e_01, e_00, e_11, Int32.reduceLE, Int32.reduceLT, Int32.reduceAdd, Int32.reduceSub, b01, if_true, if_false, ite_self, rc_82, gf_82_0, gf_82_1, gf_82_2, gf_82_3, gf_82_4, gf_82_5, gf_82_6, pf_82_6, gf_82_7, pf_82_7, gf_82_8, pf_82_8, gf_82_9, pf_82_9, gf_82_10, pf_82_10, gf_82_11, pf_82_11, gf_82_12, pf_82_12, gf_82_13, gf_82_14, gf_82_15, gf_82_16, pf_82_16, gf_82_17, gf_82_18, gf_82_19, gf_82_20, gf_82_21, gf_82_22, gf_82_23, gf_82_24, gf_82_25, pf_82_25, ga_83, wi_83, ga_84, wi_84, ga_85, wb_85, ga_86, wi_86, ga_87, wb_87, ga_88, wi_88, ga_89, wi_89, ga_90, wi_90, ga_91, wi_91, ga_92, wi_92, ga_93, wi_93, ga_94, wi_94, ga_95, wi_95, ga_96, wb_96, ga_97, wi_97, ga_98, wi_98, ga_99, wi_99, nl_add, nl_add', nl_mul, nI_add, in_t, cl_n, le_nn, lt_nn, le_ln, le_nl, lt_nl, lt_ln, eq_nn, eq_nl, in_lit, cl_lit, Nat.le_refl, Nat.add_zero, p16]
  intro r v _ hr _
  have e3 := chain (fun j => am_ev X kX9_empty 18 [.ref 82, .int (sm (fun r => sm (fun c => if M2 89 (6 * r + c) = -4 then 1 else 0) n) r + sm (fun c => if M2 89 (6 * r + c) = -4 then 1 else 0) j), .int (nI r), .int (nI j)] [] (hp M2)) 0 n (by omega) (fun j _ hj => by
    conv => lhs; rw [iX9_empty_18]
    rw [add_sm]
    by_cases hq : M2 89 (6 * r + j) = -4
    · rw [if_pos hq]
      simp (disch := omega) only [iX9_empty_19, iX9_empty_20, iX9_empty_23, iX9_empty_24, iX9_empty_25, iX9_empty_28, iX9_empty_29, iX9_empty_30, iX9_empty_33, iX9_empty_35, iX9_empty_36, iX9_empty_37, iX9_empty_38, iX9_empty_39, iX9_empty_40, iX9_empty_42, iX9_empty_45, iX9_empty_46, iX9_empty_49, iX9_empty_50, iX9_empty_53, iX9_empty_54, iX9_empty_55, iX9_empty_58, true_or, or_true, Option.bind_some, Option.bind_none, kk_hp, kn_hp, el_i, el_b, el_z, am_cat_nil, am_cat_i, am_cat_r, am_cat_l, am_cat_n, gd_i, gd_r, gd_n, gd_u, List.length_cons, List.length_nil, true_and, and_true, ↓reduceIte, Nat.zero_le, Nat.reduceLeDiff, Nat.reduceAdd, e_10, e_01, e_00, e_11, Int32.reduceLE, Int32.reduceLT, Int32.reduceAdd, Int32.reduceSub, b01, if_true, if_false, ite_self, rc_82, gf_82_0, gf_82_1, gf_82_2, gf_82_3, gf_82_4, gf_82_5, gf_82_6, pf_82_6, gf_82_7, pf_82_7, gf_82_8, pf_82_8, gf_82_9, pf_82_9, gf_82_10, pf_82_10, gf_82_11, pf_82_11, gf_82_12, pf_82_12, gf_82_13, gf_82_14, gf_82_15, gf_82_16, pf_82_16, gf_82_17, gf_82_18, gf_82_19, gf_82_20, gf_82_21, gf_82_22, gf_82_23, gf_82_24, gf_82_25, pf_82_25, ga_83, wi_83, ga_84, wi_84, ga_85, wb_85, ga_86, wi_86, ga_87, wb_87, ga_88, wi_88, ga_89, wi_89, ga_90, wi_90, ga_91, wi_91, ga_92, wi_92, ga_93, wi_93, ga_94, wi_94, ga_95, wi_95, ga_96, wb_96, ga_97, wi_97, ga_98, wi_98, ga_99, wi_99, nl_add, nl_add', nl_mul, nI_add, in_t, cl_n, le_nn, lt_nn, le_ln, le_nl, lt_nl, lt_ln, eq_nn, eq_nl, in_lit, cl_lit, Nat.le_refl, Nat.add_zero, k0, show ¬ n ≤ j by omega, hq, M_flag]
    · rw [if_neg hq]
      simp (disch := omega) only [iX9_empty_19, iX9_empty_20, iX9_empty_23, iX9_empty_24, iX9_empty_25, iX9_empty_28, iX9_empty_29, iX9_empty_30, iX9_empty_33, iX9_empty_35, iX9_empty_36, iX9_empty_37, iX9_empty_38, iX9_empty_39, iX9_empty_40, iX9_empty_42, iX9_empty_45, iX9_empty_46, iX9_empty_49, iX9_empty_50, iX9_empty_53, iX9_empty_54, iX9_empty_55, iX9_empty_58, true_or, or_true, Option.bind_some, Option.bind_none, kk_hp, kn_hp, el_i, el_b, el_z, am_cat_nil, am_cat_i, am_cat_r, am_cat_l, am_cat_n, gd_i, gd_r, gd_n, gd_u, List.length_cons, List.length_nil, true_and, and_true, ↓reduceIte, Nat.zero_le, Nat.reduceLeDiff, Nat.reduceAdd, e_10, e_01, e_00, e_11, Int32.reduceLE, Int32.reduceLT, Int32.reduceAdd, Int32.reduceSub, b01, if_true, if_false, ite_self, rc_82, gf_82_0, gf_82_1, gf_82_2, gf_82_3, gf_82_4, gf_82_5, gf_82_6, pf_82_6, gf_82_7, pf_82_7, gf_82_8, pf_82_8, gf_82_9, pf_82_9, gf_82_10, pf_82_10, gf_82_11, pf_82_11, gf_82_12, pf_82_12, gf_82_13, gf_82_14, gf_82_15, gf_82_16, pf_82_16, gf_82_17, gf_82_18, gf_82_19, gf_82_20, gf_82_21, gf_82_22, gf_82_23, gf_82_24, gf_82_25, pf_82_25, ga_83, wi_83, ga_84, wi_84, ga_85, wb_85, ga_86, wi_86, ga_87, wb_87, ga_88, wi_88, ga_89, wi_89, ga_90, wi_90, ga_91, wi_91, ga_92, wi_92, ga_93, wi_93, ga_94, wi_94, ga_95, wi_95, ga_96, wb_96, ga_97, wi_97, ga_98, wi_98, ga_99, wi_99, nl_add, nl_add', nl_mul, nI_add, in_t, cl_n, le_nn, lt_nn, le_ln, le_nl, lt_nl, lt_ln, eq_nn, eq_nl, in_lit, cl_lit, Nat.le_refl, Nat.add_zero, k0, show ¬ n ≤ j by omega, hq, M_flag])
  refine ⟨.int (nI n), ?_, trivial⟩
  rw [sm_s]
  simp only [sm_0, nI_0, add_0] at e3
  conv => lhs; rw [iX9_empty_8]
  simp (disch := omega) only [iX9_empty_9, iX9_empty_10, iX9_empty_13, iX9_empty_16, iX9_empty_17, true_or, or_true, Option.bind_some, Option.bind_none, kk_hp, kn_hp, el_i, el_b, el_z, am_cat_nil, am_cat_i, am_cat_r, am_cat_l, am_cat_n, gd_i, gd_r, gd_n, gd_u, List.length_cons, List.length_nil, true_and, and_true, ↓reduceIte, Nat.zero_le, Nat.reduceLeDiff, Nat.reduceAdd, e_10, e_01, e_00, e_11, Int32.reduceLE, Int32.reduceLT, Int32.reduceAdd, Int32.reduceSub, b01, if_true, if_false, ite_self, rc_82, gf_82_0, gf_82_1, gf_82_2, gf_82_3, gf_82_4, gf_82_5, gf_82_6, pf_82_6, gf_82_7, pf_82_7, gf_82_8, pf_82_8, gf_82_9, pf_82_9, gf_82_10, pf_82_10, gf_82_11, pf_82_11, gf_82_12, pf_82_12, gf_82_13, gf_82_14, gf_82_15, gf_82_16, pf_82_16, gf_82_17, gf_82_18, gf_82_19, gf_82_20, gf_82_21, gf_82_22, gf_82_23, gf_82_24, gf_82_25, pf_82_25, ga_83, wi_83, ga_84, wi_84, ga_85, wb_85, ga_86, wi_86, ga_87, wb_87, ga_88, wi_88, ga_89, wi_89, ga_90, wi_90, ga_91, wi_91, ga_92, wi_92, ga_93, wi_93, ga_94, wi_94, ga_95, wi_95, ga_96, wb_96, ga_97, wi_97, ga_98, wi_98, ga_99, wi_99, nl_add, nl_add', nl_mul, nI_add, in_t, cl_n, le_nn, lt_nn, le_ln, le_nl, lt_nl, lt_ln, eq_nn, eq_nl, in_lit, cl_lit, Nat.le_refl, Nat.add_zero, p16, show ¬ ro ≤ r by omega]
  rw [e3]
  simp (disch := omega) only [iX9_empty_18, iX9_empty_19, iX9_empty_20, iX9_empty_23, iX9_empty_24, iX9_empty_25, iX9_empty_61, iX9_empty_64, true_or, or_true, Option.bind_some, Option.bind_none, kk_hp, kn_hp, el_i, el_b, el_z, am_cat_nil, am_cat_i, am_cat_r, am_cat_l, am_cat_n, gd_i, gd_r, gd_n, gd_u, List.length_cons, List.length_nil, true_and, and_true, ↓reduceIte, Nat.zero_le, Nat.reduceLeDiff, Nat.reduceAdd, e_10, e_01, e_00, e_11, Int32.reduceLE, Int32.reduceLT, Int32.reduceAdd, Int32.reduceSub, b01, if_true, if_false, ite_self, rc_82, gf_82_0, gf_82_1, gf_82_2, gf_82_3, gf_82_4, gf_82_5, gf_82_6, pf_82_6, gf_82_7, pf_82_7, gf_82_8, pf_82_8, gf_82_9, pf_82_9, gf_82_10, pf_82_10, gf_82_11, pf_82_11, gf_82_12, pf_82_12, gf_82_13, gf_82_14, gf_82_15, gf_82_16, pf_82_16, gf_82_17, gf_82_18, gf_82_19, gf_82_20, gf_82_21, gf_82_22, gf_82_23, gf_82_24, gf_82_25, pf_82_25, ga_83, wi_83, ga_84, wi_84, ga_85, wb_85, ga_86, wi_86, ga_87, wb_87, ga_88, wi_88, ga_89, wi_89, ga_90, wi_90, ga_91, wi_91, ga_92, wi_92, ga_93, wi_93, ga_94, wi_94, ga_95, wi_95, ga_96, wb_96, ga_97, wi_97, ga_98, wi_98, ga_99, wi_99, nl_add, nl_add', nl_mul, nI_add, in_t, cl_n, le_nn, lt_nn, le_ln, le_nl, lt_nl, lt_ln, eq_nn, eq_nl, in_lit, cl_lit, Nat.le_refl, Nat.add_zero, k0]
end S72
