/-! changes, vi: swap, drop -/
theorem itm_mv {s s' : Nat → Int32} {x y : Nat} (h : itm s y) (e0 : s' 0 = s 0) (e : ∀ w, w < 6 → s' (26 + 6 * x + w) = s (26 + 6 * y + w)) : itm s' x := by
  have en : nC s' = nC s := by unfold nC; rw [e0]
  unfold itm wI tI pC pR at h ⊢
  rw [en, show s' (26 + 6 * x) = s (26 + 6 * y) from e 0 (by decide), e 1 (by decide), e 4 (by decide), e 5 (by decide)]
  exact h
def sw (f : Nat → Int32) (i j : Nat) : Nat → Int32 := upd (upd f i (f j)) j (f i)
theorem sw_at (f : Nat → Int32) (i j x : Nat) : sw f i j x = f (if x = j then i else if x = i then j else x) := by
  unfold sw
  by_cases h : x = j
  · rw [h, pk_us, if_pos rfl]
  · rw [pk_un h, if_neg h]
    by_cases h2 : x = i
    · rw [h2, pk_us, if_pos rfl]
    · rw [pk_un h2, if_neg h2]
def shf (d : Nat) (f : Nat → Int32) (a p : Nat) : Nat → Int32 := fun y => if a ≤ y ∧ y < p then f (y + d) else f y
theorem shf_0 (d : Nat) (f : Nat → Int32) (a : Nat) : shf d f a a = f := by
  funext y
  unfold shf
  rw [if_neg (by omega)]
theorem shf_s (d : Nat) (f : Nat → Int32) (a p : Nat) (h : a ≤ p) : upd (shf d f a p) p (shf d f a p (p + d)) = shf d f a (p + 1) := by
  funext y
  by_cases hy : y = p
  · rw [hy, pk_us]
    unfold shf
    rw [if_neg (by omega), if_pos (by omega)]
  · rw [pk_un hy]
    unfold shf
    by_cases h2 : a ≤ y ∧ y < p
    · rw [if_pos h2, if_pos (by omega)]
    · rw [if_neg h2, if_neg (by omega)]
section S79
variable {X : am_X} {M : Nat → Nat → Int32}
theorem C_exchange {i j : Nat} (hi : i < 10) (hj : j < 10) : ∃ M', am_ev X kX1_exchange 0 [.ref 1, .int (nI i), .int (nI j), am_u, am_u] [] (hp M) = some (none, hp M') ∧ (∀ x, ¬ (5 ≤ x ∧ x ≤ 10) → M' x = M x) ∧ ∀ w, w < 6 → M' (5 + w) = sw (M (5 + w)) i j := by
  have hlp := loop_inv (fun u (Mv : (Nat → Nat → Int32) × Value) => am_ev X kX1_exchange 2 [.ref 1, .int (nI i), .int (nI j), .int (nI u), Mv.2] [] (hp Mv.1)) (fun u Mv => (∀ x, ¬ (5 ≤ x ∧ x ≤ 10) → Mv.1 x = M x) ∧ ∀ w, w < 6 → Mv.1 (5 + w) = if w < u then sw (M (5 + w)) i j else M (5 + w)) 0 6 (by omega) (M, am_u) ⟨fun _ _ => rfl, fun w hw => by rw [if_neg (by omega)]⟩ ?_
  · obtain ⟨⟨M', v⟩, e, f, g⟩ := hlp
    dsimp only at e f g
    refine ⟨M', ?_, f, fun w hw => by rw [g w hw, if_pos hw]⟩
    rw [nI_0] at e
    simp (disch := omega) only [iX1_exchange_0, iX1_exchange_1, true_or, or_true, Option.bind_some, Option.bind_none, kk_hp, kn_hp, el_i, el_b, el_z, am_cat_nil, am_cat_i, am_cat_r, am_cat_l, am_cat_n, gd_i, gd_r, gd_n, gd_u, List.length_cons, List.length_nil, true_and, and_true, ↓reduceIte, Nat.zero_le, Nat.reduceLeDiff, Nat.reduceAdd, e_10, e_01, e_00, e_11, Int32.reduceLE, Int32.reduceLT, Int32.reduceAdd, Int32.reduceSub, b01, if_true, if_false, ite_self]
    rw [e]
    simp (disch := omega) only [iX1_exchange_2, iX1_exchange_3, iX1_exchange_5, iX1_exchange_50, true_or, or_true, Option.bind_some, Option.bind_none, kk_hp, kn_hp, el_i, el_b, el_z, am_cat_nil, am_cat_i, am_cat_r, am_cat_l, am_cat_n, gd_i, gd_r, gd_n, gd_u, List.length_cons, List.length_nil, true_and, and_true, ↓reduceIte, Nat.zero_le, Nat.reduceLeDiff, Nat.reduceAdd, e_10, e_01, e_00, e_11, Int32.reduceLE, Int32.reduceLT, Int32.reduceAdd, Int32.reduceSub, b01, if_true, if_false, ite_self, nl_add, nl_add', nl_mul, nI_add, in_t, cl_n, le_nn, lt_nn, le_ln, le_nl, lt_nl, lt_ln, eq_nn, eq_nl, in_lit, cl_lit, Nat.le_refl, Nat.add_zero]
  intro u ⟨K, v⟩ _ hu ⟨hf, hg⟩
  dsimp only at hf hg ⊢
  have k5 : K (5 + u) = M (5 + u) := by rw [hg u hu, if_neg (by omega)]
  have er : ∀ x, up (ua K (5 + u) x) (5 + u) = fun j y => ua K (5 + u) (upd x j y) := fun x => by funext j y; rw [up_of]
  refine ⟨(ua K (5 + u) (sw (M (5 + u)) i j), .int (M (5 + u) i)), ?_, fun x hx => by dsimp only; rw [ua_n _ _ (by omega)]; exact hf x hx, fun w hw => ?_⟩
  · conv => lhs; rw [iX1_exchange_2]
    simp (disch := omega) only [iX1_exchange_3, iX1_exchange_5, iX1_exchange_8, iX1_exchange_9, iX1_exchange_12, iX1_exchange_13, iX1_exchange_14, iX1_exchange_15, iX1_exchange_16, iX1_exchange_18, iX1_exchange_19, iX1_exchange_22, iX1_exchange_23, iX1_exchange_24, iX1_exchange_25, iX1_exchange_26, iX1_exchange_29, iX1_exchange_30, iX1_exchange_31, iX1_exchange_32, iX1_exchange_33, iX1_exchange_34, iX1_exchange_35, iX1_exchange_38, iX1_exchange_39, iX1_exchange_40, iX1_exchange_41, iX1_exchange_43, iX1_exchange_44, iX1_exchange_47, true_or, or_true, Option.bind_some, Option.bind_none, kk_hp, kn_hp, el_i, el_b, el_z, am_cat_nil, am_cat_i, am_cat_r, am_cat_l, am_cat_n, gd_i, gd_r, gd_n, gd_u, List.length_cons, List.length_nil, true_and, and_true, ↓reduceIte, Nat.zero_le, Nat.reduceLeDiff, Nat.reduceAdd, e_10, e_01, e_00, e_11, Int32.reduceLE, Int32.reduceLT, Int32.reduceAdd, Int32.reduceSub, b01, if_true, if_false, ite_self, rc_1, gf_1_0, pf_1_0, gf_1_1, gf_1_2, gf_1_3, pf_1_3, gf_1_4, pf_1_4, gf_1_5, pf_1_5, gf_1_6, pf_1_6, gf_1_7, pf_1_7, gf_1_8, gf_1_9, nl_add, nl_add', nl_mul, nI_add, in_t, cl_n, le_nn, lt_nn, le_ln, le_nl, lt_nl, lt_ln, eq_nn, eq_nl, in_lit, cl_lit, Nat.le_refl, Nat.add_zero, f1_w, a1_w, w1_w, k5, show ¬ 6 ≤ u by omega]
    congr 1
    congr 1
    unfold sw
    rw [up_ua K, up_of, k5]
  · dsimp only
    by_cases hwu : w = u
    · rw [hwu, ua_s, if_pos (by omega)]
    · rw [ua_n _ _ (by omega), hg w hw]
      by_cases h2 : w < u
      · rw [if_pos h2, if_pos (by omega)]
      · rw [if_neg h2, if_neg (by omega)]
theorem M_swap {i j : Nat} (hi : i < 10) (hj : j < 10) : ∃ s', am_ev X kX9_swap 20 [.ref 82, .int (nI i), .int (nI j), .int 0, am_u] [] (hp M) = some (some (.int 1), hp (ua M 83 s')) ∧ (∀ q, q < 26 → s' q = M 83 q) ∧ ∀ x w, w < 6 → s' (26 + 6 * x + w) = sw (fun x => M 83 (26 + 6 * x + w)) i j x := by
  have hlp := loop_inv (fun u (sv : (Nat → Int32) × Value) => am_ev X kX9_swap 20 [.ref 82, .int (nI i), .int (nI j), .int (nI u), sv.2] [] (hp (ua M 83 sv.1))) (fun u sv => (∀ q, q < 26 → sv.1 q = M 83 q) ∧ ∀ x w, w < 6 → sv.1 (26 + 6 * x + w) = if w < u then sw (fun x => M 83 (26 + 6 * x + w)) i j x else M 83 (26 + 6 * x + w)) 0 6 (by omega) (M 83, am_u) ⟨fun _ _ => rfl, fun x w hw => by rw [if_neg (by omega)]⟩ ?_
  · obtain ⟨⟨s', v⟩, e, f, g⟩ := hlp
    dsimp only at e f g
    refine ⟨s', ?_, f, fun x w hw => by rw [g x w hw, if_pos hw]⟩
    rw [nI_0, ua_self] at e
    rw [e]
    simp (disch := omega) only [iX9_swap_20, iX9_swap_21, iX9_swap_23, iX9_swap_76, iX9_swap_77, true_or, or_true, Option.bind_some, Option.bind_none, kk_hp, kn_hp, el_i, el_b, el_z, am_cat_nil, am_cat_i, am_cat_r, am_cat_l, am_cat_n, gd_i, gd_r, gd_n, gd_u, List.length_cons, List.length_nil, true_and, and_true, ↓reduceIte, Nat.zero_le, Nat.reduceLeDiff, Nat.reduceAdd, e_10, e_01, e_00, e_11, Int32.reduceLE, Int32.reduceLT, Int32.reduceAdd, Int32.reduceSub, b01, if_true, if_false, ite_self, nl_add, nl_add', nl_mul, nI_add, in_t, cl_n, le_nn, lt_nn, le_ln, le_nl, lt_nl, lt_ln, eq_nn, eq_nl, in_lit, cl_lit, Nat.le_refl, Nat.add_zero]
  intro u ⟨s1, v⟩ _ hu ⟨hf, hg⟩
  dsimp only at hf hg ⊢
  have o1 := @M_of X (ua M 83 s1) i u hi hu
  have o2 := @M_of X (ua M 83 s1) j u hj hu
  rw [ua_s] at o1 o2
  refine ⟨(upd (upd s1 (26 + 6 * i + u) (s1 (26 + 6 * j + u))) (26 + 6 * j + u) (s1 (26 + 6 * i + u)), .int (s1 (26 + 6 * i + u))), ?_, fun q hq => ?_, fun x w hw => ?_⟩
  · conv => lhs; rw [iX9_swap_20]
    simp (disch := omega) only [iX9_swap_21, iX9_swap_23, iX9_swap_26, iX9_swap_27, iX9_swap_28, iX9_swap_29, iX9_swap_32, iX9_swap_34, iX9_swap_35, iX9_swap_38, iX9_swap_40, iX9_swap_42, iX9_swap_43, iX9_swap_44, iX9_swap_45, iX9_swap_46, iX9_swap_47, iX9_swap_48, iX9_swap_49, iX9_swap_50, iX9_swap_53, iX9_swap_54, iX9_swap_55, iX9_swap_58, iX9_swap_60, iX9_swap_62, iX9_swap_63, iX9_swap_64, iX9_swap_65, iX9_swap_66, iX9_swap_67, iX9_swap_69, iX9_swap_70, iX9_swap_73, true_or, or_true, Option.bind_some, Option.bind_none, kk_hp, kn_hp, el_i, el_b, el_z, am_cat_nil, am_cat_i, am_cat_r, am_cat_l, am_cat_n, gd_i, gd_r, gd_n, gd_u, List.length_cons, List.length_nil, true_and, and_true, ↓reduceIte, Nat.zero_le, Nat.reduceLeDiff, Nat.reduceAdd, e_10, e_01, e_00, e_11, Int32.reduceLE, Int32.reduceLT, Int32.reduceAdd, Int32.reduceSub, b01, if_true, if_false, ite_self, rc_82, gf_82_0, gf_82_1, gf_82_2, gf_82_3, gf_82_4, gf_82_5, gf_82_6, pf_82_6, gf_82_7, pf_82_7, gf_82_8, pf_82_8, gf_82_9, pf_82_9, gf_82_10, pf_82_10, gf_82_11, pf_82_11, gf_82_12, pf_82_12, gf_82_13, gf_82_14, gf_82_15, gf_82_16, pf_82_16, gf_82_17, gf_82_18, gf_82_19, gf_82_20, gf_82_21, gf_82_22, gf_82_23, gf_82_24, gf_82_25, pf_82_25, ga_83, wi_83, ga_84, wi_84, ga_85, wb_85, ga_86, wi_86, ga_87, wb_87, ga_88, wi_88, ga_89, wi_89, ga_90, wi_90, ga_91, wi_91, ga_92, wi_92, ga_93, wi_93, ga_94, wi_94, ga_95, wi_95, ga_96, wb_96, ga_97, wi_97, ga_98, wi_98, ga_99, wi_99, nl_add, nl_add', nl_mul, nI_add, in_t, cl_n, le_nn, lt_nn, le_ln, le_nl, lt_nl, lt_ln, eq_nn, eq_nl, in_lit, cl_lit, Nat.le_refl, Nat.add_zero, o1, o2, up_of, show ¬ 6 ≤ u by omega]
  · dsimp only
    rw [pk_un (by omega), pk_un (by omega)]; exact hf q hq
  · dsimp only
    by_cases hwu : w = u
    · subst hwu
      rw [if_pos (by omega)]
      have a1 := hg i w hw
      have a2 := hg j w hw
      rw [if_neg (by omega)] at a1 a2
      unfold sw
      by_cases hxj : x = j
      · rw [hxj, pk_us, pk_us, a1]
      · rw [pk_un (show 26 + 6 * x + w ≠ 26 + 6 * j + w by omega), pk_un hxj]
        by_cases hxi : x = i
        · rw [hxi, pk_us, pk_us, a2]
        · rw [pk_un (show 26 + 6 * x + w ≠ 26 + 6 * i + w by omega), pk_un hxi, hg x w hw, if_neg (by omega)]
    · rw [pk_un (by omega), pk_un (by omega), hg x w hw]
      by_cases h2 : w < u
      · rw [if_pos h2, if_pos (by omega)]
      · rw [if_neg h2, if_neg (by omega)]
theorem S_swap (h : RR M) (a b : Int32) : St X kX8_swap [.ref 0, .int a, .int b] kX9_swap [.ref 82, .int a, .int b, am_u, am_u] M := by
  have hwf := h.1
  have hm := hwf.2.1.2
  have hn := hwf.1.2
  have q7 : M 1 7 = nI (mI (M 83)) := h.2.1.1.2.2.2.2.2.trans h.1.2.1.1
  rcases Classical.em (∃ k, k < mI (M 83) ∧ a = nI k) with ⟨i, hi, rfl⟩ | hno
  · have hb := @C_itm1 X M i (mI (M 83)) q7 hi (by omega)
    rcases Classical.em (∃ k, k < mI (M 83) ∧ b = nI k) with ⟨j, hj, rfl⟩ | hno
    · have hb2 := @C_itm1 X M j (mI (M 83)) q7 hj (by omega)
      obtain ⟨K, e1, f1, g1⟩ := @C_exchange X M i j (by omega) (by omega)
      have k83 : (up K 0 8 1) 83 = M 83 := f1 83 (by decide)
      obtain ⟨s', e2, f2, g2⟩ := @M_swap X (up K 0 8 1) i j (by omega) (by omega)
      rw [k83] at f2 g2
      have hr := @M_itm1 X (up K 0 8 1) i (mI (M 83)) (by rw [k83]; exact hwf.2.1.1) hi (by omega)
      have hr2 := @M_itm1 X (up K 0 8 1) j (mI (M 83)) (by rw [k83]; exact hwf.2.1.1) hj (by omega)
      refine ⟨1, up K 0 8 1, ua (up K 0 8 1) 83 s', ?_, ?_, ?_⟩
      · simp (disch := omega) only [iX8_swap_0, iX8_swap_1, iX8_swap_2, iX8_swap_5, iX8_swap_8, iX8_swap_9, iX8_swap_10, iX8_swap_13, iX8_swap_16, iX8_swap_17, iX8_swap_18, iX8_swap_19, iX8_swap_22, iX8_swap_23, iX8_swap_24, iX8_swap_27, iX8_swap_28, iX8_swap_29, iX8_swap_32, iX8_swap_33, true_or, or_true, Option.bind_some, Option.bind_none, kk_hp, kn_hp, el_i, el_b, el_z, am_cat_nil, am_cat_i, am_cat_r, am_cat_l, am_cat_n, gd_i, gd_r, gd_n, gd_u, List.length_cons, List.length_nil, true_and, and_true, ↓reduceIte, Nat.zero_le, Nat.reduceLeDiff, Nat.reduceAdd, e_10, e_01, e_00, e_11, Int32.reduceLE, Int32.reduceLT, Int32.reduceAdd, Int32.reduceSub, b01, if_true, if_false, ite_self, rc_0, gf_0_0, gf_0_1, gf_0_2, gf_0_3, gf_0_4, gf_0_5, gf_0_6, gf_0_7, gf_0_8, pf_0_8, gf_0_9, pf_0_9, rc_1, gf_1_0, pf_1_0, gf_1_1, gf_1_2, gf_1_3, pf_1_3, gf_1_4, pf_1_4, gf_1_5, pf_1_5, gf_1_6, pf_1_6, gf_1_7, pf_1_7, gf_1_8, gf_1_9, nl_add, nl_add', nl_mul, nI_add, in_t, cl_n, le_nn, lt_nn, le_ln, le_nl, lt_nl, lt_ln, eq_nn, eq_nl, in_lit, cl_lit, Nat.le_refl, Nat.add_zero, hb, hb2, e1]
      · simp (disch := omega) only [iX9_swap_0, iX9_swap_1, iX9_swap_2, iX9_swap_5, iX9_swap_8, iX9_swap_9, iX9_swap_10, iX9_swap_13, iX9_swap_16, iX9_swap_17, iX9_swap_18, iX9_swap_19, true_or, or_true, Option.bind_some, Option.bind_none, kk_hp, kn_hp, el_i, el_b, el_z, am_cat_nil, am_cat_i, am_cat_r, am_cat_l, am_cat_n, gd_i, gd_r, gd_n, gd_u, List.length_cons, List.length_nil, true_and, and_true, ↓reduceIte, Nat.zero_le, Nat.reduceLeDiff, Nat.reduceAdd, e_10, e_01, e_00, e_11, Int32.reduceLE, Int32.reduceLT, Int32.reduceAdd, Int32.reduceSub, b01, if_true, if_false, ite_self, rc_82, gf_82_0, gf_82_1, gf_82_2, gf_82_3, gf_82_4, gf_82_5, gf_82_6, pf_82_6, gf_82_7, pf_82_7, gf_82_8, pf_82_8, gf_82_9, pf_82_9, gf_82_10, pf_82_10, gf_82_11, pf_82_11, gf_82_12, pf_82_12, gf_82_13, gf_82_14, gf_82_15, gf_82_16, pf_82_16, gf_82_17, gf_82_18, gf_82_19, gf_82_20, gf_82_21, gf_82_22, gf_82_23, gf_82_24, gf_82_25, pf_82_25, ga_83, wi_83, ga_84, wi_84, ga_85, wb_85, ga_86, wi_86, ga_87, wb_87, ga_88, wi_88, ga_89, wi_89, ga_90, wi_90, ga_91, wi_91, ga_92, wi_92, ga_93, wi_93, ga_94, wi_94, ga_95, wi_95, ga_96, wb_96, ga_97, wi_97, ga_98, wi_98, ga_99, wi_99, nl_add, nl_add', nl_mul, nI_add, in_t, cl_n, le_nn, lt_nn, le_ln, le_nl, lt_nl, lt_ln, eq_nn, eq_nl, in_lit, cl_lit, Nat.le_refl, Nat.add_zero, hr, hr2]
        exact e2
      · refine RR_c h (fun x h1 h2 => by rw [ua_n _ _ h2, up_n _ _ _ (by omega)]; exact f1 x (by omega)) rfl ?_ ?_ ?_
        · show K 0 9 = M 0 9
          rw [f1 0 (by decide)]
        · rw [ua_s]
          refine wf_it hwf f2 (fun x hx => ?_)
          have hy : (if x = j then i else if x = i then j else x) < mI (M 83) := by split <;> (try split) <;> omega
          exact itm_mv (hwf.2.2.1 _ hy) (f2 0 (by decide)) (fun w hw => by rw [g2 x w hw, sw_at])
        · rw [ua_s]
          refine RG_it h.2.1 (fun x hx => by rw [ua_n _ _ (by omega), up_n _ _ _ (by omega)]; exact f1 x (by omega)) f2 hn (fun x hx w hw => ?_)
          have hy : (if x = j then i else if x = i then j else x) < mI (M 83) := by split <;> (try split) <;> omega
          rw [ua_n _ _ (by omega), up_n _ _ _ (by omega), show 1 + 4 + w = 5 + w by omega, g1 w hw, g2 x w hw, sw_at, sw_at]
          have := h.2.1.2.2.2 _ hy w hw
          rwa [show 1 + 4 + w = 5 + w by omega] at this
    · have hb2 := @C_itm0 X M b (mI (M 83)) q7 (by omega) hno
      have hr := @M_itm1 X M i (mI (M 83)) hwf.2.1.1 hi (by omega)
      have hr2 := @M_itm0 X M b (mI (M 83)) h.1.2.1.1 (by omega) hno
      refine ⟨-1, M, M, ?_, ?_, h⟩
      · simp (disch := omega) only [iX8_swap_0, iX8_swap_1, iX8_swap_2, iX8_swap_5, iX8_swap_8, iX8_swap_9, iX8_swap_10, iX8_swap_13, iX8_swap_16, iX8_swap_17, iX8_swap_18, iX8_swap_19, iX8_swap_22, iX8_swap_23, iX8_swap_24, iX8_swap_27, iX8_swap_28, iX8_swap_29, iX8_swap_32, iX8_swap_33, true_or, or_true, Option.bind_some, Option.bind_none, kk_hp, kn_hp, el_i, el_b, el_z, am_cat_nil, am_cat_i, am_cat_r, am_cat_l, am_cat_n, gd_i, gd_r, gd_n, gd_u, List.length_cons, List.length_nil, true_and, and_true, ↓reduceIte, Nat.zero_le, Nat.reduceLeDiff, Nat.reduceAdd, e_10, e_01, e_00, e_11, Int32.reduceLE, Int32.reduceLT, Int32.reduceAdd, Int32.reduceSub, b01, if_true, if_false, ite_self, rc_0, gf_0_0, gf_0_1, gf_0_2, gf_0_3, gf_0_4, gf_0_5, gf_0_6, gf_0_7, gf_0_8, pf_0_8, gf_0_9, pf_0_9, rc_1, gf_1_0, pf_1_0, gf_1_1, gf_1_2, gf_1_3, pf_1_3, gf_1_4, pf_1_4, gf_1_5, pf_1_5, gf_1_6, pf_1_6, gf_1_7, pf_1_7, gf_1_8, gf_1_9, nl_add, nl_add', nl_mul, nI_add, in_t, cl_n, le_nn, lt_nn, le_ln, le_nl, lt_nl, lt_ln, eq_nn, eq_nl, in_lit, cl_lit, Nat.le_refl, Nat.add_zero, hb, hb2]
      · simp (disch := omega) only [iX9_swap_0, iX9_swap_1, iX9_swap_2, iX9_swap_5, iX9_swap_8, iX9_swap_9, iX9_swap_10, iX9_swap_13, iX9_swap_16, iX9_swap_17, iX9_swap_18, iX9_swap_19, iX9_swap_20, iX9_swap_21, iX9_swap_23, iX9_swap_26, iX9_swap_27, iX9_swap_28, iX9_swap_29, iX9_swap_32, iX9_swap_34, iX9_swap_35, iX9_swap_38, iX9_swap_40, iX9_swap_42, iX9_swap_43, iX9_swap_44, iX9_swap_45, iX9_swap_46, iX9_swap_47, iX9_swap_48, iX9_swap_49, iX9_swap_50, iX9_swap_53, iX9_swap_54, iX9_swap_55, iX9_swap_58, iX9_swap_60, iX9_swap_62, iX9_swap_63, iX9_swap_64, iX9_swap_65, iX9_swap_66, iX9_swap_67, iX9_swap_69, iX9_swap_70, iX9_swap_73, iX9_swap_76, iX9_swap_77, true_or, or_true, Option.bind_some, Option.bind_none, kk_hp, kn_hp, el_i, el_b, el_z, am_cat_nil, am_cat_i, am_cat_r, am_cat_l, am_cat_n, gd_i, gd_r, gd_n, gd_u, List.length_cons, List.length_nil, true_and, and_true, ↓reduceIte, Nat.zero_le, Nat.reduceLeDiff, Nat.reduceAdd, e_10, e_01, e_00, e_11, Int32.reduceLE, Int32.reduceLT, Int32.reduceAdd, Int32.reduceSub, b01, if_true, if_false, ite_self, rc_82, gf_82_0, gf_82_1, gf_82_2, gf_82_3, gf_82_4, gf_82_5, gf_82_6, pf_82_6, gf_82_7, pf_82_7, gf_82_8, pf_82_8, gf_82_9, pf_82_9, gf_82_10, pf_82_10, gf_82_11, pf_82_11, gf_82_12, pf_82_12, gf_82_13, gf_82_14, gf_82_15, gf_82_16, pf_82_16, gf_82_17, gf_82_18, gf_82_19, gf_82_20, gf_82_21, gf_82_22, gf_82_23, gf_82_24, gf_82_25, pf_82_25, ga_83, wi_83, ga_84, wi_84, ga_85, wb_85, ga_86, wi_86, ga_87, wb_87, ga_88, wi_88, ga_89, wi_89, ga_90, wi_90, ga_91, wi_91, ga_92, wi_92, ga_93, wi_93, ga_94, wi_94, ga_95, wi_95, ga_96, wb_96, ga_97, wi_97, ga_98, wi_98, ga_99, wi_99, nl_add, nl_add', nl_mul, nI_add, in_t, cl_n, le_nn, lt_nn, le_ln, le_nl, lt_nl, lt_ln, eq_nn, eq_nl, in_lit, cl_lit, Nat.le_refl, Nat.add_zero, hr, hr2]
  · have hb := @C_itm0 X M a (mI (M 83)) q7 (by omega) hno
    have hr := @M_itm0 X M a (mI (M 83)) h.1.2.1.1 (by omega) hno
    refine ⟨-1, M, M, ?_, ?_, h⟩
    · simp (disch := omega) only [iX8_swap_0, iX8_swap_1, iX8_swap_2, iX8_swap_5, iX8_swap_8, iX8_swap_9, iX8_swap_10, iX8_swap_13, iX8_swap_16, iX8_swap_17, iX8_swap_18, iX8_swap_19, iX8_swap_22, iX8_swap_23, iX8_swap_24, iX8_swap_27, iX8_swap_28, iX8_swap_29, iX8_swap_32, iX8_swap_33, true_or, or_true, Option.bind_some, Option.bind_none, kk_hp, kn_hp, el_i, el_b, el_z, am_cat_nil, am_cat_i, am_cat_r, am_cat_l, am_cat_n, gd_i, gd_r, gd_n, gd_u, List.length_cons, List.length_nil, true_and, and_true, ↓reduceIte, Nat.zero_le, Nat.reduceLeDiff, Nat.reduceAdd, e_10, e_01, e_00, e_11, Int32.reduceLE, Int32.reduceLT, Int32.reduceAdd, Int32.reduceSub, b01, if_true, if_false, ite_self, rc_0, gf_0_0, gf_0_1, gf_0_2, gf_0_3, gf_0_4, gf_0_5, gf_0_6, gf_0_7, gf_0_8, pf_0_8, gf_0_9, pf_0_9, rc_1, gf_1_0, pf_1_0, gf_1_1, gf_1_2, gf_1_3, pf_1_3, gf_1_4, pf_1_4, gf_1_5, pf_1_5, gf_1_6, pf_1_6, gf_1_7, pf_1_7, gf_1_8, gf_1_9, nl_add, nl_add', nl_mul, nI_add, in_t, cl_n, le_nn, lt_nn, le_ln, le_nl, lt_nl, lt_ln, eq_nn, eq_nl, in_lit, cl_lit, Nat.le_refl, Nat.add_zero, hb]
    · simp (disch := omega) only [iX9_swap_0, iX9_swap_1, iX9_swap_2, iX9_swap_5, iX9_swap_8, iX9_swap_9, iX9_swap_10, iX9_swap_13, iX9_swap_16, iX9_swap_17, iX9_swap_18, iX9_swap_19, iX9_swap_20, iX9_swap_21, iX9_swap_23, iX9_swap_26, iX9_swap_27, iX9_swap_28, iX9_swap_29, iX9_swap_32, iX9_swap_34, iX9_swap_35, iX9_swap_38, iX9_swap_40, iX9_swap_42, iX9_swap_43, iX9_swap_44, iX9_swap_45, iX9_swap_46, iX9_swap_47, iX9_swap_48, iX9_swap_49, iX9_swap_50, iX9_swap_53, iX9_swap_54, iX9_swap_55, iX9_swap_58, iX9_swap_60, iX9_swap_62, iX9_swap_63, iX9_swap_64, iX9_swap_65, iX9_swap_66, iX9_swap_67, iX9_swap_69, iX9_swap_70, iX9_swap_73, iX9_swap_76, iX9_swap_77, true_or, or_true, Option.bind_some, Option.bind_none, kk_hp, kn_hp, el_i, el_b, el_z, am_cat_nil, am_cat_i, am_cat_r, am_cat_l, am_cat_n, gd_i, gd_r, gd_n, gd_u, List.length_cons, List.length_nil, true_and, and_true, ↓reduceIte, Nat.zero_le, Nat.reduceLeDiff, Nat.reduceAdd, e_10, e_01, e_00, e_11, Int32.reduceLE, Int32.reduceLT, Int32.reduceAdd, Int32.reduceSub, b01, if_true, if_false, ite_self, rc_82, gf_82_0, gf_82_1, gf_82_2, gf_82_3, gf_82_4, gf_82_5, gf_82_6, pf_82_6, gf_82_7, pf_82_7, gf_82_8, pf_82_8, gf_82_9, pf_82_9, gf_82_10, pf_82_10, gf_82_11, pf_82_11, gf_82_12, pf_82_12, gf_82_13, gf_82_14, gf_82_15, gf_82_16, pf_82_16, gf_82_17, gf_82_18, gf_82_19, gf_82_20, gf_82_21, gf_82_22, gf_82_23, gf_82_24, gf_82_25, pf_82_25, ga_83, wi_83, ga_84, wi_84, ga_85, wb_85, ga_86, wi_86, ga_87, wb_87, ga_88, wi_88, ga_89, wi_89, ga_90, wi_90, ga_91, wi_91, ga_92, wi_92, ga_93, wi_93, ga_94, wi_94, ga_95, wi_95, ga_96, wb_96, ga_97, wi_97, ga_98, wi_98, ga_99, wi_99, nl_add, nl_add', nl_mul, nI_add, in_t, cl_n, le_nn, lt_nn, le_ln, le_nl, lt_nl, lt_ln, eq_nn, eq_nl, in_lit, cl_lit, Nat.le_refl, Nat.add_zero, hr]
theorem C_remove {i m : Nat} (hi : i < m) (hm : m ≤ 10) (h7 : M 1 7 = nI m) : ∃ M', am_ev X kX1_remove 0 [.ref 1, .int (nI i), am_u, am_u] [] (hp M) = some (none, hp (up M' 1 7 (nI (m - 1)))) ∧ (∀ x, ¬ (5 ≤ x ∧ x ≤ 10) → M' x = M x) ∧ ∀ w, w < 6 → M' (5 + w) = shf 1 (M (5 + w)) i (m - 1) := by
  have hlp := loop_inv (fun u (Mv : (Nat → Nat → Int32) × Value) => am_ev X kX1_remove 2 [.ref 1, .int (nI i), .int (nI u), Mv.2] [] (hp Mv.1)) (fun u Mv => (∀ x, ¬ (5 ≤ x ∧ x ≤ 10) → Mv.1 x = M x) ∧ ∀ w, w < 6 → Mv.1 (5 + w) = if w < u then shf 1 (M (5 + w)) i (m - 1) else M (5 + w)) 0 6 (by omega) (M, am_u) ⟨fun _ _ => rfl, fun w hw => by rw [if_neg (by omega)]⟩ ?_
  · obtain ⟨⟨M', v⟩, e, f, g⟩ := hlp
    dsimp only at e f g
    refine ⟨M', ?_, f, fun w hw => by rw [g w hw, if_pos hw]⟩
    have q7 : M' 1 7 = nI m := by rw [f 1 (by decide)]; exact h7
    rw [nI_0] at e
    simp (disch := omega) only [iX1_remove_0, iX1_remove_1, true_or, or_true, Option.bind_some, Option.bind_none, kk_hp, kn_hp, el_i, el_b, el_z, am_cat_nil, am_cat_i, am_cat_r, am_cat_l, am_cat_n, gd_i, gd_r, gd_n, gd_u, List.length_cons, List.length_nil, true_and, and_true, ↓reduceIte, Nat.zero_le, Nat.reduceLeDiff, Nat.reduceAdd, e_10, e_01, e_00, e_11, Int32.reduceLE, Int32.reduceLT, Int32.reduceAdd, Int32.reduceSub, b01, if_true, if_false, ite_self]
    rw [e]
    simp (disch := omega) only [iX1_remove_2, iX1_remove_3, iX1_remove_5, iX1_remove_50, iX1_remove_51, iX1_remove_52, iX1_remove_55, iX1_remove_56, iX1_remove_57, iX1_remove_60, true_or, or_true, Option.bind_some, Option.bind_none, kk_hp, kn_hp, el_i, el_b, el_z, am_cat_nil, am_cat_i, am_cat_r, am_cat_l, am_cat_n, gd_i, gd_r, gd_n, gd_u, List.length_cons, List.length_nil, true_and, and_true, ↓reduceIte, Nat.zero_le, Nat.reduceLeDiff, Nat.reduceAdd, e_10, e_01, e_00, e_11, Int32.reduceLE, Int32.reduceLT, Int32.reduceAdd, Int32.reduceSub, b01, if_true, if_false, ite_self, rc_1, gf_1_0, pf_1_0, gf_1_1, gf_1_2, gf_1_3, pf_1_3, gf_1_4, pf_1_4, gf_1_5, pf_1_5, gf_1_6, pf_1_6, gf_1_7, pf_1_7, gf_1_8, gf_1_9, nl_add, nl_add', nl_mul, nI_add, in_t, cl_n, le_nn, lt_nn, le_ln, le_nl, lt_nl, lt_ln, eq_nn, eq_nl, in_lit, cl_lit, Nat.le_refl, Nat.add_zero, q7, nl_sub']
  intro u ⟨K, v⟩ _ hu ⟨hf, hg⟩
  dsimp only at hf hg ⊢
  have k5 : K (5 + u) = M (5 + u) := by rw [hg u hu, if_neg (by omega)]
  have q7 : ∀ f, (ua K (5 + u) f) 1 7 = nI m := fun f => by rw [ua_n _ _ (by omega), hf 1 (by decide)]; exact h7
  have e2 := chain (fun p => am_ev X kX1_remove 10 [.ref 1, .int (nI i), .int (nI u), .int (nI p)] [] (hp (ua K (5 + u) (shf 1 (M (5 + u)) i p)))) i (m - 1) (by omega) (fun p hp1 hp2 => by
    conv => lhs; rw [iX1_remove_10]
    simp (disch := omega) only [iX1_remove_11, iX1_remove_12, iX1_remove_13, iX1_remove_14, iX1_remove_17, iX1_remove_20, iX1_remove_21, iX1_remove_24, iX1_remove_25, iX1_remove_26, iX1_remove_27, iX1_remove_28, iX1_remove_31, iX1_remove_32, iX1_remove_33, iX1_remove_34, iX1_remove_35, iX1_remove_36, iX1_remove_37, iX1_remove_38, iX1_remove_41, true_or, or_true, Option.bind_some, Option.bind_none, kk_hp, kn_hp, el_i, el_b, el_z, am_cat_nil, am_cat_i, am_cat_r, am_cat_l, am_cat_n, gd_i, gd_r, gd_n, gd_u, List.length_cons, List.length_nil, true_and, and_true, ↓reduceIte, Nat.zero_le, Nat.reduceLeDiff, Nat.reduceAdd, e_10, e_01, e_00, e_11, Int32.reduceLE, Int32.reduceLT, Int32.reduceAdd, Int32.reduceSub, b01, if_true, if_false, ite_self, rc_1, gf_1_0, pf_1_0, gf_1_1, gf_1_2, gf_1_3, pf_1_3, gf_1_4, pf_1_4, gf_1_5, pf_1_5, gf_1_6, pf_1_6, gf_1_7, pf_1_7, gf_1_8, gf_1_9, nl_add, nl_add', nl_mul, nI_add, in_t, cl_n, le_nn, lt_nn, le_ln, le_nl, lt_nl, lt_ln, eq_nn, eq_nl, in_lit, cl_lit, Nat.le_refl, Nat.add_zero, f1_w, a1_w, w1_w, q7, ua_s, up_of, shf_s, show ¬ m ≤ p + 1 by omega])
  rw [shf_0, ← k5, ua_self, k5] at e2
  refine ⟨(ua K (5 + u) (shf 1 (M (5 + u)) i (m - 1)), .int (nI (m - 1))), ?_, fun x hx => by dsimp only; rw [ua_n _ _ (by omega)]; exact hf x hx, fun w hw => ?_⟩
  · conv => lhs; rw [iX1_remove_2]
    simp (disch := omega) only [iX1_remove_3, iX1_remove_5, iX1_remove_8, iX1_remove_9, true_or, or_true, Option.bind_some, Option.bind_none, kk_hp, kn_hp, el_i, el_b, el_z, am_cat_nil, am_cat_i, am_cat_r, am_cat_l, am_cat_n, gd_i, gd_r, gd_n, gd_u, List.length_cons, List.length_nil, true_and, and_true, ↓reduceIte, Nat.zero_le, Nat.reduceLeDiff, Nat.reduceAdd, e_10, e_01, e_00, e_11, Int32.reduceLE, Int32.reduceLT, Int32.reduceAdd, Int32.reduceSub, b01, if_true, if_false, ite_self, nl_add, nl_add', nl_mul, nI_add, in_t, cl_n, le_nn, lt_nn, le_ln, le_nl, lt_nl, lt_ln, eq_nn, eq_nl, in_lit, cl_lit, Nat.le_refl, Nat.add_zero, show ¬ 6 ≤ u by omega]
    rw [e2]
    simp (disch := omega) only [iX1_remove_10, iX1_remove_11, iX1_remove_12, iX1_remove_13, iX1_remove_14, iX1_remove_17, iX1_remove_44, iX1_remove_47, true_or, or_true, Option.bind_some, Option.bind_none, kk_hp, kn_hp, el_i, el_b, el_z, am_cat_nil, am_cat_i, am_cat_r, am_cat_l, am_cat_n, gd_i, gd_r, gd_n, gd_u, List.length_cons, List.length_nil, true_and, and_true, ↓reduceIte, Nat.zero_le, Nat.reduceLeDiff, Nat.reduceAdd, e_10, e_01, e_00, e_11, Int32.reduceLE, Int32.reduceLT, Int32.reduceAdd, Int32.reduceSub, b01, if_true, if_false, ite_self, rc_1, gf_1_0, pf_1_0, gf_1_1, gf_1_2, gf_1_3, pf_1_3, gf_1_4, pf_1_4, gf_1_5, pf_1_5, gf_1_6, pf_1_6, gf_1_7, pf_1_7, gf_1_8, gf_1_9, nl_add, nl_add', nl_mul, nI_add, in_t, cl_n, le_nn, lt_nn, le_ln, le_nl, lt_nl, lt_ln, eq_nn, eq_nl, in_lit, cl_lit, Nat.le_refl, Nat.add_zero, q7, show m ≤ m - 1 + 1 by omega]
  · dsimp only
    by_cases hwu : w = u
    · rw [hwu, ua_s, if_pos (by omega)]
    · rw [ua_n _ _ (by omega), hg w hw]
      by_cases h2 : w < u
      · rw [if_pos h2, if_pos (by omega)]
      · rw [if_neg h2, if_neg (by omega)]
theorem S_drop (h : RR M) (a : Int32) : St X kX8_drop [.ref 0, .int a] kX9_drop [.ref 82, .int a, am_u] M := by
  have hwf := h.1
  have hm := hwf.2.1.2
  have hn := hwf.1.2
  have q7 : M 1 7 = nI (mI (M 83)) := h.2.1.1.2.2.2.2.2.trans h.1.2.1.1
  rcases Classical.em (∃ k, k < mI (M 83) ∧ a = nI k) with ⟨i, hi, rfl⟩ | hno
  · have hb := @C_itm1 X M i (mI (M 83)) q7 hi (by omega)
    obtain ⟨K, e1, f1, g1⟩ := @C_remove X M i (mI (M 83)) hi hm q7
    generalize hM1 : up (up K 1 7 (nI (mI (M 83) - 1))) 0 8 1 = M1
    have k83 : M1 83 = M 83 := by rw [← hM1]; exact f1 83 (by decide)
    have hr := @M_itm1 X M1 i (mI (M 83)) (by rw [k83]; exact hwf.2.1.1) hi (by omega)
    have q25 : ∀ f, (ua M1 83 f) 83 = f := fun f => ua_s _ _ _
    have e2 := chain (fun p => am_ev X kX9_drop 18 [.ref 82, .int (nI i), .int (nI p)] [] (hp (ua M1 83 (shf 6 (M 83) (26 + 6 * i) p)))) (26 + 6 * i) (26 + 6 * (mI (M 83) - 1)) (by omega) (fun p hp1 hp2 => by
      have s25 : shf 6 (M 83) (26 + 6 * i) p 25 = nI (mI (M 83)) := by unfold shf; rw [if_neg (by omega)]; exact hwf.2.1.1
      conv => lhs; rw [iX9_drop_18]
      simp (disch := omega) only [iX9_drop_19, iX9_drop_21, iX9_drop_23, iX9_drop_24, iX9_drop_27, iX9_drop_29, iX9_drop_30, iX9_drop_31, iX9_drop_32, iX9_drop_33, iX9_drop_34, iX9_drop_37, iX9_drop_38, iX9_drop_41, iX9_drop_42, iX9_drop_43, iX9_drop_46, iX9_drop_47, iX9_drop_49, iX9_drop_50, iX9_drop_51, iX9_drop_52, iX9_drop_55, true_or, or_true, Option.bind_some, Option.bind_none, kk_hp, kn_hp, el_i, el_b, el_z, am_cat_nil, am_cat_i, am_cat_r, am_cat_l, am_cat_n, gd_i, gd_r, gd_n, gd_u, List.length_cons, List.length_nil, true_and, and_true, ↓reduceIte, Nat.zero_le, Nat.reduceLeDiff, Nat.reduceAdd, e_10, e_01, e_00, e_11, Int32.reduceLE, Int32.reduceLT, Int32.reduceAdd, Int32.reduceSub, b01, if_true, if_false, ite_self, rc_82, gf_82_0, gf_82_1, gf_82_2, gf_82_3, gf_82_4, gf_82_5, gf_82_6, pf_82_6, gf_82_7, pf_82_7, gf_82_8, pf_82_8, gf_82_9, pf_82_9, gf_82_10, pf_82_10, gf_82_11, pf_82_11, gf_82_12, pf_82_12, gf_82_13, gf_82_14, gf_82_15, gf_82_16, pf_82_16, gf_82_17, gf_82_18, gf_82_19, gf_82_20, gf_82_21, gf_82_22, gf_82_23, gf_82_24, gf_82_25, pf_82_25, ga_83, wi_83, ga_84, wi_84, ga_85, wb_85, ga_86, wi_86, ga_87, wb_87, ga_88, wi_88, ga_89, wi_89, ga_90, wi_90, ga_91, wi_91, ga_92, wi_92, ga_93, wi_93, ga_94, wi_94, ga_95, wi_95, ga_96, wb_96, ga_97, wi_97, ga_98, wi_98, ga_99, wi_99, nl_add, nl_add', nl_mul, nI_add, in_t, cl_n, le_nn, lt_nn, le_ln, le_nl, lt_nl, lt_ln, eq_nn, eq_nl, in_lit, cl_lit, Nat.le_refl, Nat.add_zero, q25, s25, up_of, shf_s, nl_sub', show ¬ 26 + 6 * (mI (M 83) - 1) ≤ p by omega])
    rw [shf_0, ← k83, ua_self, k83] at e2
    have s25 : shf 6 (M 83) (26 + 6 * i) (26 + 6 * (mI (M 83) - 1)) 25 = nI (mI (M 83)) := by unfold shf; rw [if_neg (by omega)]; exact hwf.2.1.1
    have sq : ∀ q, q < 26 → q ≠ 25 → upd (shf 6 (M 83) (26 + 6 * i) (26 + 6 * (mI (M 83) - 1))) 25 (nI (mI (M 83) - 1)) q = M 83 q := fun q h1 h2 => by
      rw [pk_un h2]; unfold shf; rw [if_neg (by omega)]
    have sx : ∀ x w, x < mI (M 83) - 1 → w < 6 → upd (shf 6 (M 83) (26 + 6 * i) (26 + 6 * (mI (M 83) - 1))) 25 (nI (mI (M 83) - 1)) (26 + 6 * x + w) = M 83 (26 + 6 * (if i ≤ x then x + 1 else x) + w) := fun x w h1 h2 => by
      rw [pk_un (by omega)]
      unfold shf
      by_cases hix : i ≤ x
      · rw [if_pos hix, if_pos (by omega)]
        congr 1
        omega
      · rw [if_neg hix, if_neg (by omega)]
    have ek : K 1 = M 1 := f1 1 (by decide)
    generalize hs' : upd (shf 6 (M 83) (26 + 6 * i) (26 + 6 * (mI (M 83) - 1))) 25 (nI (mI (M 83) - 1)) = s' at *
    have s'25 : s' 25 = nI (mI (M 83) - 1) := by rw [← hs', pk_us]
    have en : nC s' = nC (M 83) := by unfold nC; rw [sq 0 (by decide) (by decide)]
    have em : mI s' = mI (M 83) - 1 := by show (s' 25).toNatClampNeg = _; rw [s'25, nI_clamp (by omega)]
    refine ⟨nI (mI (M 83) - 1), M1, ua M1 83 s', ?_, ?_, ?_⟩
    · simp (disch := omega) only [iX8_drop_0, iX8_drop_1, iX8_drop_2, iX8_drop_5, iX8_drop_8, iX8_drop_9, iX8_drop_10, iX8_drop_11, iX8_drop_14, iX8_drop_15, iX8_drop_18, iX8_drop_19, iX8_drop_20, iX8_drop_23, iX8_drop_24, iX8_drop_27, iX8_drop_30, true_or, or_true, Option.bind_some, Option.bind_none, kk_hp, kn_hp, el_i, el_b, el_z, am_cat_nil, am_cat_i, am_cat_r, am_cat_l, am_cat_n, gd_i, gd_r, gd_n, gd_u, List.length_cons, List.length_nil, true_and, and_true, ↓reduceIte, Nat.zero_le, Nat.reduceLeDiff, Nat.reduceAdd, e_10, e_01, e_00, e_11, Int32.reduceLE, Int32.reduceLT, Int32.reduceAdd, Int32.reduceSub, b01, if_true, if_false, ite_self, rc_0, gf_0_0, gf_0_1, gf_0_2, gf_0_3, gf_0_4, gf_0_5, gf_0_6, gf_0_7, gf_0_8, pf_0_8, gf_0_9, pf_0_9, rc_1, gf_1_0, pf_1_0, gf_1_1, gf_1_2, gf_1_3, pf_1_3, gf_1_4, pf_1_4, gf_1_5, pf_1_5, gf_1_6, pf_1_6, gf_1_7, pf_1_7, gf_1_8, gf_1_9, nl_add, nl_add', nl_mul, nI_add, in_t, cl_n, le_nn, lt_nn, le_ln, le_nl, lt_nl, lt_ln, eq_nn, eq_nl, in_lit, cl_lit, Nat.le_refl, Nat.add_zero, hb, e1, up_n, up_s, pk_us, hM1]
      rw [← hM1]
      rfl
    · simp (disch := omega) only [iX9_drop_0, iX9_drop_1, iX9_drop_2, iX9_drop_5, iX9_drop_8, iX9_drop_9, iX9_drop_10, iX9_drop_12, iX9_drop_14, iX9_drop_15, iX9_drop_16, iX9_drop_17, true_or, or_true, Option.bind_some, Option.bind_none, kk_hp, kn_hp, el_i, el_b, el_z, am_cat_nil, am_cat_i, am_cat_r, am_cat_l, am_cat_n, gd_i, gd_r, gd_n, gd_u, List.length_cons, List.length_nil, true_and, and_true, ↓reduceIte, Nat.zero_le, Nat.reduceLeDiff, Nat.reduceAdd, e_10, e_01, e_00, e_11, Int32.reduceLE, Int32.reduceLT, Int32.reduceAdd, Int32.reduceSub, b01, if_true, if_false, ite_self, rc_82, gf_82_0, gf_82_1, gf_82_2, gf_82_3, gf_82_4, gf_82_5, gf_82_6, pf_82_6, gf_82_7, pf_82_7, gf_82_8, pf_82_8, gf_82_9, pf_82_9, gf_82_10, pf_82_10, gf_82_11, pf_82_11, gf_82_12, pf_82_12, gf_82_13, gf_82_14, gf_82_15, gf_82_16, pf_82_16, gf_82_17, gf_82_18, gf_82_19, gf_82_20, gf_82_21, gf_82_22, gf_82_23, gf_82_24, gf_82_25, pf_82_25, ga_83, wi_83, ga_84, wi_84, ga_85, wb_85, ga_86, wi_86, ga_87, wb_87, ga_88, wi_88, ga_89, wi_89, ga_90, wi_90, ga_91, wi_91, ga_92, wi_92, ga_93, wi_93, ga_94, wi_94, ga_95, wi_95, ga_96, wb_96, ga_97, wi_97, ga_98, wi_98, ga_99, wi_99, nl_add, nl_add', nl_mul, nI_add, in_t, cl_n, le_nn, lt_nn, le_ln, le_nl, lt_nl, lt_ln, eq_nn, eq_nl, in_lit, cl_lit, Nat.le_refl, Nat.add_zero, hr]
      rw [e2]
      simp (disch := omega) only [iX9_drop_18, iX9_drop_19, iX9_drop_21, iX9_drop_23, iX9_drop_24, iX9_drop_27, iX9_drop_29, iX9_drop_30, iX9_drop_31, iX9_drop_32, iX9_drop_33, iX9_drop_34, iX9_drop_58, iX9_drop_59, iX9_drop_62, iX9_drop_64, iX9_drop_65, iX9_drop_66, iX9_drop_67, iX9_drop_68, iX9_drop_69, iX9_drop_70, iX9_drop_73, iX9_drop_75, iX9_drop_76, true_or, or_true, Option.bind_some, Option.bind_none, kk_hp, kn_hp, el_i, el_b, el_z, am_cat_nil, am_cat_i, am_cat_r, am_cat_l, am_cat_n, gd_i, gd_r, gd_n, gd_u, List.length_cons, List.length_nil, true_and, and_true, ↓reduceIte, Nat.zero_le, Nat.reduceLeDiff, Nat.reduceAdd, e_10, e_01, e_00, e_11, Int32.reduceLE, Int32.reduceLT, Int32.reduceAdd, Int32.reduceSub, b01, if_true, if_false, ite_self, rc_82, gf_82_0, gf_82_1, gf_82_2, gf_82_3, gf_82_4, gf_82_5, gf_82_6, pf_82_6, gf_82_7, pf_82_7, gf_82_8, pf_82_8, gf_82_9, pf_82_9, gf_82_10, pf_82_10, gf_82_11, pf_82_11, gf_82_12, pf_82_12, gf_82_13, gf_82_14, gf_82_15, gf_82_16, pf_82_16, gf_82_17, gf_82_18, gf_82_19, gf_82_20, gf_82_21, gf_82_22, gf_82_23, gf_82_24, gf_82_25, pf_82_25, ga_83, wi_83, ga_84, wi_84, ga_85, wb_85, ga_86, wi_86, ga_87, wb_87, ga_88, wi_88, ga_89, wi_89, ga_90, wi_90, ga_91, wi_91, ga_92, wi_92, ga_93, wi_93, ga_94, wi_94, ga_95, wi_95, ga_96, wb_96, ga_97, wi_97, ga_98, wi_98, ga_99, wi_99, nl_add, nl_add', nl_mul, nI_add, in_t, cl_n, le_nn, lt_nn, le_ln, le_nl, lt_nl, lt_ln, eq_nn, eq_nl, in_lit, cl_lit, Nat.le_refl, Nat.add_zero, q25, s25, nl_sub', up_of, hs', s'25]
    · have ec : ∀ x, x ≠ 0 → x ≠ 1 → ¬ (5 ≤ x ∧ x ≤ 10) → x ≠ 83 → (ua M1 83 s') x = M x := fun x i0 i1 i2 i8 => by
        rw [ua_n _ _ i8, ← hM1, up_n _ _ _ i0, up_n _ _ _ i1]; exact f1 x i2
      refine RR_c h (fun x h1 h2 => ec x (by omega) (by omega) (by omega) h2) (by rw [← hM1]; rfl) ?_ ?_ ?_
      · rw [ua_n _ _ (by decide), ← hM1]
        show K 0 9 = M 0 9
        rw [f1 0 (by decide)]
      · rw [ua_s]
        refine ⟨by rw [sq 0 (by decide) (by decide), en]; exact hwf.1, by rw [em]; exact ⟨s'25, by omega⟩, fun x hx => ?_, fun c hc => ?_⟩
        · rw [em] at hx
          have hy : (if i ≤ x then x + 1 else x) < mI (M 83) := by split <;> omega
          exact itm_mv (hwf.2.2.1 _ hy) (sq 0 (by decide) (by decide)) (fun w hw => sx x w hx hw)
        · rw [en] at hc
          rw [sq (5 + c) (by omega) (by omega), sq (11 + c) (by omega) (by omega)]
          exact hwf.2.2.2 c hc
      · rw [ua_s]
        obtain ⟨r1, r2, r3, r4⟩ := h.2.1
        refine ⟨?_, fun c hc => ?_, fun v hv => ?_, fun x hx w hw => ?_⟩
        · rw [sq 0 (by decide) (by decide), sq 1 (by decide) (by decide), sq 2 (by decide) (by decide), sq 3 (by decide) (by decide), sq 4 (by decide) (by decide), s'25, ua_n _ _ (by decide), ← hM1, up_n _ _ _ (by decide), up_s, ek]
          exact ⟨r1.1, r1.2.1, r1.2.2.1, r1.2.2.2.1, r1.2.2.2.2.1, rfl⟩
        · rw [en] at hc
          rw [ec (1 + 1) (by decide) (by decide) (by decide) (by decide), ec (1 + 2) (by decide) (by decide) (by decide) (by decide), sq (5 + c) (by omega) (by omega), sq (11 + c) (by omega) (by omega)]
          exact r2 c hc
        · rw [ec (1 + 10) (by decide) (by decide) (by decide) (by decide), sq (17 + v) (by omega) (by omega)]
          exact r3 v hv
        · rw [em] at hx
          have hy : (if i ≤ x then x + 1 else x) < mI (M 83) := by split <;> omega
          rw [ua_n _ _ (by omega), ← hM1, up_n _ _ _ (by omega), up_n _ _ _ (by omega), show 1 + 4 + w = 5 + w by omega, g1 w hw, sx x w hx hw]
          have := r4 _ hy w hw
          rw [show 1 + 4 + w = 5 + w by omega] at this
          rw [← this]
          unfold shf
          by_cases hix : i ≤ x
          · rw [if_pos (by omega), if_pos hix]
          · rw [if_neg (by omega), if_neg hix]
  · have hb := @C_itm0 X M a (mI (M 83)) q7 (by omega) hno
    have hr := @M_itm0 X M a (mI (M 83)) h.1.2.1.1 (by omega) hno
    refine ⟨-1, M, M, ?_, ?_, h⟩
    · simp (disch := omega) only [iX8_drop_0, iX8_drop_1, iX8_drop_2, iX8_drop_5, iX8_drop_8, iX8_drop_9, iX8_drop_10, iX8_drop_11, iX8_drop_14, iX8_drop_15, iX8_drop_18, iX8_drop_19, iX8_drop_20, iX8_drop_23, iX8_drop_24, iX8_drop_27, iX8_drop_30, true_or, or_true, Option.bind_some, Option.bind_none, kk_hp, kn_hp, el_i, el_b, el_z, am_cat_nil, am_cat_i, am_cat_r, am_cat_l, am_cat_n, gd_i, gd_r, gd_n, gd_u, List.length_cons, List.length_nil, true_and, and_true, ↓reduceIte, Nat.zero_le, Nat.reduceLeDiff, Nat.reduceAdd, e_10, e_01, e_00, e_11, Int32.reduceLE, Int32.reduceLT, Int32.reduceAdd, Int32.reduceSub, b01, if_true, if_false, ite_self, rc_0, gf_0_0, gf_0_1, gf_0_2, gf_0_3, gf_0_4, gf_0_5, gf_0_6, gf_0_7, gf_0_8, pf_0_8, gf_0_9, pf_0_9, rc_1, gf_1_0, pf_1_0, gf_1_1, gf_1_2, gf_1_3, pf_1_3, gf_1_4, pf_1_4, gf_1_5, pf_1_5, gf_1_6, pf_1_6, gf_1_7, pf_1_7, gf_1_8, gf_1_9, nl_add, nl_add', nl_mul, nI_add, in_t, cl_n, le_nn, lt_nn, le_ln, le_nl, lt_nl, lt_ln, eq_nn, eq_nl, in_lit, cl_lit, Nat.le_refl, Nat.add_zero, hb]
    · simp (disch := omega) only [iX9_drop_0, iX9_drop_1, iX9_drop_2, iX9_drop_5, iX9_drop_8, iX9_drop_9, iX9_drop_10, iX9_drop_12, iX9_drop_14, iX9_drop_15, iX9_drop_16, iX9_drop_17, iX9_drop_18, iX9_drop_19, iX9_drop_21, iX9_drop_23, iX9_drop_24, iX9_drop_27, iX9_drop_29, iX9_drop_30, iX9_drop_31, iX9_drop_32, iX9_drop_33, iX9_drop_34, iX9_drop_37, iX9_drop_38, iX9_drop_41, iX9_drop_42, iX9_drop_43, iX9_drop_46, iX9_drop_47, iX9_drop_49, iX9_drop_50, iX9_drop_51, iX9_drop_52, iX9_drop_55, iX9_drop_58, iX9_drop_59, iX9_drop_62, iX9_drop_64, iX9_drop_65, iX9_drop_66, iX9_drop_67, iX9_drop_68, iX9_drop_69, iX9_drop_70, iX9_drop_73, iX9_drop_75, iX9_drop_76, true_or, or_true, Option.bind_some, Option.bind_none, kk_hp, kn_hp, el_i, el_b, el_z, am_cat_nil, am_cat_i, am_cat_r, am_cat_l, am_cat_n, gd_i, gd_r, gd_n, gd_u, List.length_cons, List.length_nil, true_and, and_true, ↓reduceIte, Nat.zero_le, Nat.reduceLeDiff, Nat.reduceAdd, e_10, e_01, e_00, e_11, Int32.reduceLE, Int32.reduceLT, Int32.reduceAdd, Int32.reduceSub, b01, if_true, if_false, ite_self, rc_82, gf_82_0, gf_82_1, gf_82_2, gf_82_3, gf_82_4, gf_82_5, gf_82_6, pf_82_6, gf_82_7, pf_82_7, gf_82_8, pf_82_8, gf_82_9, pf_82_9, gf_82_10, pf_82_10, gf_82_11, pf_82_11, gf_82_12, pf_82_12, gf_82_13, gf_82_14, gf_82_15, gf_82_16, pf_82_16, gf_82_17, gf_82_18, gf_82_19, gf_82_20, gf_82_21, gf_82_22, gf_82_23, gf_82_24, gf_82_25, pf_82_25, ga_83, wi_83, ga_84, wi_84, ga_85, wb_85, ga_86, wi_86, ga_87, wb_87, ga_88, wi_88, ga_89, wi_89, ga_90, wi_90, ga_91, wi_91, ga_92, wi_92, ga_93, wi_93, ga_94, wi_94, ga_95, wi_95, ga_96, wb_96, ga_97, wi_97, ga_98, wi_98, ga_99, wi_99, nl_add, nl_add', nl_mul, nI_add, in_t, cl_n, le_nn, lt_nn, le_ln, le_nl, lt_nl, lt_ln, eq_nn, eq_nl, in_lit, cl_lit, Nat.le_refl, Nat.add_zero, hr]
end S79
