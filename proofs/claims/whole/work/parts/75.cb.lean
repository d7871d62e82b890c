/-! changes, ii: an item more; a track -/
def app (s : Nat → Int32) (w t a b : Int32) : Nat → Int32 := upd (upd (upd (upd (upd (upd (upd s (26 + 6 * mI s) w) (26 + 6 * mI s + 1) t) (26 + 6 * mI s + 2) a) (26 + 6 * mI s + 3) b) (26 + 6 * mI s + 4) (-4)) (26 + 6 * mI s + 5) (-4)) 25 (nI (mI s + 1))
section A75
variable {s : Nat → Int32} {w t a b : Int32}
theorem app_lo {j : Nat} (h : j ≠ 25) (h2 : j < 26 + 6 * mI s) : app s w t a b j = s j := by
  unfold app
  rw [pk_un h, pk_un (by omega), pk_un (by omega), pk_un (by omega), pk_un (by omega), pk_un (by omega), pk_un (by omega)]
theorem app_25 : app s w t a b 25 = nI (mI s + 1) := by unfold app; rw [pk_us]
theorem app_0 : app s w t a b (26 + 6 * mI s) = w := by
  unfold app
  rw [pk_un (by omega), pk_un (by omega), pk_un (by omega), pk_un (by omega), pk_un (by omega), pk_un (by omega), pk_us]
theorem app_1 : app s w t a b (26 + 6 * mI s + 1) = t := by
  unfold app
  rw [pk_un (by omega), pk_un (by omega), pk_un (by omega), pk_un (by omega), pk_un (by omega), pk_us]
theorem app_2 : app s w t a b (26 + 6 * mI s + 2) = a := by
  unfold app
  rw [pk_un (by omega), pk_un (by omega), pk_un (by omega), pk_un (by omega), pk_us]
theorem app_3 : app s w t a b (26 + 6 * mI s + 3) = b := by
  unfold app
  rw [pk_un (by omega), pk_un (by omega), pk_un (by omega), pk_us]
theorem app_4 : app s w t a b (26 + 6 * mI s + 4) = -4 := by
  unfold app
  rw [pk_un (by omega), pk_un (by omega), pk_us]
theorem app_5 : app s w t a b (26 + 6 * mI s + 5) = -4 := by
  unfold app
  rw [pk_un (by omega), pk_us]
theorem app_n (hm : mI s < 10) : nC (app s w t a b) = nC s := by
  unfold nC; rw [app_lo (by decide) (by omega)]
theorem app_m (hm : mI s < 10) : mI (app s w t a b) = mI s + 1 := by
  show (app s w t a b 25).toNatClampNeg = _
  rw [app_25, nI_clamp (by omega)]
theorem app_wf (h : wf s) (hm : mI s < 10) {x y : Nat} (hw : w = nI x) (hx : 1 ≤ x ∧ x ≤ nC s) (ht : t = nI y) (hy : 1 ≤ y ∧ y ≤ 4) : wf (app s w t a b) := by
  have hn := h.1.2
  have en := app_n (w := w) (t := t) (a := a) (b := b) hm
  have em := app_m (w := w) (t := t) (a := a) (b := b) hm
  refine ⟨by rw [en, app_lo (by decide) (by omega)]; exact h.1, by rw [em, app_25]; exact ⟨rfl, by omega⟩, fun i hi => ?_, fun c hc => ?_⟩
  · rw [em] at hi
    by_cases him : i = mI s
    · subst him
      unfold itm wI tI pC pR
      rw [en, app_0, app_1, app_4, app_5, hw, ht, nI_clamp (by omega), nI_clamp (by omega)]
      exact ⟨⟨rfl, hx⟩, ⟨rfl, hy⟩, Or.inl rfl, Or.inl rfl⟩
    · have := h.2.2.1 i (by omega)
      unfold itm wI tI pC pR at this ⊢
      rw [en, app_lo (by omega) (by omega), app_lo (by omega) (by omega), app_lo (by omega) (by omega), app_lo (by omega) (by omega)]
      exact this
  · rw [en] at hc
    rw [app_lo (by omega) (by omega), app_lo (by omega) (by omega)]
    exact h.2.2.2 c hc
end A75
section S75
variable {X : am_X} {M : Nat → Nat → Int32}
theorem C_append {g : Nat} {s : Nat → Int32} {w t a b : Int32} (hg : isG g) (hR : RG M g s) (h25 : s 25 = nI (mI s)) (hm : mI s < 10) (hn : nC s ≤ 6) : ∃ M', am_ev X kX1_append 0 [.ref g, .int w, .int t, .int a, .int b] [] (hp M) = some (some (.int 1), hp M') ∧ (∀ x, ¬ (g ≤ x ∧ x ≤ g + 10) → M' x = M x) ∧ RG M' g (app s w t a b) := by
  obtain ⟨⟨r0, r3, r4, r5, r6, r7⟩, rk, rl, rf⟩ := hR
  have h7 : M g 7 = nI (mI s) := r7.trans h25
  have hgb := isG_60 hg
  refine ⟨up (up (up (up (up (up (up M (g + 4) (mI s) w) (g + 4 + 1) (mI s) t) (g + 4 + 2) (mI s) a) (g + 4 + 3) (mI s) b) (g + 4 + 4) (mI s) (-4)) (g + 4 + 5) (mI s) (-4)) g 7 (nI (mI s + 1)), ?_, fun x hx => ?_, ?_⟩
  · simp (disch := omega) only [iX1_append_0, iX1_append_1, iX1_append_4, iX1_append_6, iX1_append_9, iX1_append_10, iX1_append_11, iX1_append_12, iX1_append_15, iX1_append_16, iX1_append_17, iX1_append_18, iX1_append_21, iX1_append_22, iX1_append_23, iX1_append_24, iX1_append_27, iX1_append_28, iX1_append_29, iX1_append_30, iX1_append_33, iX1_append_34, iX1_append_35, iX1_append_36, iX1_append_39, iX1_append_40, iX1_append_41, iX1_append_42, iX1_append_45, iX1_append_46, iX1_append_47, iX1_append_48, iX1_append_51, iX1_append_52, iX1_append_53, iX1_append_54, iX1_append_57, iX1_append_59, iX1_append_60, iX1_append_61, iX1_append_64, iX1_append_65, iX1_append_66, iX1_append_67, iX1_append_70, iX1_append_72, iX1_append_73, iX1_append_74, iX1_append_77, iX1_append_78, iX1_append_79, iX1_append_80, iX1_append_83, iX1_append_85, iX1_append_86, iX1_append_87, iX1_append_88, iX1_append_91, iX1_append_92, iX1_append_93, iX1_append_96, iX1_append_97, true_or, or_true, Option.bind_some, Option.bind_none, kk_hp, kn_hp, el_i, el_b, el_z, am_cat_nil, am_cat_i, am_cat_r, am_cat_l, am_cat_n, gd_i, gd_r, gd_n, gd_u, List.length_cons, List.length_nil, true_and, and_true, ↓reduceIte, Nat.zero_le, Nat.reduceLeDiff, Nat.reduceAdd, e_10, e_01, e_00, e_11, Int32.reduceLE, Int32.reduceLT, Int32.reduceAdd, Int32.reduceSub, b01, if_true, if_false, ite_self, nl_add, nl_add', nl_mul, nI_add, in_t, cl_n, le_nn, lt_nn, le_ln, le_nl, lt_nl, lt_ln, eq_nn, eq_nl, in_lit, cl_lit, Nat.le_refl, Nat.add_zero, gG7 hg, gG8 hg, fG0 hg, fG1 hg, fG2 hg, fG3 hg, fG4 hg, fG5 hg, wGr0 hg, wGr1 hg, wGr2 hg, wGr3 hg, wGr4 hg, wGr5 hg, pG7 hg, h7, up_n, hm]
  · rw [up_n _ _ _ (by omega), up_n _ _ _ (by omega), up_n _ _ _ (by omega), up_n _ _ _ (by omega), up_n _ _ _ (by omega), up_n _ _ _ (by omega), up_n _ _ _ (by omega)]
  · have en := app_n (s := s) (w := w) (t := t) (a := a) (b := b) hm
    have em := app_m (s := s) (w := w) (t := t) (a := a) (b := b) hm
    have lo : ∀ j, j ≠ 25 → j < 26 + 6 * mI s → app s w t a b j = s j := fun j h1 h2 => app_lo h1 h2
    generalize hK : up (up (up (up (up (up M (g + 4) (mI s) w) (g + 4 + 1) (mI s) t) (g + 4 + 2) (mI s) a) (g + 4 + 3) (mI s) b) (g + 4 + 4) (mI s) (-4)) (g + 4 + 5) (mI s) (-4) = K
    have kg : K g = M g := by rw [← hK, up_n _ _ _ (by omega), up_n _ _ _ (by omega), up_n _ _ _ (by omega), up_n _ _ _ (by omega), up_n _ _ _ (by omega), up_n _ _ _ (by omega)]
    have kx : ∀ x, x = g + 1 ∨ x = g + 2 ∨ x = g + 10 → (up K g 7 (nI (mI s + 1))) x = M x := fun x hx => by
      rw [up_n _ _ _ (by omega), ← hK, up_n _ _ _ (by omega), up_n _ _ _ (by omega), up_n _ _ _ (by omega), up_n _ _ _ (by omega), up_n _ _ _ (by omega), up_n _ _ _ (by omega)]
    have e0 : K (g + 4) = upd (M (g + 4)) (mI s) w := by rw [← hK, up_n _ _ _ (by omega), up_n _ _ _ (by omega), up_n _ _ _ (by omega), up_n _ _ _ (by omega), up_n _ _ _ (by omega), up_s]
    have e1 : K (g + 4 + 1) = upd (M (g + 4 + 1)) (mI s) t := by rw [← hK, up_n _ _ _ (by omega), up_n _ _ _ (by omega), up_n _ _ _ (by omega), up_n _ _ _ (by omega), up_s, up_n _ _ _ (by omega)]
    have e2 : K (g + 4 + 2) = upd (M (g + 4 + 2)) (mI s) a := by rw [← hK, up_n _ _ _ (by omega), up_n _ _ _ (by omega), up_n _ _ _ (by omega), up_s, up_n _ _ _ (by omega), up_n _ _ _ (by omega)]
    have e3 : K (g + 4 + 3) = upd (M (g + 4 + 3)) (mI s) b := by rw [← hK, up_n _ _ _ (by omega), up_n _ _ _ (by omega), up_s, up_n _ _ _ (by omega), up_n _ _ _ (by omega), up_n _ _ _ (by omega)]
    have e4 : K (g + 4 + 4) = upd (M (g + 4 + 4)) (mI s) (-4) := by rw [← hK, up_n _ _ _ (by omega), up_s, up_n _ _ _ (by omega), up_n _ _ _ (by omega), up_n _ _ _ (by omega), up_n _ _ _ (by omega)]
    have e5 : K (g + 4 + 5) = upd (M (g + 4 + 5)) (mI s) (-4) := by rw [← hK, up_s, up_n _ _ _ (by omega), up_n _ _ _ (by omega), up_n _ _ _ (by omega), up_n _ _ _ (by omega), up_n _ _ _ (by omega)]
    refine ⟨?_, fun c hc => ?_, fun v hv => ?_, fun i hi q hq => ?_⟩
    · rw [up_s, kg, pk_un (by decide), pk_un (by decide), pk_un (by decide), pk_un (by decide), pk_un (by decide), pk_us, app_25, lo 0 (by omega) (by omega), lo 1 (by omega) (by omega), lo 2 (by omega) (by omega), lo 3 (by omega) (by omega), lo 4 (by omega) (by omega)]
      exact ⟨r0, r3, r4, r5, r6, rfl⟩
    · rw [en] at hc
      rw [kx (g + 1) (by omega), kx (g + 2) (by omega), lo (5 + c) (by omega) (by omega), lo (11 + c) (by omega) (by omega)]
      exact rk c hc
    · rw [kx (g + 10) (by omega), lo (17 + v) (by omega) (by omega)]
      exact rl v hv
    · rw [em] at hi
      rw [up_n _ _ _ (by omega)]
      by_cases him : i = mI s
      · subst him
        match q, hq with
        | 0, _ => show K (g + 4) (mI s) = app s w t a b (26 + 6 * mI s); rw [e0, pk_us, app_0]
        | 1, _ => rw [e1, pk_us, app_1]
        | 2, _ => rw [e2, pk_us, app_2]
        | 3, _ => rw [e3, pk_us, app_3]
        | 4, _ => rw [e4, pk_us, app_4]
        | 5, _ => rw [e5, pk_us, app_5]
      · rw [lo _ (by omega) (by omega), ← rf i (by omega) q hq]
        match q, hq with
        | 0, _ => show K (g + 4) i = M (g + 4) i; rw [e0, pk_un him]
        | 1, _ => rw [e1, pk_un him]
        | 2, _ => rw [e2, pk_un him]
        | 3, _ => rw [e3, pk_un him]
        | 4, _ => rw [e4, pk_un him]
        | 5, _ => rw [e5, pk_un him]
theorem C_appendF {g : Nat} {w t a b : Int32} {m : Nat} (hg : isG g) (h7 : M g 7 = nI m) (hm : 10 ≤ m) (hm2 : m < 100) : am_ev X kX1_append 0 [.ref g, .int w, .int t, .int a, .int b] [] (hp M) = some (some (.int 0), hp M) := by
  simp (disch := omega) only [iX1_append_0, iX1_append_1, iX1_append_4, iX1_append_6, iX1_append_9, iX1_append_10, iX1_append_11, iX1_append_12, iX1_append_15, iX1_append_16, iX1_append_17, iX1_append_18, iX1_append_21, iX1_append_22, iX1_append_23, iX1_append_24, iX1_append_27, iX1_append_28, iX1_append_29, iX1_append_30, iX1_append_33, iX1_append_34, iX1_append_35, iX1_append_36, iX1_append_39, iX1_append_40, iX1_append_41, iX1_append_42, iX1_append_45, iX1_append_46, iX1_append_47, iX1_append_48, iX1_append_51, iX1_append_52, iX1_append_53, iX1_append_54, iX1_append_57, iX1_append_59, iX1_append_60, iX1_append_61, iX1_append_64, iX1_append_65, iX1_append_66, iX1_append_67, iX1_append_70, iX1_append_72, iX1_append_73, iX1_append_74, iX1_append_77, iX1_append_78, iX1_append_79, iX1_append_80, iX1_append_83, iX1_append_85, iX1_append_86, iX1_append_87, iX1_append_88, iX1_append_91, iX1_append_92, iX1_append_93, iX1_append_96, iX1_append_97, true_or, or_true, Option.bind_some, Option.bind_none, kk_hp, kn_hp, el_i, el_b, el_z, am_cat_nil, am_cat_i, am_cat_r, am_cat_l, am_cat_n, gd_i, gd_r, gd_n, gd_u, List.length_cons, List.length_nil, true_and, and_true, ↓reduceIte, Nat.zero_le, Nat.reduceLeDiff, Nat.reduceAdd, e_10, e_01, e_00, e_11, Int32.reduceLE, Int32.reduceLT, Int32.reduceAdd, Int32.reduceSub, b01, if_true, if_false, ite_self, nl_add, nl_add', nl_mul, nI_add, in_t, cl_n, le_nn, lt_nn, le_ln, le_nl, lt_nl, lt_ln, eq_nn, eq_nl, in_lit, cl_lit, Nat.le_refl, Nat.add_zero, gG7 hg, h7, show ¬ m < 10 by omega]
theorem M_comes {w t a b : Int32} (h25 : M 83 25 = nI (mI (M 83))) (hm : mI (M 83) < 10) : am_ev X kX9_comes 0 [.ref 82, .int w, .int t, .int a, .int b, am_u] [] (hp M) = some (none, hp (ua M 83 (app (M 83) w t a b))) := by
  simp (disch := omega) only [iX9_comes_0, iX9_comes_2, iX9_comes_4, iX9_comes_5, iX9_comes_8, iX9_comes_10, iX9_comes_11, iX9_comes_12, iX9_comes_13, iX9_comes_15, iX9_comes_16, iX9_comes_19, iX9_comes_21, iX9_comes_22, iX9_comes_23, iX9_comes_24, iX9_comes_25, iX9_comes_26, iX9_comes_29, iX9_comes_31, iX9_comes_32, iX9_comes_33, iX9_comes_34, iX9_comes_35, iX9_comes_36, iX9_comes_39, iX9_comes_41, iX9_comes_42, iX9_comes_43, iX9_comes_44, iX9_comes_45, iX9_comes_46, iX9_comes_49, iX9_comes_51, iX9_comes_52, iX9_comes_53, iX9_comes_55, iX9_comes_56, iX9_comes_57, iX9_comes_60, iX9_comes_62, iX9_comes_63, iX9_comes_64, iX9_comes_66, iX9_comes_67, iX9_comes_68, iX9_comes_71, iX9_comes_73, iX9_comes_74, iX9_comes_75, iX9_comes_77, iX9_comes_78, iX9_comes_79, iX9_comes_82, iX9_comes_84, iX9_comes_85, iX9_comes_86, iX9_comes_87, iX9_comes_88, iX9_comes_89, true_or, or_true, Option.bind_some, Option.bind_none, kk_hp, kn_hp, el_i, el_b, el_z, am_cat_nil, am_cat_i, am_cat_r, am_cat_l, am_cat_n, gd_i, gd_r, gd_n, gd_u, List.length_cons, List.length_nil, true_and, and_true, ↓reduceIte, Nat.zero_le, Nat.reduceLeDiff, Nat.reduceAdd, e_10, e_01, e_00, e_11, Int32.reduceLE, Int32.reduceLT, Int32.reduceAdd, Int32.reduceSub, b01, if_true, if_false, ite_self, rc_82, gf_82_0, gf_82_1, gf_82_2, gf_82_3, gf_82_4, gf_82_5, gf_82_6, pf_82_6, gf_82_7, pf_82_7, gf_82_8, pf_82_8, gf_82_9, pf_82_9, gf_82_10, pf_82_10, gf_82_11, pf_82_11, gf_82_12, pf_82_12, gf_82_13, gf_82_14, gf_82_15, gf_82_16, pf_82_16, gf_82_17, gf_82_18, gf_82_19, gf_82_20, gf_82_21, gf_82_22, gf_82_23, gf_82_24, gf_82_25, pf_82_25, ga_83, wi_83, ga_84, wi_84, ga_85, wb_85, ga_86, wi_86, ga_87, wb_87, ga_88, wi_88, ga_89, wi_89, ga_90, wi_90, ga_91, wi_91, ga_92, wi_92, ga_93, wi_93, ga_94, wi_94, ga_95, wi_95, ga_96, wb_96, ga_97, wi_97, ga_98, wi_98, ga_99, wi_99, nl_add, nl_add', nl_mul, nI_add, in_t, cl_n, le_nn, lt_nn, le_ln, le_nl, lt_nl, lt_ln, eq_nn, eq_nl, in_lit, cl_lit, Nat.le_refl, Nat.add_zero, h25, up_s, pk_un]
  unfold app
  rw [up_ua M, up_of, up_of, up_of, up_of, up_of, up_of]
theorem C_isItem {g : Nat} {w t a b : Int32} (hg : isG g) : am_ev X kX1_isItem 0 [.ref g, .int w, .int t, .int a, .int b] [] (hp M) = some (some (.int (if ((1 ≤ w ∧ w ≤ M g 0) ∧ (1 ≤ t ∧ t ≤ 4)) ∧ (0 ≤ a ∧ a ≤ 99) ∧ (0 ≤ b ∧ b ≤ 99) then 1 else 0)), hp M) := by
  have e1 := @C_isItemSize X M g w t hg
  have e2 := @C_isBetween X M a 0 99
  have e3 := @C_isBetween X M b 0 99
  by_cases h1 : (1 ≤ w ∧ w ≤ M g 0) ∧ (1 ≤ t ∧ t ≤ 4)
  · rw [if_pos h1] at e1
    by_cases h2 : 0 ≤ a ∧ a ≤ 99
    · rw [if_pos h2] at e2
      by_cases h3 : 0 ≤ b ∧ b ≤ 99
      · rw [if_pos h3] at e3
        rw [if_pos ⟨h1, h2, h3⟩]
        simp (disch := omega) only [iX1_isItem_0, iX1_isItem_1, iX1_isItem_2, iX1_isItem_3, iX1_isItem_6, iX1_isItem_9, iX1_isItem_10, iX1_isItem_11, iX1_isItem_13, iX1_isItem_16, iX1_isItem_19, iX1_isItem_21, iX1_isItem_22, iX1_isItem_24, iX1_isItem_27, iX1_isItem_30, iX1_isItem_31, iX1_isItem_34, iX1_isItem_35, true_or, or_true, Option.bind_some, Option.bind_none, kk_hp, kn_hp, el_i, el_b, el_z, am_cat_nil, am_cat_i, am_cat_r, am_cat_l, am_cat_n, gd_i, gd_r, gd_n, gd_u, List.length_cons, List.length_nil, true_and, and_true, ↓reduceIte, Nat.zero_le, Nat.reduceLeDiff, Nat.reduceAdd, e_10, e_01, e_00, e_11, Int32.reduceLE, Int32.reduceLT, Int32.reduceAdd, Int32.reduceSub, b01, if_true, if_false, ite_self, rcG hg, e1, e2, e3]
      · rw [if_neg h3] at e3
        rw [if_neg (fun z => h3 z.2.2)]
        simp (disch := omega) only [iX1_isItem_0, iX1_isItem_1, iX1_isItem_2, iX1_isItem_3, iX1_isItem_6, iX1_isItem_9, iX1_isItem_10, iX1_isItem_11, iX1_isItem_13, iX1_isItem_16, iX1_isItem_19, iX1_isItem_21, iX1_isItem_22, iX1_isItem_24, iX1_isItem_27, iX1_isItem_30, iX1_isItem_31, iX1_isItem_34, iX1_isItem_35, true_or, or_true, Option.bind_some, Option.bind_none, kk_hp, kn_hp, el_i, el_b, el_z, am_cat_nil, am_cat_i, am_cat_r, am_cat_l, am_cat_n, gd_i, gd_r, gd_n, gd_u, List.length_cons, List.length_nil, true_and, and_true, ↓reduceIte, Nat.zero_le, Nat.reduceLeDiff, Nat.reduceAdd, e_10, e_01, e_00, e_11, Int32.reduceLE, Int32.reduceLT, Int32.reduceAdd, Int32.reduceSub, b01, if_true, if_false, ite_self, rcG hg, e1, e2, e3]
    · rw [if_neg h2] at e2
      rw [if_neg (fun z => h2 z.2.1)]
      simp (disch := omega) only [iX1_isItem_0, iX1_isItem_1, iX1_isItem_2, iX1_isItem_3, iX1_isItem_6, iX1_isItem_9, iX1_isItem_10, iX1_isItem_11, iX1_isItem_13, iX1_isItem_16, iX1_isItem_19, iX1_isItem_21, iX1_isItem_22, iX1_isItem_24, iX1_isItem_27, iX1_isItem_30, iX1_isItem_31, iX1_isItem_34, iX1_isItem_35, true_or, or_true, Option.bind_some, Option.bind_none, kk_hp, kn_hp, el_i, el_b, el_z, am_cat_nil, am_cat_i, am_cat_r, am_cat_l, am_cat_n, gd_i, gd_r, gd_n, gd_u, List.length_cons, List.length_nil, true_and, and_true, ↓reduceIte, Nat.zero_le, Nat.reduceLeDiff, Nat.reduceAdd, e_10, e_01, e_00, e_11, Int32.reduceLE, Int32.reduceLT, Int32.reduceAdd, Int32.reduceSub, b01, if_true, if_false, ite_self, rcG hg, e1, e2]
  · rw [if_neg h1] at e1
    rw [if_neg (fun z => h1 z.1)]
    simp (disch := omega) only [iX1_isItem_0, iX1_isItem_1, iX1_isItem_2, iX1_isItem_3, iX1_isItem_6, iX1_isItem_9, iX1_isItem_10, iX1_isItem_11, iX1_isItem_13, iX1_isItem_16, iX1_isItem_19, iX1_isItem_21, iX1_isItem_22, iX1_isItem_24, iX1_isItem_27, iX1_isItem_30, iX1_isItem_31, iX1_isItem_34, iX1_isItem_35, true_or, or_true, Option.bind_some, Option.bind_none, kk_hp, kn_hp, el_i, el_b, el_z, am_cat_nil, am_cat_i, am_cat_r, am_cat_l, am_cat_n, gd_i, gd_r, gd_n, gd_u, List.length_cons, List.length_nil, true_and, and_true, ↓reduceIte, Nat.zero_le, Nat.reduceLeDiff, Nat.reduceAdd, e_10, e_01, e_00, e_11, Int32.reduceLE, Int32.reduceLT, Int32.reduceAdd, Int32.reduceSub, b01, if_true, if_false, ite_self, rcG hg, e1]
/-- add, with what it answers -/
theorem A_add (h : RR M) (w t a b : Int32) : ∃ v M1 M2, am_ev X kX8_add 0 [.ref 0, .int w, .int t, .int a, .int b] [] (hp M) = some (some (.int v), hp M1) ∧ am_ev X kX9_add 0 [.ref 82, .int w, .int t, .int a, .int b] [] (hp M1) = some (some (.int v), hp M2) ∧ RR M2 ∧
    (v < 0 ∧ M1 = M ∧ M2 = M ∨ 0 < v ∧ (∀ x, ¬ (x ≤ 11) → M1 x = M x) ∧ (∀ x, x ≠ 83 → M2 x = M1 x) ∧ M1 0 9 = M 0 9 ∧ M2 83 = app (M 83) w t a b ∧ mI (M 83) < 10) := by
  have hwf := h.1
  have hn := hwf.1.2
  have hm := hwf.2.1.2
  have h25 := hwf.2.1.1
  have r0 : M 1 0 = M 83 0 := h.2.1.1.1
  have e1 := @C_isItem X M 1 w t a b (Or.inl rfl)
  rw [r0] at e1
  have eb := fun K : Nat → Nat → Int32 => @M_isBox X K w t
  have ea := fun K : Nat → Nat → Int32 => @M_isNeed X K a
  have ec := fun K : Nat → Nat → Int32 => @M_isNeed X K b
  by_cases hc : ((1 ≤ w ∧ w ≤ M 83 0) ∧ (1 ≤ t ∧ t ≤ 4)) ∧ (0 ≤ a ∧ a ≤ 99) ∧ (0 ≤ b ∧ b ≤ 99)
  · rw [if_pos hc] at e1
    by_cases hf : mI (M 83) < 10
    · obtain ⟨K, e2, f2, g2⟩ := @C_append X M 1 (M 83) w t a b (Or.inl rfl) h.2.1 h25 hf hn
      have k83 : K 83 = M 83 := f2 83 (by decide)
      have k83' : (up K 0 8 1) 83 = M 83 := k83
      have e3 := @M_comes X (up K 0 8 1) w t a b (by rw [k83']; exact h25) (by rw [k83']; exact hf)
      rw [k83'] at e3
      have ek : K 1 7 = nI (mI (M 83) + 1) := g2.1.2.2.2.2.2.trans app_25
      have eb' := eb (up K 0 8 1)
      have ea' := ea (up K 0 8 1)
      have ec' := ec (up K 0 8 1)
      rw [k83', if_pos hc.1] at eb'
      rw [if_pos hc.2.1] at ea'
      rw [if_pos hc.2.2] at ec'
      have h83u : (up K 0 8 1) 83 25 = nI (mI (M 83)) := by rw [k83']; exact h25
      obtain ⟨x, hx1, hx2, hxw⟩ := (btw1 (n := nC (M 83)) (by omega)).mp (by rw [← hwf.1.1]; exact hc.1.1)
      obtain ⟨y, hy1, hy2, hyt⟩ := (btw1 (n := 4) (by omega)).mp hc.1.2
      refine ⟨nI (mI (M 83) + 1), up K 0 8 1, ua (up K 0 8 1) 83 (app (M 83) w t a b), ?_, ?_, ?_, Or.inr ⟨?_, ?_, ?_, ?_, ?_, hf⟩⟩
      · simp (disch := omega) only [iX8_add_0, iX8_add_1, iX8_add_4, iX8_add_5, iX8_add_6, iX8_add_7, iX8_add_9, iX8_add_12, iX8_add_15, iX8_add_16, iX8_add_17, iX8_add_18, iX8_add_21, iX8_add_22, iX8_add_23, iX8_add_24, iX8_add_26, iX8_add_29, iX8_add_32, iX8_add_34, iX8_add_35, iX8_add_36, iX8_add_37, iX8_add_40, iX8_add_41, iX8_add_44, iX8_add_47, true_or, or_true, Option.bind_some, Option.bind_none, kk_hp, kn_hp, el_i, el_b, el_z, am_cat_nil, am_cat_i, am_cat_r, am_cat_l, am_cat_n, gd_i, gd_r, gd_n, gd_u, List.length_cons, List.length_nil, true_and, and_true, ↓reduceIte, Nat.zero_le, Nat.reduceLeDiff, Nat.reduceAdd, e_10, e_01, e_00, e_11, Int32.reduceLE, Int32.reduceLT, Int32.reduceAdd, Int32.reduceSub, b01, if_true, if_false, ite_self, rc_0, gf_0_0, gf_0_1, gf_0_2, gf_0_3, gf_0_4, gf_0_5, gf_0_6, gf_0_7, gf_0_8, pf_0_8, gf_0_9, pf_0_9, rc_1, gf_1_0, pf_1_0, gf_1_1, gf_1_2, gf_1_3, pf_1_3, gf_1_4, pf_1_4, gf_1_5, pf_1_5, gf_1_6, pf_1_6, gf_1_7, pf_1_7, gf_1_8, gf_1_9, nl_add, nl_add', nl_mul, nI_add, in_t, cl_n, le_nn, lt_nn, le_ln, le_nl, lt_nl, lt_ln, eq_nn, eq_nl, in_lit, cl_lit, Nat.le_refl, Nat.add_zero, e1, e2, up_n, ek]
      · simp (disch := omega) only [iX9_add_0, iX9_add_1, iX9_add_2, iX9_add_3, iX9_add_6, iX9_add_9, iX9_add_10, iX9_add_13, iX9_add_16, iX9_add_18, iX9_add_21, iX9_add_24, iX9_add_25, iX9_add_26, iX9_add_27, iX9_add_30, iX9_add_32, iX9_add_33, iX9_add_35, iX9_add_38, iX9_add_40, iX9_add_41, iX9_add_42, iX9_add_43, iX9_add_44, iX9_add_45, iX9_add_47, iX9_add_50, iX9_add_51, iX9_add_54, iX9_add_56, iX9_add_57, true_or, or_true, Option.bind_some, Option.bind_none, kk_hp, kn_hp, el_i, el_b, el_z, am_cat_nil, am_cat_i, am_cat_r, am_cat_l, am_cat_n, gd_i, gd_r, gd_n, gd_u, List.length_cons, List.length_nil, true_and, and_true, ↓reduceIte, Nat.zero_le, Nat.reduceLeDiff, Nat.reduceAdd, e_10, e_01, e_00, e_11, Int32.reduceLE, Int32.reduceLT, Int32.reduceAdd, Int32.reduceSub, b01, if_true, if_false, ite_self, rc_82, gf_82_0, gf_82_1, gf_82_2, gf_82_3, gf_82_4, gf_82_5, gf_82_6, pf_82_6, gf_82_7, pf_82_7, gf_82_8, pf_82_8, gf_82_9, pf_82_9, gf_82_10, pf_82_10, gf_82_11, pf_82_11, gf_82_12, pf_82_12, gf_82_13, gf_82_14, gf_82_15, gf_82_16, pf_82_16, gf_82_17, gf_82_18, gf_82_19, gf_82_20, gf_82_21, gf_82_22, gf_82_23, gf_82_24, gf_82_25, pf_82_25, ga_83, wi_83, ga_84, wi_84, ga_85, wb_85, ga_86, wi_86, ga_87, wb_87, ga_88, wi_88, ga_89, wi_89, ga_90, wi_90, ga_91, wi_91, ga_92, wi_92, ga_93, wi_93, ga_94, wi_94, ga_95, wi_95, ga_96, wb_96, ga_97, wi_97, ga_98, wi_98, ga_99, wi_99, nl_add, nl_add', nl_mul, nI_add, in_t, cl_n, le_nn, lt_nn, le_ln, le_nl, lt_nl, lt_ln, eq_nn, eq_nl, in_lit, cl_lit, Nat.le_refl, Nat.add_zero, eb', ea', ec', h83u, show ¬ mI (M 83) = 10 by omega, e3, ua_s, app_25]
      · refine RR_c h (fun x h1 h2 => by rw [ua_n _ _ h2, up_n _ _ _ (by omega)]; exact f2 x (by omega)) rfl ?_ ?_ ?_
        · show K 0 9 = M 0 9
          rw [f2 0 (by decide)]
        · rw [ua_s]; exact app_wf hwf hf hxw ⟨hx1, hx2⟩ hyt ⟨hy1, hy2⟩
        · rw [ua_s]; exact RG_fa (fun k hk => by rw [ua_n _ _ (by omega), up_n _ _ _ (by omega)]) g2
      · have : nI 0 < nI (mI (M 83) + 1) := by rw [lt_nn (by omega) (by omega)]; omega
        exact this
      · intro x hx; rw [up_n _ _ _ (by omega)]; exact f2 x (by omega)
      · intro x hx; rw [ua_n _ _ hx]
      · show K 0 9 = M 0 9
        rw [f2 0 (by decide)]
      · rw [ua_s]
    · have e2 := @C_appendF X M 1 w t a b (mI (M 83)) (Or.inl rfl) (h.2.1.1.2.2.2.2.2.trans h25) (by omega) (by omega)
      have eb' := eb M
      have ea' := ea M
      have ec' := ec M
      rw [if_pos hc.1] at eb'
      rw [if_pos hc.2.1] at ea'
      rw [if_pos hc.2.2] at ec'
      refine ⟨-3, M, M, ?_, ?_, h, Or.inl ⟨by decide, rfl, rfl⟩⟩
      · simp (disch := omega) only [iX8_add_0, iX8_add_1, iX8_add_4, iX8_add_5, iX8_add_6, iX8_add_7, iX8_add_9, iX8_add_12, iX8_add_15, iX8_add_16, iX8_add_17, iX8_add_18, iX8_add_21, iX8_add_22, iX8_add_23, iX8_add_24, iX8_add_26, iX8_add_29, iX8_add_32, iX8_add_34, iX8_add_35, iX8_add_36, iX8_add_37, iX8_add_40, iX8_add_41, iX8_add_44, iX8_add_47, true_or, or_true, Option.bind_some, Option.bind_none, kk_hp, kn_hp, el_i, el_b, el_z, am_cat_nil, am_cat_i, am_cat_r, am_cat_l, am_cat_n, gd_i, gd_r, gd_n, gd_u, List.length_cons, List.length_nil, true_and, and_true, ↓reduceIte, Nat.zero_le, Nat.reduceLeDiff, Nat.reduceAdd, e_10, e_01, e_00, e_11, Int32.reduceLE, Int32.reduceLT, Int32.reduceAdd, Int32.reduceSub, b01, if_true, if_false, ite_self, rc_0, gf_0_0, gf_0_1, gf_0_2, gf_0_3, gf_0_4, gf_0_5, gf_0_6, gf_0_7, gf_0_8, pf_0_8, gf_0_9, pf_0_9, rc_1, gf_1_0, pf_1_0, gf_1_1, gf_1_2, gf_1_3, pf_1_3, gf_1_4, pf_1_4, gf_1_5, pf_1_5, gf_1_6, pf_1_6, gf_1_7, pf_1_7, gf_1_8, gf_1_9, nl_add, nl_add', nl_mul, nI_add, in_t, cl_n, le_nn, lt_nn, le_ln, le_nl, lt_nl, lt_ln, eq_nn, eq_nl, in_lit, cl_lit, Nat.le_refl, Nat.add_zero, e1, e2]
      · simp (disch := omega) only [iX9_add_0, iX9_add_1, iX9_add_2, iX9_add_3, iX9_add_6, iX9_add_9, iX9_add_10, iX9_add_13, iX9_add_16, iX9_add_18, iX9_add_21, iX9_add_24, iX9_add_25, iX9_add_26, iX9_add_27, iX9_add_30, iX9_add_32, iX9_add_33, iX9_add_35, iX9_add_38, iX9_add_40, iX9_add_41, iX9_add_42, iX9_add_43, iX9_add_44, iX9_add_45, iX9_add_47, iX9_add_50, iX9_add_51, iX9_add_54, iX9_add_56, iX9_add_57, true_or, or_true, Option.bind_some, Option.bind_none, kk_hp, kn_hp, el_i, el_b, el_z, am_cat_nil, am_cat_i, am_cat_r, am_cat_l, am_cat_n, gd_i, gd_r, gd_n, gd_u, List.length_cons, List.length_nil, true_and, and_true, ↓reduceIte, Nat.zero_le, Nat.reduceLeDiff, Nat.reduceAdd, e_10, e_01, e_00, e_11, Int32.reduceLE, Int32.reduceLT, Int32.reduceAdd, Int32.reduceSub, b01, if_true, if_false, ite_self, rc_82, gf_82_0, gf_82_1, gf_82_2, gf_82_3, gf_82_4, gf_82_5, gf_82_6, pf_82_6, gf_82_7, pf_82_7, gf_82_8, pf_82_8, gf_82_9, pf_82_9, gf_82_10, pf_82_10, gf_82_11, pf_82_11, gf_82_12, pf_82_12, gf_82_13, gf_82_14, gf_82_15, gf_82_16, pf_82_16, gf_82_17, gf_82_18, gf_82_19, gf_82_20, gf_82_21, gf_82_22, gf_82_23, gf_82_24, gf_82_25, pf_82_25, ga_83, wi_83, ga_84, wi_84, ga_85, wb_85, ga_86, wi_86, ga_87, wb_87, ga_88, wi_88, ga_89, wi_89, ga_90, wi_90, ga_91, wi_91, ga_92, wi_92, ga_93, wi_93, ga_94, wi_94, ga_95, wi_95, ga_96, wb_96, ga_97, wi_97, ga_98, wi_98, ga_99, wi_99, nl_add, nl_add', nl_mul, nI_add, in_t, cl_n, le_nn, lt_nn, le_ln, le_nl, lt_nl, lt_ln, eq_nn, eq_nl, in_lit, cl_lit, Nat.le_refl, Nat.add_zero, eb', ea', ec', h25, show mI (M 83) = 10 by omega, eq_self]
  · rw [if_neg hc] at e1
    have eb' := eb M
    have ea' := ea M
    have ec' := ec M
    refine ⟨-1, M, M, ?_, ?_, h, Or.inl ⟨by decide, rfl, rfl⟩⟩
    · simp (disch := omega) only [iX8_add_0, iX8_add_1, iX8_add_4, iX8_add_5, iX8_add_6, iX8_add_7, iX8_add_9, iX8_add_12, iX8_add_15, iX8_add_16, iX8_add_17, iX8_add_18, iX8_add_21, iX8_add_22, iX8_add_23, iX8_add_24, iX8_add_26, iX8_add_29, iX8_add_32, iX8_add_34, iX8_add_35, iX8_add_36, iX8_add_37, iX8_add_40, iX8_add_41, iX8_add_44, iX8_add_47, true_or, or_true, Option.bind_some, Option.bind_none, kk_hp, kn_hp, el_i, el_b, el_z, am_cat_nil, am_cat_i, am_cat_r, am_cat_l, am_cat_n, gd_i, gd_r, gd_n, gd_u, List.length_cons, List.length_nil, true_and, and_true, ↓reduceIte, Nat.zero_le, Nat.reduceLeDiff, Nat.reduceAdd, e_10, e_01, e_00, e_11, Int32.reduceLE, Int32.reduceLT, Int32.reduceAdd, Int32.reduceSub, b01, if_true, if_false, ite_self, rc_0, gf_0_0, gf_0_1, gf_0_2, gf_0_3, gf_0_4, gf_0_5, gf_0_6, gf_0_7, gf_0_8, pf_0_8, gf_0_9, pf_0_9, rc_1, gf_1_0, pf_1_0, gf_1_1, gf_1_2, gf_1_3, pf_1_3, gf_1_4, pf_1_4, gf_1_5, pf_1_5, gf_1_6, pf_1_6, gf_1_7, pf_1_7, gf_1_8, gf_1_9, nl_add, nl_add', nl_mul, nI_add, in_t, cl_n, le_nn, lt_nn, le_ln, le_nl, lt_nl, lt_ln, eq_nn, eq_nl, in_lit, cl_lit, Nat.le_refl, Nat.add_zero, e1]
    · by_cases h1 : (1 ≤ w ∧ w ≤ M 83 0) ∧ (1 ≤ t ∧ t ≤ 4)
      · rw [if_pos h1] at eb'
        by_cases h2 : 0 ≤ a ∧ a ≤ 99
        · rw [if_pos h2] at ea'
          rw [if_neg (fun z => hc ⟨h1, h2, z⟩)] at ec'
          simp (disch := omega) only [iX9_add_0, iX9_add_1, iX9_add_2, iX9_add_3, iX9_add_6, iX9_add_9, iX9_add_10, iX9_add_13, iX9_add_16, iX9_add_18, iX9_add_21, iX9_add_24, iX9_add_25, iX9_add_26, iX9_add_27, iX9_add_30, iX9_add_32, iX9_add_33, iX9_add_35, iX9_add_38, iX9_add_40, iX9_add_41, iX9_add_42, iX9_add_43, iX9_add_44, iX9_add_45, iX9_add_47, iX9_add_50, iX9_add_51, iX9_add_54, iX9_add_56, iX9_add_57, true_or, or_true, Option.bind_some, Option.bind_none, kk_hp, kn_hp, el_i, el_b, el_z, am_cat_nil, am_cat_i, am_cat_r, am_cat_l, am_cat_n, gd_i, gd_r, gd_n, gd_u, List.length_cons, List.length_nil, true_and, and_true, ↓reduceIte, Nat.zero_le, Nat.reduceLeDiff, Nat.reduceAdd, e_10, e_01, e_00, e_11, Int32.reduceLE, Int32.reduceLT, Int32.reduceAdd, Int32.reduceSub, b01, if_true, if_false, ite_self, rc_82, gf_82_0, gf_82_1, gf_82_2, gf_82_3, gf_82_4, gf_82_5, gf_82_6, pf_82_6, gf_82_7, pf_82_7, gf_82_8, pf_82_8, gf_82_9, pf_82_9, gf_82_10, pf_82_10, gf_82_11, pf_82_11, gf_82_12, pf_82_12, gf_82_13, gf_82_14, gf_82_15, gf_82_16, pf_82_16, gf_82_17, gf_82_18, gf_82_19, gf_82_20, gf_82_21, gf_82_22, gf_82_23, gf_82_24, gf_82_25, pf_82_25, ga_83, wi_83, ga_84, wi_84, ga_85, wb_85, ga_86, wi_86, ga_87, wb_87, ga_88, wi_88, ga_89, wi_89, ga_90, wi_90, ga_91, wi_91, ga_92, wi_92, ga_93, wi_93, ga_94, wi_94, ga_95, wi_95, ga_96, wb_96, ga_97, wi_97, ga_98, wi_98, ga_99, wi_99, nl_add, nl_add', nl_mul, nI_add, in_t, cl_n, le_nn, lt_nn, le_ln, le_nl, lt_nl, lt_ln, eq_nn, eq_nl, in_lit, cl_lit, Nat.le_refl, Nat.add_zero, eb', ea', ec']
        · rw [if_neg h2] at ea'
          simp (disch := omega) only [iX9_add_0, iX9_add_1, iX9_add_2, iX9_add_3, iX9_add_6, iX9_add_9, iX9_add_10, iX9_add_13, iX9_add_16, iX9_add_18, iX9_add_21, iX9_add_24, iX9_add_25, iX9_add_26, iX9_add_27, iX9_add_30, iX9_add_32, iX9_add_33, iX9_add_35, iX9_add_38, iX9_add_40, iX9_add_41, iX9_add_42, iX9_add_43, iX9_add_44, iX9_add_45, iX9_add_47, iX9_add_50, iX9_add_51, iX9_add_54, iX9_add_56, iX9_add_57, true_or, or_true, Option.bind_some, Option.bind_none, kk_hp, kn_hp, el_i, el_b, el_z, am_cat_nil, am_cat_i, am_cat_r, am_cat_l, am_cat_n, gd_i, gd_r, gd_n, gd_u, List.length_cons, List.length_nil, true_and, and_true, ↓reduceIte, Nat.zero_le, Nat.reduceLeDiff, Nat.reduceAdd, e_10, e_01, e_00, e_11, Int32.reduceLE, Int32.reduceLT, Int32.reduceAdd, Int32.reduceSub, b01, if_true, if_false, ite_self, rc_82, gf_82_0, gf_82_1, gf_82_2, gf_82_3, gf_82_4, gf_82_5, gf_82_6, pf_82_6, gf_82_7, pf_82_7, gf_82_8, pf_82_8, gf_82_9, pf_82_9, gf_82_10, pf_82_10, gf_82_11, pf_82_11, gf_82_12, pf_82_12, gf_82_13, gf_82_14, gf_82_15, gf_82_16, pf_82_16, gf_82_17, gf_82_18, gf_82_19, gf_82_20, gf_82_21, gf_82_22, gf_82_23, gf_82_24, gf_82_25, pf_82_25, ga_83, wi_83, ga_84, wi_84, ga_85, wb_85, ga_86, wi_86, ga_87, wb_87, ga_88, wi_88, ga_89, wi_89, ga_90, wi_90, ga_91, wi_91, ga_92, wi_92, ga_93, wi_93, ga_94, wi_94, ga_95, wi_95, ga_96, wb_96, ga_97, wi_97, ga_98, wi_98, ga_99, wi_99, nl_add, nl_add', nl_mul, nI_add, in_t, cl_n, le_nn, lt_nn, le_ln, le_nl, lt_nl, lt_ln, eq_nn, eq_nl, in_lit, cl_lit, Nat.le_refl, Nat.add_zero, eb', ea']
      · rw [if_neg h1] at eb'
        simp (disch := omega) only [iX9_add_0, iX9_add_1, iX9_add_2, iX9_add_3, iX9_add_6, iX9_add_9, iX9_add_10, iX9_add_13, iX9_add_16, iX9_add_18, iX9_add_21, iX9_add_24, iX9_add_25, iX9_add_26, iX9_add_27, iX9_add_30, iX9_add_32, iX9_add_33, iX9_add_35, iX9_add_38, iX9_add_40, iX9_add_41, iX9_add_42, iX9_add_43, iX9_add_44, iX9_add_45, iX9_add_47, iX9_add_50, iX9_add_51, iX9_add_54, iX9_add_56, iX9_add_57, true_or, or_true, Option.bind_some, Option.bind_none, kk_hp, kn_hp, el_i, el_b, el_z, am_cat_nil, am_cat_i, am_cat_r, am_cat_l, am_cat_n, gd_i, gd_r, gd_n, gd_u, List.length_cons, List.length_nil, true_and, and_true, ↓reduceIte, Nat.zero_le, Nat.reduceLeDiff, Nat.reduceAdd, e_10, e_01, e_00, e_11, Int32.reduceLE, Int32.reduceLT, Int32.reduceAdd, Int32.reduceSub, b01, if_true, if_false, ite_self, rc_82, gf_82_0, gf_82_1, gf_82_2, gf_82_3, gf_82_4, gf_82_5, gf_82_6, pf_82_6, gf_82_7, pf_82_7, gf_82_8, pf_82_8, gf_82_9, pf_82_9, gf_82_10, pf_82_10, gf_82_11, pf_82_11, gf_82_12, pf_82_12, gf_82_13, gf_82_14, gf_82_15, gf_82_16, pf_82_16, gf_82_17, gf_82_18, gf_82_19, gf_82_20, gf_82_21, gf_82_22, gf_82_23, gf_82_24, gf_82_25, pf_82_25, ga_83, wi_83, ga_84, wi_84, ga_85, wb_85, ga_86, wi_86, ga_87, wb_87, ga_88, wi_88, ga_89, wi_89, ga_90, wi_90, ga_91, wi_91, ga_92, wi_92, ga_93, wi_93, ga_94, wi_94, ga_95, wi_95, ga_96, wb_96, ga_97, wi_97, ga_98, wi_98, ga_99, wi_99, nl_add, nl_add', nl_mul, nI_add, in_t, cl_n, le_nn, lt_nn, le_ln, le_nl, lt_nl, lt_ln, eq_nn, eq_nl, in_lit, cl_lit, Nat.le_refl, Nat.add_zero, eb']
theorem S_add (h : RR M) (w t a b : Int32) : St X kX8_add [.ref 0, .int w, .int t, .int a, .int b] kX9_add [.ref 82, .int w, .int t, .int a, .int b] M := by
  obtain ⟨v, M1, M2, e1, e2, hR, -⟩ := @A_add X M h w t a b
  exact ⟨v, M1, M2, e1, e2, hR⟩
end S75
