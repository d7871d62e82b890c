/-! questions, vi: the hole -/
section S73
variable {X : am_X} {M : Nat → Nat → Int32}
theorem C_isItemSize {g : Nat} {w t : Int32} (hg : isG g) : am_ev X kX1_isItemSize 0 [.ref g, .int w, .int t] [] (hp M) = some (some (.int (if (1 ≤ w ∧ w ≤ M g 0) ∧ (1 ≤ t ∧ t ≤ 4) then 1 else 0)), hp M) := by
  have e1 := @C_isBetween X M w 1 (M g 0)
  have e2 := @C_isBetween X M t 1 4
  by_cases h1 : 1 ≤ w ∧ w ≤ M g 0
  · rw [if_pos h1] at e1
    by_cases h2 : 1 ≤ t ∧ t ≤ 4
    · rw [if_pos h2] at e2
      rw [if_pos ⟨h1, h2⟩]
      simp (disch := omega) only [iX1_isItemSize_0, iX1_isItemSize_1, iX1_isItemSize_2, iX1_isItemSize_3, iX1_isItemSize_6, iX1_isItemSize_9, iX1_isItemSize_12, iX1_isItemSize_13, iX1_isItemSize_14, iX1_isItemSize_15, iX1_isItemSize_18, iX1_isItemSize_21, iX1_isItemSize_22, iX1_isItemSize_25, iX1_isItemSize_26, true_or, or_true, Option.bind_some, Option.bind_none, kk_hp, kn_hp, el_i, el_b, el_z, am_cat_nil, am_cat_i, am_cat_r, am_cat_l, am_cat_n, gd_i, gd_r, gd_n, gd_u, List.length_cons, List.length_nil, true_and, and_true, ↓reduceIte, Nat.zero_le, Nat.reduceLeDiff, Nat.reduceAdd, e_10, e_01, e_00, e_11, Int32.reduceLE, Int32.reduceLT, Int32.reduceAdd, Int32.reduceSub, b01, if_true, if_false, ite_self, gG0 hg, e1, e2]
    · rw [if_neg h2] at e2
      rw [if_neg (fun z => h2 z.2)]
      simp (disch := omega) only [iX1_isItemSize_0, iX1_isItemSize_1, iX1_isItemSize_2, iX1_isItemSize_3, iX1_isItemSize_6, iX1_isItemSize_9, iX1_isItemSize_12, iX1_isItemSize_13, iX1_isItemSize_14, iX1_isItemSize_15, iX1_isItemSize_18, iX1_isItemSize_21, iX1_isItemSize_22, iX1_isItemSize_25, iX1_isItemSize_26, true_or, or_true, Option.bind_some, Option.bind_none, kk_hp, kn_hp, el_i, el_b, el_z, am_cat_nil, am_cat_i, am_cat_r, am_cat_l, am_cat_n, gd_i, gd_r, gd_n, gd_u, List.length_cons, List.length_nil, true_and, and_true, ↓reduceIte, Nat.zero_le, Nat.reduceLeDiff, Nat.reduceAdd, e_10, e_01, e_00, e_11, Int32.reduceLE, Int32.reduceLT, Int32.reduceAdd, Int32.reduceSub, b01, if_true, if_false, ite_self, gG0 hg, e1, e2]
  · rw [if_neg h1] at e1
    rw [if_neg (fun z => h1 z.1)]
    simp (disch := omega) only [iX1_isItemSize_0, iX1_isItemSize_1, iX1_isItemSize_2, iX1_isItemSize_3, iX1_isItemSize_6, iX1_isItemSize_9, iX1_isItemSize_12, iX1_isItemSize_13, iX1_isItemSize_14, iX1_isItemSize_15, iX1_isItemSize_18, iX1_isItemSize_21, iX1_isItemSize_22, iX1_isItemSize_25, iX1_isItemSize_26, true_or, or_true, Option.bind_some, Option.bind_none, kk_hp, kn_hp, el_i, el_b, el_z, am_cat_nil, am_cat_i, am_cat_r, am_cat_l, am_cat_n, gd_i, gd_r, gd_n, gd_u, List.length_cons, List.length_nil, true_and, and_true, ↓reduceIte, Nat.zero_le, Nat.reduceLeDiff, Nat.reduceAdd, e_10, e_01, e_00, e_11, Int32.reduceLE, Int32.reduceLT, Int32.reduceAdd, Int32.reduceSub, b01, if_true, if_false, ite_self, gG0 hg, e1]
/-- a row with one item alone -/
def s1 (n w t : Nat) : Nat → Int32 := fun j => if j = 0 then nI n else if j = 26 then nI w else if j = 27 then nI t else -4
theorem S_hole (h : RR M) (w t : Int32) : St X kX8_hole [.ref 0, .int w, .int t] kX9_hole [.ref 82, .int w, .int t] M := by
  have hwf := h.1
  have hn := hwf.1.2
  have q0 : M 1 0 = nI (nC (M 83)) := h.2.1.1.1.trans hwf.1.1
  have eb := @C_isItemSize X M 1 w t (Or.inl rfl)
  have em := fun K : Nat → Nat → Int32 => @M_isBox X K w t
  by_cases hbx : (1 ≤ w ∧ w ≤ nI (nC (M 83))) ∧ (1 ≤ t ∧ t ≤ 4)
  · rw [q0, if_pos hbx] at eb
    obtain ⟨a, a1, a2, rfl⟩ := (btw1 (by omega)).mp hbx.1
    obtain ⟨b, b1, b2, rfl⟩ := (btw1 (n := 4) (by omega)).mp hbx.2
    obtain ⟨M1, e1, fA, z, hD⟩ := @C_arrange X M (M 83) h.1 h.2.1 h.2.2.1
    have h83 : M1 83 = M 83 := fA.1 83 (by decide) (by decide)
    have q0' : M1 1 0 = nI (nC (M 83)) := by rw [fA.1 1 (by decide) (by decide)]; exact q0
    obtain ⟨M2, e2, f2, g2⟩ := @M_place X M1 (by rw [h83]; exact hwf)
    have fF : frF M1 M2 := ⟨fun x i1 i2 => f2.1 x i1 (by omega) (by omega) (by omega), f2.2⟩
    have hPE : PE (M1 83) (Sq (M1 83) 3 0) (plc (M1 83) (P0 M1)) (PS (M1 83)) := PE_plc (by rw [h83]; exact hwf) (fun k hk => by unfold P0; dsimp only; rw [fil_in hk]) rfl
    rw [← g2, h83] at hPE
    have hT : ∀ k, k < 72 → M2 89 k = (PS (M 83)).1 k := hPE.1
    have k83 : M2 83 = M 83 := (fF.1 83 (by decide) (by decide)).trans h83
    have k0 : M2 83 0 = nI (nC (M 83)) := by rw [k83]; exact hwf.1.1
    have em1 := em M1
    rw [h83, hwf.1.1, if_pos hbx] at em1
    have x := @C_firstHole X M1 (s1 (nC (M 83)) a b) 0 (nC (M 83)) ⟨⟨by
        unfold wI
        show nI a = nI (nI a).toNatClampNeg
        rw [nI_clamp (by omega)], by
        show 1 ≤ (nI a).toNatClampNeg
        rw [nI_clamp (by omega)]; exact a1, by
        show (nI a).toNatClampNeg ≤ (nI (nC (M 83))).toNatClampNeg
        rw [nI_clamp (by omega), nI_clamp (by omega)]; exact a2⟩, ⟨by
        unfold tI
        show nI b = nI (nI b).toNatClampNeg
        rw [nI_clamp (by omega)], by
        show 1 ≤ (nI b).toNatClampNeg
        rw [nI_clamp (by omega)]; exact b1, by
        show (nI b).toNatClampNeg ≤ 4
        rw [nI_clamp (by omega)]; exact b2⟩, Or.inl rfl, Or.inl rfl⟩ (by
        show (nI (nC (M 83))).toNatClampNeg ≤ 6
        rw [nI_clamp (by omega)]; exact hn) (PS (M 83)).1 hD.1.2.1 (by
        show _ = (nI (nC (M 83))).toNatClampNeg
        rw [nI_clamp (by omega)])
    have ew : wI (s1 (nC (M 83)) a b) 0 = a := by show (nI a).toNatClampNeg = a; rw [nI_clamp (by omega)]
    have et : tI (s1 (nC (M 83)) a b) 0 = b := by show (nI b).toNatClampNeg = b; rw [nI_clamp (by omega)]
    have en : nC (s1 (nC (M 83)) a b) = nC (M 83) := by show (nI (nC (M 83))).toNatClampNeg = _; rw [nI_clamp (by omega)]
    have eh : hoI (s1 (nC (M 83)) a b) (PS (M 83)).1 0 = hol (PS (M 83)).1 (nC (M 83)) a b 0 6 0 12 := by
      unfold hoI
      rw [ew, et, en]
      rfl
    rw [ew, et, eh, show s1 (nC (M 83)) a b (26 + 6 * 0 + 4) = -4 from rfl, show s1 (nC (M 83)) a b (26 + 6 * 0 + 5) = -4 from rfl] at x
    have y := @M_holeIn X M2 0 5 0 11 a b (nC (M 83)) 6 12 hn k0 (by omega) (by omega) (by omega) rfl (by omega) rfl
    have eq : hol (M2 89) (nC (M 83)) a b 0 6 0 12 = hol (PS (M 83)).1 (nC (M 83)) a b 0 6 0 12 := by
      rw [hol_G, hol_G]
      exact holG_ext (fun y j _ _ => hit_ext hn hT)
    rw [eq] at y
    simp only [show nI 0 = (0 : Int32) from rfl, show nI 5 = (5 : Int32) from rfl, show nI 11 = (11 : Int32) from rfl] at y
    refine ⟨holI (hol (PS (M 83)).1 (nC (M 83)) a b 0 6 0 12), M1, M2, ?_, ?_, RR_q h fA z hD fF⟩
    · simp (disch := omega) only [iX8_hole_0, iX8_hole_1, iX8_hole_4, iX8_hole_5, iX8_hole_6, iX8_hole_9, iX8_hole_12, iX8_hole_13, iX8_hole_14, iX8_hole_15, iX8_hole_18, iX8_hole_19, iX8_hole_22, iX8_hole_23, iX8_hole_26, iX8_hole_29, iX8_hole_30, iX8_hole_31, iX8_hole_33, iX8_hole_35, iX8_hole_38, true_or, or_true, Option.bind_some, Option.bind_none, kk_hp, kn_hp, el_i, el_b, el_z, am_cat_nil, am_cat_i, am_cat_r, am_cat_l, am_cat_n, gd_i, gd_r, gd_n, gd_u, List.length_cons, List.length_nil, true_and, and_true, ↓reduceIte, Nat.zero_le, Nat.reduceLeDiff, Nat.reduceAdd, e_10, e_01, e_00, e_11, Int32.reduceLE, Int32.reduceLT, Int32.reduceAdd, Int32.reduceSub, b01, if_true, if_false, ite_self, rc_0, gf_0_0, gf_0_1, gf_0_2, gf_0_3, gf_0_4, gf_0_5, gf_0_6, gf_0_7, gf_0_8, pf_0_8, gf_0_9, pf_0_9, rc_1, gf_1_0, pf_1_0, gf_1_1, gf_1_2, gf_1_3, pf_1_3, gf_1_4, pf_1_4, gf_1_5, pf_1_5, gf_1_6, pf_1_6, gf_1_7, pf_1_7, gf_1_8, gf_1_9, rc_60, gf_60_0, gf_60_1, gf_60_2, gf_60_3, pf_60_3, gf_60_4, pf_60_4, gf_60_5, pf_60_5, nl_add, nl_add', nl_mul, nI_add, in_t, cl_n, le_nn, lt_nn, le_ln, le_nl, lt_nl, lt_ln, eq_nn, eq_nl, in_lit, cl_lit, Nat.le_refl, Nat.add_zero, eb, e1, q0', x]
    · simp (disch := omega) only [iX9_hole_0, iX9_hole_1, iX9_hole_2, iX9_hole_3, iX9_hole_6, iX9_hole_9, iX9_hole_10, iX9_hole_11, iX9_hole_12, iX9_hole_15, iX9_hole_16, iX9_hole_17, iX9_hole_18, iX9_hole_19, iX9_hole_21, iX9_hole_22, iX9_hole_23, iX9_hole_26, true_or, or_true, Option.bind_some, Option.bind_none, kk_hp, kn_hp, el_i, el_b, el_z, am_cat_nil, am_cat_i, am_cat_r, am_cat_l, am_cat_n, gd_i, gd_r, gd_n, gd_u, List.length_cons, List.length_nil, true_and, and_true, ↓reduceIte, Nat.zero_le, Nat.reduceLeDiff, Nat.reduceAdd, e_10, e_01, e_00, e_11, Int32.reduceLE, Int32.reduceLT, Int32.reduceAdd, Int32.reduceSub, b01, if_true, if_false, ite_self, rc_82, gf_82_0, gf_82_1, gf_82_2, gf_82_3, gf_82_4, gf_82_5, gf_82_6, pf_82_6, gf_82_7, pf_82_7, gf_82_8, pf_82_8, gf_82_9, pf_82_9, gf_82_10, pf_82_10, gf_82_11, pf_82_11, gf_82_12, pf_82_12, gf_82_13, gf_82_14, gf_82_15, gf_82_16, pf_82_16, gf_82_17, gf_82_18, gf_82_19, gf_82_20, gf_82_21, gf_82_22, gf_82_23, gf_82_24, gf_82_25, pf_82_25, ga_83, wi_83, ga_84, wi_84, ga_85, wb_85, ga_86, wi_86, ga_87, wb_87, ga_88, wi_88, ga_89, wi_89, ga_90, wi_90, ga_91, wi_91, ga_92, wi_92, ga_93, wi_93, ga_94, wi_94, ga_95, wi_95, ga_96, wb_96, ga_97, wi_97, ga_98, wi_98, ga_99, wi_99, nl_add, nl_add', nl_mul, nI_add, in_t, cl_n, le_nn, lt_nn, le_ln, le_nl, lt_nl, lt_ln, eq_nn, eq_nl, in_lit, cl_lit, Nat.le_refl, Nat.add_zero, em1, e2, y]
  · rw [q0, if_neg hbx] at eb
    have em1 := em M
    rw [hwf.1.1, if_neg hbx] at em1
    refine ⟨-1, M, M, ?_, ?_, h⟩
    · simp (disch := omega) only [iX8_hole_0, iX8_hole_1, iX8_hole_4, iX8_hole_5, iX8_hole_6, iX8_hole_9, iX8_hole_12, iX8_hole_13, iX8_hole_14, iX8_hole_15, iX8_hole_18, iX8_hole_19, iX8_hole_22, iX8_hole_23, iX8_hole_26, iX8_hole_29, iX8_hole_30, iX8_hole_31, iX8_hole_33, iX8_hole_35, iX8_hole_38, true_or, or_true, Option.bind_some, Option.bind_none, kk_hp, kn_hp, el_i, el_b, el_z, am_cat_nil, am_cat_i, am_cat_r, am_cat_l, am_cat_n, gd_i, gd_r, gd_n, gd_u, List.length_cons, List.length_nil, true_and, and_true, ↓reduceIte, Nat.zero_le, Nat.reduceLeDiff, Nat.reduceAdd, e_10, e_01, e_00, e_11, Int32.reduceLE, Int32.reduceLT, Int32.reduceAdd, Int32.reduceSub, b01, if_true, if_false, ite_self, rc_0, gf_0_0, gf_0_1, gf_0_2, gf_0_3, gf_0_4, gf_0_5, gf_0_6, gf_0_7, gf_0_8, pf_0_8, gf_0_9, pf_0_9, rc_1, gf_1_0, pf_1_0, gf_1_1, gf_1_2, gf_1_3, pf_1_3, gf_1_4, pf_1_4, gf_1_5, pf_1_5, gf_1_6, pf_1_6, gf_1_7, pf_1_7, gf_1_8, gf_1_9, rc_60, gf_60_0, gf_60_1, gf_60_2, gf_60_3, pf_60_3, gf_60_4, pf_60_4, gf_60_5, pf_60_5, nl_add, nl_add', nl_mul, nI_add, in_t, cl_n, le_nn, lt_nn, le_ln, le_nl, lt_nl, lt_ln, eq_nn, eq_nl, in_lit, cl_lit, Nat.le_refl, Nat.add_zero, eb]
    · simp (disch := omega) only [iX9_hole_0, iX9_hole_1, iX9_hole_2, iX9_hole_3, iX9_hole_6, iX9_hole_9, iX9_hole_10, iX9_hole_11, iX9_hole_12, iX9_hole_15, iX9_hole_16, iX9_hole_17, iX9_hole_18, iX9_hole_19, iX9_hole_21, iX9_hole_22, iX9_hole_23, iX9_hole_26, true_or, or_true, Option.bind_some, Option.bind_none, kk_hp, kn_hp, el_i, el_b, el_z, am_cat_nil, am_cat_i, am_cat_r, am_cat_l, am_cat_n, gd_i, gd_r, gd_n, gd_u, List.length_cons, List.length_nil, true_and, and_true, ↓reduceIte, Nat.zero_le, Nat.reduceLeDiff, Nat.reduceAdd, e_10, e_01, e_00, e_11, Int32.reduceLE, Int32.reduceLT, Int32.reduceAdd, Int32.reduceSub, b01, if_true, if_false, ite_self, rc_82, gf_82_0, gf_82_1, gf_82_2, gf_82_3, gf_82_4, gf_82_5, gf_82_6, pf_82_6, gf_82_7, pf_82_7, gf_82_8, pf_82_8, gf_82_9, pf_82_9, gf_82_10, pf_82_10, gf_82_11, pf_82_11, gf_82_12, pf_82_12, gf_82_13, gf_82_14, gf_82_15, gf_82_16, pf_82_16, gf_82_17, gf_82_18, gf_82_19, gf_82_20, gf_82_21, gf_82_22, gf_82_23, gf_82_24, gf_82_25, pf_82_25, ga_83, wi_83, ga_84, wi_84, ga_85, wb_85, ga_86, wi_86, ga_87, wb_87, ga_88, wi_88, ga_89, wi_89, ga_90, wi_90, ga_91, wi_91, ga_92, wi_92, ga_93, wi_93, ga_94, wi_94, ga_95, wi_95, ga_96, wb_96, ga_97, wi_97, ga_98, wi_98, ga_99, wi_99, nl_add, nl_add', nl_mul, nI_add, in_t, cl_n, le_nn, lt_nn, le_ln, le_nl, lt_nl, lt_ln, eq_nn, eq_nl, in_lit, cl_lit, Nat.le_refl, Nat.add_zero, em1]
end S73
