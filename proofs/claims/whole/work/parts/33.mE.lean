/-! the reference places, ii -/
def hit (T : Nat → Int32) (n w t r c : Nat) : Bool := decide (c + w ≤ n ∧ r + t ≤ 12) && fre T c r w t
/-- the first hole, row by row -/
def hol (T : Nat → Int32) (n w t c0 kc : Nat) (r : Nat) : Nat → Option (Nat × Nat)
  | 0 => none
  | k + 1 => match fst (hit T n w t r) c0 kc with
    | some c => some (r, c)
    | none => hol T n w t c0 kc (r + 1) k
def holI : Option (Nat × Nat) → Int32
  | none => -4
  | some (r, c) => nI (100 * r + c)
/-- a row of the box filled: x cells from c on of row y -/
def fiR (T : Nat → Int32) (v : Int32) (c y : Nat) : Nat → Nat → Int32
  | 0 => T
  | x + 1 => upd (fiR T v c y x) (6 * y + (c + x)) v
def fiB (T : Nat → Int32) (v : Int32) (c r w : Nat) : Nat → Nat → Int32
  | 0 => T
  | y + 1 => fiR (fiB T v c r w y) v c (r + y) w
section S33
variable {X : am_X} {M : Nat → Nat → Int32}
theorem holeIn_i {c0 c1 r0 r1 w t n r : Nat} (hn : n ≤ 6) (h0 : M 83 0 = nI n) (hw : w ≤ 6) (ht : t ≤ 12) (hr : r ≤ 12) (hc1 : c1 ≤ 6) (k : Nat) : ∀ c, c + k = c1 + 1 → am_ev X kX9_holeIn 13 [.ref 82, .int (nI c0), .int (nI c1), .int (nI r0), .int (nI r1), .int (nI w), .int (nI t), .int (nI r), .int (nI c)] [] (hp M) = match fst (hit (M 89) n w t r) c k with
    | some c' => some (some (.int (nI (100 * r + c'))), hp M)
    | none => am_ev X kX9_holeIn 49 [.ref 82, .int (nI c0), .int (nI c1), .int (nI r0), .int (nI r1), .int (nI w), .int (nI t), .int (nI r), .int (nI (c + k))] [] (hp M) := by
  induction k with
  | zero =>
    intro c hc
    simp (disch := omega) only [iX9_holeIn_13, iX9_holeIn_15, iX9_holeIn_16, true_or, or_true, Option.bind_some, Option.bind_none, kk_hp, kn_hp, el_i, el_b, el_z, am_cat_nil, am_cat_i, am_cat_r, am_cat_l, am_cat_n, gd_i, gd_r, gd_n, gd_u, List.length_cons, List.length_nil, true_and, and_true, ↓reduceIte, Nat.zero_le, Nat.reduceLeDiff, Nat.reduceAdd, e_10, e_01, e_00, e_11, Int32.reduceLE, Int32.reduceLT, Int32.reduceAdd, Int32.reduceSub, b01, if_true, if_false, ite_self, nl_add, nl_add', nl_mul, nI_add, in_t, cl_n, le_nn, lt_nn, le_ln, le_nl, lt_nl, lt_ln, eq_nn, eq_nl, in_lit, cl_lit, Nat.le_refl, Nat.add_zero, show c1 < c by omega, fst]
  | succ k ih =>
    intro c hc
    have e := @M_isFree X M c r w t n hn h0 (by omega) hr hw ht
    conv => lhs; rw [iX9_holeIn_13]
    simp (disch := omega) only [iX9_holeIn_15, iX9_holeIn_16, iX9_holeIn_19, iX9_holeIn_20, iX9_holeIn_22, iX9_holeIn_24, iX9_holeIn_26, iX9_holeIn_28, iX9_holeIn_31, iX9_holeIn_34, iX9_holeIn_36, iX9_holeIn_38, iX9_holeIn_39, iX9_holeIn_41, iX9_holeIn_42, iX9_holeIn_43, iX9_holeIn_46, true_or, or_true, Option.bind_some, Option.bind_none, kk_hp, kn_hp, el_i, el_b, el_z, am_cat_nil, am_cat_i, am_cat_r, am_cat_l, am_cat_n, gd_i, gd_r, gd_n, gd_u, List.length_cons, List.length_nil, true_and, and_true, ↓reduceIte, Nat.zero_le, Nat.reduceLeDiff, Nat.reduceAdd, e_10, e_01, e_00, e_11, Int32.reduceLE, Int32.reduceLT, Int32.reduceAdd, Int32.reduceSub, b01, if_true, if_false, ite_self, rc_82, gf_82_0, gf_82_1, gf_82_2, gf_82_3, gf_82_4, gf_82_5, gf_82_6, pf_82_6, gf_82_7, pf_82_7, gf_82_8, pf_82_8, gf_82_9, pf_82_9, gf_82_10, pf_82_10, gf_82_11, pf_82_11, gf_82_12, pf_82_12, gf_82_13, gf_82_14, gf_82_15, gf_82_16, pf_82_16, gf_82_17, gf_82_18, gf_82_19, gf_82_20, gf_82_21, gf_82_22, gf_82_23, gf_82_24, gf_82_25, pf_82_25, ga_83, wi_83, ga_84, wi_84, ga_85, wb_85, ga_86, wi_86, ga_87, wb_87, ga_88, wi_88, ga_89, wi_89, ga_90, wi_90, ga_91, wi_91, ga_92, wi_92, ga_93, wi_93, ga_94, wi_94, ga_95, wi_95, ga_96, wb_96, ga_97, wi_97, ga_98, wi_98, ga_99, wi_99, nl_add, nl_add', nl_mul, nI_add, in_t, cl_n, le_nn, lt_nn, le_ln, le_nl, lt_nl, lt_ln, eq_nn, eq_nl, in_lit, cl_lit, Nat.le_refl, Nat.add_zero, show ¬ c1 < c by omega, e, bI_b, bI_z]
    rw [fst]
    unfold hit
    cases hb : (decide (c + w ≤ n ∧ r + t ≤ 12) && fre (M 89) c r w t) with
    | true => simp only [reduceCtorEq, if_true, if_false]
    | false =>
      simp only [reduceCtorEq, if_true, if_false]
      have e2 := ih (c + 1) (by omega)
      unfold hit at e2
      rw [e2, show c + 1 + k = c + (k + 1) by omega]
theorem holeIn_o {c0 c1 r0 r1 w t n kc : Nat} (hn : n ≤ 6) (h0 : M 83 0 = nI n) (hw : w ≤ 6) (ht : t ≤ 12) (hc1 : c1 ≤ 6) (hkc : c0 + kc = c1 + 1) (hr1 : r1 ≤ 11) (k : Nat) : ∀ r v8, r + k = r1 + 1 → am_ev X kX9_holeIn 3 [.ref 82, .int (nI c0), .int (nI c1), .int (nI r0), .int (nI r1), .int (nI w), .int (nI t), .int (nI r), v8] [] (hp M) = some (some (.int (holI (hol (M 89) n w t c0 kc r k))), hp M) := by
  induction k with
  | zero =>
    intro r v8 hr
    simp (disch := omega) only [iX9_holeIn_3, iX9_holeIn_5, iX9_holeIn_7, iX9_holeIn_55, iX9_holeIn_57, true_or, or_true, Option.bind_some, Option.bind_none, kk_hp, kn_hp, el_i, el_b, el_z, am_cat_nil, am_cat_i, am_cat_r, am_cat_l, am_cat_n, gd_i, gd_r, gd_n, gd_u, List.length_cons, List.length_nil, true_and, and_true, ↓reduceIte, Nat.zero_le, Nat.reduceLeDiff, Nat.reduceAdd, e_10, e_01, e_00, e_11, Int32.reduceLE, Int32.reduceLT, Int32.reduceAdd, Int32.reduceSub, b01, if_true, if_false, ite_self, nl_add, nl_add', nl_mul, nI_add, in_t, cl_n, le_nn, lt_nn, le_ln, le_nl, lt_nl, lt_ln, eq_nn, eq_nl, in_lit, cl_lit, Nat.le_refl, Nat.add_zero, show r1 < r by omega, hol, holI]
  | succ k ih =>
    intro r v8 hr
    have e := @holeIn_i X M c0 c1 r0 r1 w t n r hn h0 hw ht (by omega) hc1 kc c0 hkc
    conv => lhs; rw [iX9_holeIn_3]
    simp (disch := omega) only [iX9_holeIn_5, iX9_holeIn_7, iX9_holeIn_10, iX9_holeIn_11, true_or, or_true, Option.bind_some, Option.bind_none, kk_hp, kn_hp, el_i, el_b, el_z, am_cat_nil, am_cat_i, am_cat_r, am_cat_l, am_cat_n, gd_i, gd_r, gd_n, gd_u, List.length_cons, List.length_nil, true_and, and_true, ↓reduceIte, Nat.zero_le, Nat.reduceLeDiff, Nat.reduceAdd, e_10, e_01, e_00, e_11, Int32.reduceLE, Int32.reduceLT, Int32.reduceAdd, Int32.reduceSub, b01, if_true, if_false, ite_self, nl_add, nl_add', nl_mul, nI_add, in_t, cl_n, le_nn, lt_nn, le_ln, le_nl, lt_nl, lt_ln, eq_nn, eq_nl, in_lit, cl_lit, Nat.le_refl, Nat.add_zero, show ¬ r1 < r by omega]
    rw [e, hol]
    cases hf : fst (hit (M 89) n w t r) c0 kc with
    | some c => rfl
    | none =>
      simp (disch := omega) only [iX9_holeIn_49, iX9_holeIn_52, true_or, or_true, Option.bind_some, Option.bind_none, kk_hp, kn_hp, el_i, el_b, el_z, am_cat_nil, am_cat_i, am_cat_r, am_cat_l, am_cat_n, gd_i, gd_r, gd_n, gd_u, List.length_cons, List.length_nil, true_and, and_true, ↓reduceIte, Nat.zero_le, Nat.reduceLeDiff, Nat.reduceAdd, e_10, e_01, e_00, e_11, Int32.reduceLE, Int32.reduceLT, Int32.reduceAdd, Int32.reduceSub, b01, if_true, if_false, ite_self, nl_add, nl_add', nl_mul, nI_add, in_t, cl_n, le_nn, lt_nn, le_ln, le_nl, lt_nl, lt_ln, eq_nn, eq_nl, in_lit, cl_lit, Nat.le_refl, Nat.add_zero]
      exact ih (r + 1) _ (by omega)
theorem M_holeIn {c0 c1 r0 r1 w t n kc kr : Nat} (hn : n ≤ 6) (h0 : M 83 0 = nI n) (hw : w ≤ 6) (ht : t ≤ 12) (hc1 : c1 ≤ 6) (hkc : c0 + kc = c1 + 1) (hr1 : r1 ≤ 11) (hkr : r0 + kr = r1 + 1) : am_ev X kX9_holeIn 0 [.ref 82, .int (nI c0), .int (nI c1), .int (nI r0), .int (nI r1), .int (nI w), .int (nI t), am_u, am_u] [] (hp M) = some (some (.int (holI (hol (M 89) n w t c0 kc r0 kr))), hp M) := by
  simp (disch := omega) only [iX9_holeIn_0, iX9_holeIn_1, true_or, or_true, Option.bind_some, Option.bind_none, kk_hp, kn_hp, el_i, el_b, el_z, am_cat_nil, am_cat_i, am_cat_r, am_cat_l, am_cat_n, gd_i, gd_r, gd_n, gd_u, List.length_cons, List.length_nil, true_and, and_true, ↓reduceIte, Nat.zero_le, Nat.reduceLeDiff, Nat.reduceAdd, e_10, e_01, e_00, e_11, Int32.reduceLE, Int32.reduceLT, Int32.reduceAdd, Int32.reduceSub, b01, if_true, if_false, ite_self, nl_add, nl_add', nl_mul, nI_add, in_t, cl_n, le_nn, lt_nn, le_ln, le_nl, lt_nl, lt_ln, eq_nn, eq_nl, in_lit, cl_lit, Nat.le_refl, Nat.add_zero]
  exact holeIn_o hn h0 hw ht hc1 hkc hr1 kr r0 _ hkr
theorem stands_i {i c r w t y : Nat} (hc : c + w ≤ 6) (hy : y < 12) {T : Nat → Int32} (x : Nat) (hx : x ≤ w) : am_ev X kX9_stands 15 [.ref 82, .int (nI i), .int (nI c), .int (nI r), .int (nI w), .int (nI t), .int (nI y), .int (nI c)] [] (hp (ua M 89 T)) = am_ev X kX9_stands 15 [.ref 82, .int (nI i), .int (nI c), .int (nI r), .int (nI w), .int (nI t), .int (nI y), .int (nI (c + x))] [] (hp (ua M 89 (fiR T (nI i) c y x))) := by
  have e := chain (fun j => am_ev X kX9_stands 15 [.ref 82, .int (nI i), .int (nI c), .int (nI r), .int (nI w), .int (nI t), .int (nI y), .int (nI (c + j))] [] (hp (ua M 89 (fiR T (nI i) c y j)))) (0) (x) (by omega) (fun j hj0 hj => by
    have hj1 : ¬ (x) ≤ j := by omega
    conv => lhs; rw [iX9_stands_15]
    simp (disch := omega) only [iX9_stands_17, iX9_stands_18, iX9_stands_20, iX9_stands_21, iX9_stands_24, iX9_stands_25, iX9_stands_28, iX9_stands_30, iX9_stands_32, iX9_stands_33, iX9_stands_35, iX9_stands_36, iX9_stands_37, iX9_stands_38, iX9_stands_41, iX9_stands_44, iX9_stands_47, iX9_stands_50, iX9_stands_51, iX9_stands_54, iX9_stands_55, iX9_stands_56, iX9_stands_57, iX9_stands_58, iX9_stands_61, iX9_stands_62, iX9_stands_63, iX9_stands_64, iX9_stands_65, iX9_stands_66, iX9_stands_68, iX9_stands_69, iX9_stands_70, iX9_stands_73, iX9_stands_76, iX9_stands_77, iX9_stands_79, iX9_stands_80, iX9_stands_83, iX9_stands_84, iX9_stands_87, iX9_stands_90, true_or, or_true, Option.bind_some, Option.bind_none, kk_hp, kn_hp, el_i, el_b, el_z, am_cat_nil, am_cat_i, am_cat_r, am_cat_l, am_cat_n, gd_i, gd_r, gd_n, gd_u, List.length_cons, List.length_nil, true_and, and_true, ↓reduceIte, Nat.zero_le, Nat.reduceLeDiff, Nat.reduceAdd, e_10, e_01, e_00, e_11, Int32.reduceLE, Int32.reduceLT, Int32.reduceAdd, Int32.reduceSub, b01, if_true, if_false, ite_self, rc_82, gf_82_0, gf_82_1, gf_82_2, gf_82_3, gf_82_4, gf_82_5, gf_82_6, pf_82_6, gf_82_7, pf_82_7, gf_82_8, pf_82_8, gf_82_9, pf_82_9, gf_82_10, pf_82_10, gf_82_11, pf_82_11, gf_82_12, pf_82_12, gf_82_13, gf_82_14, gf_82_15, gf_82_16, pf_82_16, gf_82_17, gf_82_18, gf_82_19, gf_82_20, gf_82_21, gf_82_22, gf_82_23, gf_82_24, gf_82_25, pf_82_25, ga_83, wi_83, ga_84, wi_84, ga_85, wb_85, ga_86, wi_86, ga_87, wb_87, ga_88, wi_88, ga_89, wi_89, ga_90, wi_90, ga_91, wi_91, ga_92, wi_92, ga_93, wi_93, ga_94, wi_94, ga_95, wi_95, ga_96, wb_96, ga_97, wi_97, ga_98, wi_98, ga_99, wi_99, nl_add, nl_add', nl_mul, nI_add, in_t, cl_n, le_nn, lt_nn, le_ln, le_nl, lt_nl, lt_ln, eq_nn, eq_nl, in_lit, cl_lit, Nat.le_refl, Nat.add_zero, hj1, up_of, fiR, ← Nat.add_assoc, show ¬ c + w ≤ c + j by omega])
  simpa only [Nat.add_zero, fiR] using e
theorem stands_o {i c r w t : Nat} (hc : c + w ≤ 6) (hr : r + t ≤ 12) (k : Nat) : ∀ y v7 T, y + k = t → ∃ v7', am_ev X kX9_stands 3 [.ref 82, .int (nI i), .int (nI c), .int (nI r), .int (nI w), .int (nI t), .int (nI (r + y)), v7] [] (hp (ua M 89 (fiB T (nI i) c r w y))) = am_ev X kX9_stands 50 [.ref 82, .int (nI i), .int (nI c), .int (nI r), .int (nI w), .int (nI t), .int (nI (r + t)), v7'] [] (hp (ua M 89 (fiB T (nI i) c r w t))) := by
  induction k with
  | zero =>
    intro y v7 T hy
    obtain rfl : y = t := by omega
    refine ⟨v7, ?_⟩
    simp (disch := omega) only [iX9_stands_3, iX9_stands_5, iX9_stands_6, iX9_stands_8, iX9_stands_9, true_or, or_true, Option.bind_some, Option.bind_none, kk_hp, kn_hp, el_i, el_b, el_z, am_cat_nil, am_cat_i, am_cat_r, am_cat_l, am_cat_n, gd_i, gd_r, gd_n, gd_u, List.length_cons, List.length_nil, true_and, and_true, ↓reduceIte, Nat.zero_le, Nat.reduceLeDiff, Nat.reduceAdd, e_10, e_01, e_00, e_11, Int32.reduceLE, Int32.reduceLT, Int32.reduceAdd, Int32.reduceSub, b01, if_true, if_false, ite_self, nl_add, nl_add', nl_mul, nI_add, in_t, cl_n, le_nn, lt_nn, le_ln, le_nl, lt_nl, lt_ln, eq_nn, eq_nl, in_lit, cl_lit, Nat.le_refl, Nat.add_zero]
  | succ k ih =>
    intro y v7 T hy
    obtain ⟨v7', e⟩ := ih (y + 1) (.int (nI (c + w))) T (by omega)
    refine ⟨v7', ?_⟩
    rw [← e]
    conv => lhs; rw [iX9_stands_3]
    simp (disch := omega) only [iX9_stands_5, iX9_stands_6, iX9_stands_8, iX9_stands_9, iX9_stands_12, iX9_stands_13, true_or, or_true, Option.bind_some, Option.bind_none, kk_hp, kn_hp, el_i, el_b, el_z, am_cat_nil, am_cat_i, am_cat_r, am_cat_l, am_cat_n, gd_i, gd_r, gd_n, gd_u, List.length_cons, List.length_nil, true_and, and_true, ↓reduceIte, Nat.zero_le, Nat.reduceLeDiff, Nat.reduceAdd, e_10, e_01, e_00, e_11, Int32.reduceLE, Int32.reduceLT, Int32.reduceAdd, Int32.reduceSub, b01, if_true, if_false, ite_self, nl_add, nl_add', nl_mul, nI_add, in_t, cl_n, le_nn, lt_nn, le_ln, le_nl, lt_nl, lt_ln, eq_nn, eq_nl, in_lit, cl_lit, Nat.le_refl, Nat.add_zero, show ¬ r + t ≤ r + y by omega]
    rw [stands_i hc (by omega) w (Nat.le_refl w)]
    simp (disch := omega) only [iX9_stands_15, iX9_stands_17, iX9_stands_18, iX9_stands_20, iX9_stands_21, iX9_stands_44, iX9_stands_47, true_or, or_true, Option.bind_some, Option.bind_none, kk_hp, kn_hp, el_i, el_b, el_z, am_cat_nil, am_cat_i, am_cat_r, am_cat_l, am_cat_n, gd_i, gd_r, gd_n, gd_u, List.length_cons, List.length_nil, true_and, and_true, ↓reduceIte, Nat.zero_le, Nat.reduceLeDiff, Nat.reduceAdd, e_10, e_01, e_00, e_11, Int32.reduceLE, Int32.reduceLT, Int32.reduceAdd, Int32.reduceSub, b01, if_true, if_false, ite_self, nl_add, nl_add', nl_mul, nI_add, in_t, cl_n, le_nn, lt_nn, le_ln, le_nl, lt_nl, lt_ln, eq_nn, eq_nl, in_lit, cl_lit, Nat.le_refl, Nat.add_zero, fiB, ← Nat.add_assoc]
theorem M_stands {i c r w t : Nat} (hi : i < 10) (hc : c + w ≤ 6) (hr : r + t ≤ 12) : am_ev X kX9_stands 0 [.ref 82, .int (nI i), .int (nI c), .int (nI r), .int (nI w), .int (nI t), am_u, am_u] [] (hp M) = some (none, hp (up (up (up (ua M 89 (fiB (M 89) (nI i) c r w t)) 90 i (nI c)) 91 i (nI r)) 82 16 (if nI (r + t) ≤ M 82 16 then M 82 16 else nI (r + t)))) := by
  obtain ⟨v7', e⟩ := @stands_o X M i c r w t hc hr t 0 am_u (M 89) (by omega)
  simp only [fiB, ua_self, Nat.add_zero] at e
  simp (disch := omega) only [iX9_stands_0, iX9_stands_1, true_or, or_true, Option.bind_some, Option.bind_none, kk_hp, kn_hp, el_i, el_b, el_z, am_cat_nil, am_cat_i, am_cat_r, am_cat_l, am_cat_n, gd_i, gd_r, gd_n, gd_u, List.length_cons, List.length_nil, true_and, and_true, ↓reduceIte, Nat.zero_le, Nat.reduceLeDiff, Nat.reduceAdd, e_10, e_01, e_00, e_11, Int32.reduceLE, Int32.reduceLT, Int32.reduceAdd, Int32.reduceSub, b01, if_true, if_false, ite_self, nl_add, nl_add', nl_mul, nI_add, in_t, cl_n, le_nn, lt_nn, le_ln, le_nl, lt_nl, lt_ln, eq_nn, eq_nl, in_lit, cl_lit, Nat.le_refl, Nat.add_zero]
  rw [e]
  simp (disch := omega) only [iX9_stands_50, iX9_stands_51, iX9_stands_54, iX9_stands_55, iX9_stands_56, iX9_stands_57, iX9_stands_58, iX9_stands_61, iX9_stands_62, iX9_stands_63, iX9_stands_64, iX9_stands_65, iX9_stands_66, iX9_stands_68, iX9_stands_69, iX9_stands_70, iX9_stands_73, iX9_stands_76, iX9_stands_77, iX9_stands_79, iX9_stands_80, iX9_stands_83, iX9_stands_84, iX9_stands_87, iX9_stands_90, true_or, or_true, Option.bind_some, Option.bind_none, kk_hp, kn_hp, el_i, el_b, el_z, am_cat_nil, am_cat_i, am_cat_r, am_cat_l, am_cat_n, gd_i, gd_r, gd_n, gd_u, List.length_cons, List.length_nil, true_and, and_true, ↓reduceIte, Nat.zero_le, Nat.reduceLeDiff, Nat.reduceAdd, e_10, e_01, e_00, e_11, Int32.reduceLE, Int32.reduceLT, Int32.reduceAdd, Int32.reduceSub, b01, if_true, if_false, ite_self, rc_82, gf_82_0, gf_82_1, gf_82_2, gf_82_3, gf_82_4, gf_82_5, gf_82_6, pf_82_6, gf_82_7, pf_82_7, gf_82_8, pf_82_8, gf_82_9, pf_82_9, gf_82_10, pf_82_10, gf_82_11, pf_82_11, gf_82_12, pf_82_12, gf_82_13, gf_82_14, gf_82_15, gf_82_16, pf_82_16, gf_82_17, gf_82_18, gf_82_19, gf_82_20, gf_82_21, gf_82_22, gf_82_23, gf_82_24, gf_82_25, pf_82_25, ga_83, wi_83, ga_84, wi_84, ga_85, wb_85, ga_86, wi_86, ga_87, wb_87, ga_88, wi_88, ga_89, wi_89, ga_90, wi_90, ga_91, wi_91, ga_92, wi_92, ga_93, wi_93, ga_94, wi_94, ga_95, wi_95, ga_96, wb_96, ga_97, wi_97, ga_98, wi_98, ga_99, wi_99, nl_add, nl_add', nl_mul, nI_add, in_t, cl_n, le_nn, lt_nn, le_ln, le_nl, lt_nl, lt_ln, eq_nn, eq_nl, in_lit, cl_lit, Nat.le_refl, Nat.add_zero, ua_s, ua_n, up_s, up_n, pk_us, pk_un]
  split <;> rfl
end S33
