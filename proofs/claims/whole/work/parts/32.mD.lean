/-! the reference places -/
def bI (b : Bool) : Int32 := if b = true then 1 else 0
/-- all of p a .. p (a + k - 1) -/
def alF (p : Nat → Bool) (a : Nat) : Nat → Bool
  | 0 => true
  | k + 1 => p a && alF p (a + 1) k
theorem alF_iff {p : Nat → Bool} {a k : Nat} : alF p a k = true ↔ ∀ j, j < k → p (a + j) = true := by
  induction k generalizing a with
  | zero => simp [alF]
  | succ k ih =>
    rw [alF, Bool.and_eq_true, ih]
    constructor
    · intro h j hj
      cases j with
      | zero => exact h.1
      | succ j => have := h.2 j (by omega); rwa [show a + 1 + j = a + (j + 1) by omega] at this
    · intro h
      exact ⟨h 0 (by omega), fun j hj => by have := h (j + 1) (by omega); rwa [show a + (j + 1) = a + 1 + j by omega] at this⟩
/-- the first of a .. a + k - 1 with p -/
def fst (p : Nat → Bool) (a : Nat) : Nat → Option Nat
  | 0 => none
  | k + 1 => if p a = true then some a else fst p (a + 1) k
theorem bI_z {b : Bool} : (bI b = 0) = (b = false) := by cases b <;> simp [bI]
theorem bI_t : bI true = 1 := rfl
theorem bI_f : bI false = 0 := rfl
theorem bI_b {b : Bool} : (bI b = 0 ∨ bI b = 1) = True := by cases b <;> simp [bI]
/-- the box at c, r is free in the table -/
def fre (T : Nat → Int32) (c r w t : Nat) : Bool := alF (fun j => alF (fun y => decide (T (6 * y + j) = -4)) r t) c w
section S32
variable {X : am_X} {M : Nat → Nat → Int32}
theorem isFree_i {c r w t j : Nat} (hj : j < 6) (hr : r + t ≤ 12) (k : Nat) : ∀ y, y + k = r + t → ∃ i', am_ev X kX9_isFree 47 [.ref 82, .int (nI c), .int (nI r), .int (nI w), .int (nI t), .int 1, .int (nI j), .int (nI y)] [] (hp M) = am_ev X kX9_isFree 92 [.ref 82, .int (nI c), .int (nI r), .int (nI w), .int (nI t), .int (bI (alF (fun y => decide (M 89 (6 * y + j) = -4)) y k)), .int (nI j), .int i'] [] (hp M) := by
  induction k with
  | zero =>
    intro y hy
    refine ⟨nI y, ?_⟩
    rw [alF, bI_t]
    simp (disch := omega) only [iX9_isFree_47, iX9_isFree_49, iX9_isFree_52, iX9_isFree_54, iX9_isFree_55, iX9_isFree_57, iX9_isFree_58, true_or, or_true, Option.bind_some, Option.bind_none, kk_hp, kn_hp, el_i, el_b, el_z, am_cat_nil, am_cat_i, am_cat_r, am_cat_l, am_cat_n, gd_i, gd_r, gd_n, gd_u, List.length_cons, List.length_nil, true_and, and_true, ↓reduceIte, Nat.zero_le, Nat.reduceLeDiff, Nat.reduceAdd, e_10, e_01, e_00, e_11, Int32.reduceLE, Int32.reduceLT, Int32.reduceAdd, Int32.reduceSub, b01, if_true, if_false, ite_self, nl_add, nl_add', nl_mul, nI_add, in_t, cl_n, le_nn, lt_nn, le_ln, le_nl, lt_nl, lt_ln, eq_nn, eq_nl, in_lit, cl_lit, Nat.le_refl, Nat.add_zero, show r + t ≤ y by omega]
  | succ k ih =>
    intro y hy
    by_cases h : M 89 (6 * y + j) = -4
    · obtain ⟨i', e⟩ := ih (y + 1) (by omega)
      refine ⟨i', ?_⟩
      rw [alF, decide_eq_true h, Bool.true_and, ← e]
      conv => lhs; rw [iX9_isFree_47]
      simp (disch := omega) only [iX9_isFree_49, iX9_isFree_52, iX9_isFree_54, iX9_isFree_55, iX9_isFree_57, iX9_isFree_58, iX9_isFree_61, iX9_isFree_62, iX9_isFree_65, iX9_isFree_67, iX9_isFree_69, iX9_isFree_70, iX9_isFree_72, iX9_isFree_73, iX9_isFree_74, iX9_isFree_76, iX9_isFree_79, iX9_isFree_80, iX9_isFree_83, iX9_isFree_84, iX9_isFree_86, iX9_isFree_89, true_or, or_true, Option.bind_some, Option.bind_none, kk_hp, kn_hp, el_i, el_b, el_z, am_cat_nil, am_cat_i, am_cat_r, am_cat_l, am_cat_n, gd_i, gd_r, gd_n, gd_u, List.length_cons, List.length_nil, true_and, and_true, ↓reduceIte, Nat.zero_le, Nat.reduceLeDiff, Nat.reduceAdd, e_10, e_01, e_00, e_11, Int32.reduceLE, Int32.reduceLT, Int32.reduceAdd, Int32.reduceSub, b01, if_true, if_false, ite_self, rc_82, gf_82_0, gf_82_1, gf_82_2, gf_82_3, gf_82_4, gf_82_5, gf_82_6, pf_82_6, gf_82_7, pf_82_7, gf_82_8, pf_82_8, gf_82_9, pf_82_9, gf_82_10, pf_82_10, gf_82_11, pf_82_11, gf_82_12, pf_82_12, gf_82_13, gf_82_14, gf_82_15, gf_82_16, pf_82_16, gf_82_17, gf_82_18, gf_82_19, gf_82_20, gf_82_21, gf_82_22, gf_82_23, gf_82_24, gf_82_25, pf_82_25, ga_83, wi_83, ga_84, wi_84, ga_85, wb_85, ga_86, wi_86, ga_87, wb_87, ga_88, wi_88, ga_89, wi_89, ga_90, wi_90, ga_91, wi_91, ga_92, wi_92, ga_93, wi_93, ga_94, wi_94, ga_95, wi_95, ga_96, wb_96, ga_97, wi_97, ga_98, wi_98, ga_99, wi_99, nl_add, nl_add', nl_mul, nI_add, in_t, cl_n, le_nn, lt_nn, le_ln, le_nl, lt_nl, lt_ln, eq_nn, eq_nl, in_lit, cl_lit, Nat.le_refl, Nat.add_zero, show ¬ r + t ≤ y by omega, h]
    · refine ⟨nI (y + 1), ?_⟩
      rw [alF, decide_eq_false h, Bool.false_and, bI_f]
      conv => lhs; rw [iX9_isFree_47]
      simp (disch := omega) only [iX9_isFree_49, iX9_isFree_52, iX9_isFree_54, iX9_isFree_55, iX9_isFree_57, iX9_isFree_58, iX9_isFree_61, iX9_isFree_62, iX9_isFree_65, iX9_isFree_67, iX9_isFree_69, iX9_isFree_70, iX9_isFree_72, iX9_isFree_73, iX9_isFree_74, iX9_isFree_76, iX9_isFree_79, iX9_isFree_80, iX9_isFree_83, iX9_isFree_84, iX9_isFree_86, iX9_isFree_89, true_or, or_true, Option.bind_some, Option.bind_none, kk_hp, kn_hp, el_i, el_b, el_z, am_cat_nil, am_cat_i, am_cat_r, am_cat_l, am_cat_n, gd_i, gd_r, gd_n, gd_u, List.length_cons, List.length_nil, true_and, and_true, ↓reduceIte, Nat.zero_le, Nat.reduceLeDiff, Nat.reduceAdd, e_10, e_01, e_00, e_11, Int32.reduceLE, Int32.reduceLT, Int32.reduceAdd, Int32.reduceSub, b01, if_true, if_false, ite_self, rc_82, gf_82_0, gf_82_1, gf_82_2, gf_82_3, gf_82_4, gf_82_5, gf_82_6, pf_82_6, gf_82_7, pf_82_7, gf_82_8, pf_82_8, gf_82_9, pf_82_9, gf_82_10, pf_82_10, gf_82_11, pf_82_11, gf_82_12, pf_82_12, gf_82_13, gf_82_14, gf_82_15, gf_82_16, pf_82_16, gf_82_17, gf_82_18, gf_82_19, gf_82_20, gf_82_21, gf_82_22, gf_82_23, gf_82_24, gf_82_25, pf_82_25, ga_83, wi_83, ga_84, wi_84, ga_85, wb_85, ga_86, wi_86, ga_87, wb_87, ga_88, wi_88, ga_89, wi_89, ga_90, wi_90, ga_91, wi_91, ga_92, wi_92, ga_93, wi_93, ga_94, wi_94, ga_95, wi_95, ga_96, wb_96, ga_97, wi_97, ga_98, wi_98, ga_99, wi_99, nl_add, nl_add', nl_mul, nI_add, in_t, cl_n, le_nn, lt_nn, le_ln, le_nl, lt_nl, lt_ln, eq_nn, eq_nl, in_lit, cl_lit, Nat.le_refl, Nat.add_zero, show ¬ r + t ≤ y by omega, h]
      simp (disch := omega) only [iX9_isFree_47, iX9_isFree_49, true_or, or_true, Option.bind_some, Option.bind_none, kk_hp, kn_hp, el_i, el_b, el_z, am_cat_nil, am_cat_i, am_cat_r, am_cat_l, am_cat_n, gd_i, gd_r, gd_n, gd_u, List.length_cons, List.length_nil, true_and, and_true, ↓reduceIte, Nat.zero_le, Nat.reduceLeDiff, Nat.reduceAdd, e_10, e_01, e_00, e_11, Int32.reduceLE, Int32.reduceLT, Int32.reduceAdd, Int32.reduceSub, b01, if_true, if_false, ite_self]
theorem isFree_o {c r w t : Nat} (hc : c + w ≤ 6) (hr : r + t ≤ 12) (k : Nat) : ∀ j v7, j + k = c + w → am_ev X kX9_isFree 31 [.ref 82, .int (nI c), .int (nI r), .int (nI w), .int (nI t), .int 1, .int (nI j), v7] [] (hp M) = some (some (.int (bI (alF (fun j => alF (fun y => decide (M 89 (6 * y + j) = -4)) r t) j k))), hp M) := by
  induction k with
  | zero =>
    intro j v7 hj
    rw [alF, bI_t]
    simp (disch := omega) only [iX9_isFree_31, iX9_isFree_33, iX9_isFree_36, iX9_isFree_38, iX9_isFree_39, iX9_isFree_40, iX9_isFree_41, iX9_isFree_98, iX9_isFree_100, true_or, or_true, Option.bind_some, Option.bind_none, kk_hp, kn_hp, el_i, el_b, el_z, am_cat_nil, am_cat_i, am_cat_r, am_cat_l, am_cat_n, gd_i, gd_r, gd_n, gd_u, List.length_cons, List.length_nil, true_and, and_true, ↓reduceIte, Nat.zero_le, Nat.reduceLeDiff, Nat.reduceAdd, e_10, e_01, e_00, e_11, Int32.reduceLE, Int32.reduceLT, Int32.reduceAdd, Int32.reduceSub, b01, if_true, if_false, ite_self, nl_add, nl_add', nl_mul, nI_add, in_t, cl_n, le_nn, lt_nn, le_ln, le_nl, lt_nl, lt_ln, eq_nn, eq_nl, in_lit, cl_lit, Nat.le_refl, Nat.add_zero, show c + w ≤ j by omega]
  | succ k ih =>
    intro j v7 hj
    obtain ⟨i', e⟩ := @isFree_i X M c r w t j (by omega) hr t r rfl
    conv => lhs; rw [iX9_isFree_31]
    simp (disch := omega) only [iX9_isFree_33, iX9_isFree_36, iX9_isFree_38, iX9_isFree_39, iX9_isFree_40, iX9_isFree_41, iX9_isFree_44, iX9_isFree_45, true_or, or_true, Option.bind_some, Option.bind_none, kk_hp, kn_hp, el_i, el_b, el_z, am_cat_nil, am_cat_i, am_cat_r, am_cat_l, am_cat_n, gd_i, gd_r, gd_n, gd_u, List.length_cons, List.length_nil, true_and, and_true, ↓reduceIte, Nat.zero_le, Nat.reduceLeDiff, Nat.reduceAdd, e_10, e_01, e_00, e_11, Int32.reduceLE, Int32.reduceLT, Int32.reduceAdd, Int32.reduceSub, b01, if_true, if_false, ite_self, nl_add, nl_add', nl_mul, nI_add, in_t, cl_n, le_nn, lt_nn, le_ln, le_nl, lt_nl, lt_ln, eq_nn, eq_nl, in_lit, cl_lit, Nat.le_refl, Nat.add_zero, show ¬ c + w ≤ j by omega]
    rw [e, alF]
    simp (disch := omega) only [iX9_isFree_92, iX9_isFree_95, true_or, or_true, Option.bind_some, Option.bind_none, kk_hp, kn_hp, el_i, el_b, el_z, am_cat_nil, am_cat_i, am_cat_r, am_cat_l, am_cat_n, gd_i, gd_r, gd_n, gd_u, List.length_cons, List.length_nil, true_and, and_true, ↓reduceIte, Nat.zero_le, Nat.reduceLeDiff, Nat.reduceAdd, e_10, e_01, e_00, e_11, Int32.reduceLE, Int32.reduceLT, Int32.reduceAdd, Int32.reduceSub, b01, if_true, if_false, ite_self, nl_add, nl_add', nl_mul, nI_add, in_t, cl_n, le_nn, lt_nn, le_ln, le_nl, lt_nl, lt_ln, eq_nn, eq_nl, in_lit, cl_lit, Nat.le_refl, Nat.add_zero]
    cases hb : alF (fun y => decide (M 89 (6 * y + j) = -4)) r t with
    | true =>
      rw [Bool.true_and, bI_t]
      exact ih (j + 1) _ (by omega)
    | false =>
      rw [Bool.false_and, bI_f]
      simp (disch := omega) only [iX9_isFree_31, iX9_isFree_33, iX9_isFree_98, iX9_isFree_100, true_or, or_true, Option.bind_some, Option.bind_none, kk_hp, kn_hp, el_i, el_b, el_z, am_cat_nil, am_cat_i, am_cat_r, am_cat_l, am_cat_n, gd_i, gd_r, gd_n, gd_u, List.length_cons, List.length_nil, true_and, and_true, ↓reduceIte, Nat.zero_le, Nat.reduceLeDiff, Nat.reduceAdd, e_10, e_01, e_00, e_11, Int32.reduceLE, Int32.reduceLT, Int32.reduceAdd, Int32.reduceSub, b01, if_true, if_false, ite_self, nl_add, nl_add', nl_mul, nI_add, in_t, cl_n, le_nn, lt_nn, le_ln, le_nl, lt_nl, lt_ln, eq_nn, eq_nl, in_lit, cl_lit, Nat.le_refl, Nat.add_zero]
theorem M_isFree {c r w t n : Nat} (hn : n ≤ 6) (h0 : M 83 0 = nI n) (hc : c ≤ 6) (hr : r ≤ 12) (hw : w ≤ 6) (ht : t ≤ 12) : am_ev X kX9_isFree 0 [.ref 82, .int (nI c), .int (nI r), .int (nI w), .int (nI t), am_u, am_u, am_u] [] (hp M) = some (some (.int (bI (decide (c + w ≤ n ∧ r + t ≤ 12) && fre (M 89) c r w t))), hp M) := by
  by_cases h1 : c + w ≤ n
  · by_cases h2 : r + t ≤ 12
    · simp (disch := omega) only [iX9_isFree_0, iX9_isFree_1, iX9_isFree_2, iX9_isFree_3, iX9_isFree_4, iX9_isFree_7, iX9_isFree_8, iX9_isFree_9, iX9_isFree_12, iX9_isFree_13, iX9_isFree_15, iX9_isFree_16, iX9_isFree_18, iX9_isFree_21, iX9_isFree_22, iX9_isFree_25, iX9_isFree_26, iX9_isFree_28, iX9_isFree_29, true_or, or_true, Option.bind_some, Option.bind_none, kk_hp, kn_hp, el_i, el_b, el_z, am_cat_nil, am_cat_i, am_cat_r, am_cat_l, am_cat_n, gd_i, gd_r, gd_n, gd_u, List.length_cons, List.length_nil, true_and, and_true, ↓reduceIte, Nat.zero_le, Nat.reduceLeDiff, Nat.reduceAdd, e_10, e_01, e_00, e_11, Int32.reduceLE, Int32.reduceLT, Int32.reduceAdd, Int32.reduceSub, b01, if_true, if_false, ite_self, rc_82, gf_82_0, gf_82_1, gf_82_2, gf_82_3, gf_82_4, gf_82_5, gf_82_6, pf_82_6, gf_82_7, pf_82_7, gf_82_8, pf_82_8, gf_82_9, pf_82_9, gf_82_10, pf_82_10, gf_82_11, pf_82_11, gf_82_12, pf_82_12, gf_82_13, gf_82_14, gf_82_15, gf_82_16, pf_82_16, gf_82_17, gf_82_18, gf_82_19, gf_82_20, gf_82_21, gf_82_22, gf_82_23, gf_82_24, gf_82_25, pf_82_25, ga_83, wi_83, ga_84, wi_84, ga_85, wb_85, ga_86, wi_86, ga_87, wb_87, ga_88, wi_88, ga_89, wi_89, ga_90, wi_90, ga_91, wi_91, ga_92, wi_92, ga_93, wi_93, ga_94, wi_94, ga_95, wi_95, ga_96, wb_96, ga_97, wi_97, ga_98, wi_98, ga_99, wi_99, nl_add, nl_add', nl_mul, nI_add, in_t, cl_n, le_nn, lt_nn, le_ln, le_nl, lt_nl, lt_ln, eq_nn, eq_nl, in_lit, cl_lit, Nat.le_refl, Nat.add_zero, h0, show ¬ n < c + w by omega, show ¬ 12 < r + t by omega]
      rw [isFree_o (by omega) h2 w c _ rfl, decide_eq_true ⟨h1, h2⟩, Bool.true_and]
      rfl
    · simp (disch := omega) only [iX9_isFree_0, iX9_isFree_1, iX9_isFree_2, iX9_isFree_3, iX9_isFree_4, iX9_isFree_7, iX9_isFree_8, iX9_isFree_9, iX9_isFree_12, iX9_isFree_13, iX9_isFree_15, iX9_isFree_16, iX9_isFree_18, iX9_isFree_21, iX9_isFree_22, iX9_isFree_25, iX9_isFree_26, iX9_isFree_28, iX9_isFree_29, iX9_isFree_31, iX9_isFree_33, iX9_isFree_98, iX9_isFree_100, true_or, or_true, Option.bind_some, Option.bind_none, kk_hp, kn_hp, el_i, el_b, el_z, am_cat_nil, am_cat_i, am_cat_r, am_cat_l, am_cat_n, gd_i, gd_r, gd_n, gd_u, List.length_cons, List.length_nil, true_and, and_true, ↓reduceIte, Nat.zero_le, Nat.reduceLeDiff, Nat.reduceAdd, e_10, e_01, e_00, e_11, Int32.reduceLE, Int32.reduceLT, Int32.reduceAdd, Int32.reduceSub, b01, if_true, if_false, ite_self, rc_82, gf_82_0, gf_82_1, gf_82_2, gf_82_3, gf_82_4, gf_82_5, gf_82_6, pf_82_6, gf_82_7, pf_82_7, gf_82_8, pf_82_8, gf_82_9, pf_82_9, gf_82_10, pf_82_10, gf_82_11, pf_82_11, gf_82_12, pf_82_12, gf_82_13, gf_82_14, gf_82_15, gf_82_16, pf_82_16, gf_82_17, gf_82_18, gf_82_19, gf_82_20, gf_82_21, gf_82_22, gf_82_23, gf_82_24, gf_82_25, pf_82_25, ga_83, wi_83, ga_84, wi_84, ga_85, wb_85, ga_86, wi_86, ga_87, wb_87, ga_88, wi_88, ga_89, wi_89, ga_90, wi_90, ga_91, wi_91, ga_92, wi_92, ga_93, wi_93, ga_94, wi_94, ga_95, wi_95, ga_96, wb_96, ga_97, wi_97, ga_98, wi_98, ga_99, wi_99, nl_add, nl_add', nl_mul, nI_add, in_t, cl_n, le_nn, lt_nn, le_ln, le_nl, lt_nl, lt_ln, eq_nn, eq_nl, in_lit, cl_lit, Nat.le_refl, Nat.add_zero, h0, show ¬ n < c + w by omega, show 12 < r + t by omega]
      rw [decide_eq_false (fun z => h2 z.2), Bool.false_and]
      rfl
  · simp (disch := omega) only [iX9_isFree_0, iX9_isFree_1, iX9_isFree_2, iX9_isFree_3, iX9_isFree_4, iX9_isFree_7, iX9_isFree_8, iX9_isFree_9, iX9_isFree_12, iX9_isFree_13, iX9_isFree_15, iX9_isFree_16, iX9_isFree_18, iX9_isFree_21, iX9_isFree_22, iX9_isFree_25, iX9_isFree_26, iX9_isFree_28, iX9_isFree_29, iX9_isFree_31, iX9_isFree_33, iX9_isFree_98, iX9_isFree_100, true_or, or_true, Option.bind_some, Option.bind_none, kk_hp, kn_hp, el_i, el_b, el_z, am_cat_nil, am_cat_i, am_cat_r, am_cat_l, am_cat_n, gd_i, gd_r, gd_n, gd_u, List.length_cons, List.length_nil, true_and, and_true, ↓reduceIte, Nat.zero_le, Nat.reduceLeDiff, Nat.reduceAdd, e_10, e_01, e_00, e_11, Int32.reduceLE, Int32.reduceLT, Int32.reduceAdd, Int32.reduceSub, b01, if_true, if_false, ite_self, rc_82, gf_82_0, gf_82_1, gf_82_2, gf_82_3, gf_82_4, gf_82_5, gf_82_6, pf_82_6, gf_82_7, pf_82_7, gf_82_8, pf_82_8, gf_82_9, pf_82_9, gf_82_10, pf_82_10, gf_82_11, pf_82_11, gf_82_12, pf_82_12, gf_82_13, gf_82_14, gf_82_15, gf_82_16, pf_82_16, gf_82_17, gf_82_18, gf_82_19, gf_82_20, gf_82_21, gf_82_22, gf_82_23, gf_82_24, gf_82_25, pf_82_25, ga_83, wi_83, ga_84, wi_84, ga_85, wb_85, ga_86, wi_86, ga_87, wb_87, ga_88, wi_88, ga_89, wi_89, ga_90, wi_90, ga_91, wi_91, ga_92, wi_92, ga_93, wi_93, ga_94, wi_94, ga_95, wi_95, ga_96, wb_96, ga_97, wi_97, ga_98, wi_98, ga_99, wi_99, nl_add, nl_add', nl_mul, nI_add, in_t, cl_n, le_nn, lt_nn, le_ln, le_nl, lt_nl, lt_ln, eq_nn, eq_nl, in_lit, cl_lit, Nat.le_refl, Nat.add_zero, h0, show n < c + w by omega]
    rw [decide_eq_false (fun z => h1 z.1), Bool.false_and]
    rfl
end S32
