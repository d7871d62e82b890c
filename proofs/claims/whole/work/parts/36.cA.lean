/-! the class's leaves -/
def bts (c w : Nat) : Int32 := ((1 <<< (nI w &&& 31)) - 1) <<< (nI c &&& 31)
def holG (p : Nat → Nat → Bool) (c0 kc : Nat) (r : Nat) : Nat → Option (Nat × Nat)
  | 0 => none
  | k + 1 => match fst (p r) c0 kc with
    | some c => some (r, c)
    | none => holG p c0 kc (r + 1) k
theorem hol_G {T : Nat → Int32} {n w t c0 kc r k : Nat} : hol T n w t c0 kc r k = holG (hit T n w t) c0 kc r k := by
  induction k generalizing r with
  | zero => rfl
  | succ k ih =>
    rw [hol, holG, ih]
    cases fst (hit T n w t r) c0 kc <;> rfl
theorem fst_ext {p q : Nat → Bool} {a k : Nat} (h : ∀ j, j < k → p (a + j) = q (a + j)) : fst p a k = fst q a k := by
  induction k generalizing a with
  | zero => rfl
  | succ k ih =>
    rw [fst, fst, ih (fun j hj => by have := h (j + 1) (by omega); rwa [show a + (j + 1) = a + 1 + j by omega] at this), show p a = q a from h 0 (by omega)]
theorem fst_more {p : Nat → Bool} {a k d : Nat} (h : ∀ j, k ≤ j → j < k + d → p (a + j) = false) : fst p a (k + d) = fst p a k := by
  induction k generalizing a with
  | zero =>
    rw [fst, Nat.zero_add]
    induction d generalizing a with
    | zero => rfl
    | succ d ih =>
      rw [fst, show p a = false from h 0 (by omega) (by omega)]
      simp only [Bool.false_eq_true, if_false]
      exact ih (fun j h1 h2 => by have := h (j + 1) (by omega) (by omega); rwa [show a + (j + 1) = a + 1 + j by omega] at this)
  | succ k ih =>
    rw [show k + 1 + d = (k + d) + 1 by omega, fst, fst, ih (fun j h1 h2 => by have := h (j + 1) (by omega) (by omega); rwa [show a + (j + 1) = a + 1 + j by omega] at this)]
theorem fst_none {p : Nat → Bool} {a k : Nat} (h : ∀ j, j < k → p (a + j) = false) : fst p a k = none := by
  have := @fst_more p a 0 k (fun j _ hj => h j (by omega))
  rwa [Nat.zero_add] at this
theorem holG_ext {p q : Nat → Nat → Bool} {c0 kc r k : Nat} (h : ∀ y j, y < k → j < kc → p (r + y) (c0 + j) = q (r + y) (c0 + j)) : holG p c0 kc r k = holG q c0 kc r k := by
  induction k generalizing r with
  | zero => rfl
  | succ k ih =>
    rw [holG, holG, ih (fun y j hy hj => by have := h (y + 1) j (by omega) hj; rwa [show r + (y + 1) = r + 1 + y by omega] at this), fst_ext (p := p r) (q := q r) (fun j hj => h 0 j (by omega) hj)]
theorem holG_cols {p : Nat → Nat → Bool} {c0 kc d r k : Nat} (h : ∀ y j, y < k → kc ≤ j → j < kc + d → p (r + y) (c0 + j) = false) : holG p c0 (kc + d) r k = holG p c0 kc r k := by
  induction k generalizing r with
  | zero => rfl
  | succ k ih =>
    rw [holG, holG, ih (fun y j hy h1 h2 => by have := h (y + 1) j (by omega) h1 h2; rwa [show r + (y + 1) = r + 1 + y by omega] at this), fst_more (p := p r) (fun j h1 h2 => h 0 j (by omega) h1 h2)]
theorem holG_rows {p : Nat → Nat → Bool} {c0 kc d r k : Nat} (h : ∀ y j, k ≤ y → y < k + d → j < kc → p (r + y) (c0 + j) = false) : holG p c0 kc r (k + d) = holG p c0 kc r k := by
  induction k generalizing r with
  | zero =>
    rw [holG, Nat.zero_add]
    induction d generalizing r with
    | zero => rfl
    | succ d ih =>
      rw [holG, fst_none (p := p r) (fun j hj => h 0 j (by omega) (by omega) hj)]
      exact ih (fun y j h1 h2 hj => by have := h (y + 1) j (by omega) (by omega) hj; rwa [show r + (y + 1) = r + 1 + y by omega] at this)
  | succ k ih =>
    rw [show k + 1 + d = (k + d) + 1 by omega, holG, holG, ih (fun y j h1 h2 hj => by have := h (y + 1) j (by omega) (by omega) hj; rwa [show r + (y + 1) = r + 1 + y by omega] at this)]
section S36
variable {X : am_X} {M : Nat → Nat → Int32}
theorem C_isBetween {v a b : Int32} : am_ev X kX8_isBetween 0 [.int v, .int a, .int b] [] (hp M) = some (some (.int (if a ≤ v ∧ v ≤ b then 1 else 0)), hp M) := by
  simp only [iX8_isBetween_0, iX8_isBetween_1, iX8_isBetween_2, iX8_isBetween_5, iX8_isBetween_6, iX8_isBetween_7, iX8_isBetween_10, iX8_isBetween_11, iX8_isBetween_14, iX8_isBetween_15, true_or, or_true, Option.bind_some, Option.bind_none, kk_hp, kn_hp, el_i, el_b, el_z, am_cat_nil, am_cat_i, am_cat_r, am_cat_l, am_cat_n, gd_i, gd_r, gd_n, gd_u, List.length_cons, List.length_nil, true_and, and_true, ↓reduceIte, Nat.zero_le, Nat.reduceLeDiff, Nat.reduceAdd, e_10, e_01, e_00, e_11, Int32.reduceLE, Int32.reduceLT, Int32.reduceAdd, Int32.reduceSub, b01, if_true, if_false, ite_self]
  by_cases h1 : v < a
  · rw [if_pos h1, if_neg (fun z => Int32.not_le.mpr h1 z.1)]
  · rw [if_neg h1]
    by_cases h2 : b < v
    · rw [if_pos h2, if_neg (fun z => Int32.not_le.mpr h2 z.2)]
    · rw [if_neg h2, if_pos ⟨Int32.not_lt.mp h1, Int32.not_lt.mp h2⟩]
theorem C_fill {a N : Nat} {x : Int32} (hl : am_lay[a]? = some (0, N, [])) (hN : N < 1000) : am_ev X kJ7_fill_53178 0 [.ref a, .int x, am_u, am_u] [] (hp M) = some (none, hp (ua M a (fil (M a) (fun _ => x) N))) := by
  have ha : ∀ K, am_ga X (hp K) a = some (0, N, K a) := fun K => ga_hp hl (by decide)
  have hw : ∀ K i y, am_wi (hp K) a i y = if am_in i N = true then some (hp (up K a i.toNatClampNeg y)) else none := fun K i y => wi_hp hl
  have hln : ∀ (K : Int32 → Option am_Q) f, am_elen (some (0, N, f)) K = K (nI N) := fun _ _ => rfl
  have e := chain (fun j => am_ev X kJ7_fill_53178 5 [.ref a, .int x, .int (nI j), .int (nI N)] [] (hp (ua M a (fil (M a) (fun _ => x) j)))) (0) (N) (by omega) (fun j hj0 hj => by
    have hj1 : ¬ (N) ≤ j := by omega
    conv => lhs; rw [iJ7_fill_53178_5]
    simp (disch := omega) only [iJ7_fill_53178_6, iJ7_fill_53178_7, iJ7_fill_53178_10, iJ7_fill_53178_11, iJ7_fill_53178_12, iJ7_fill_53178_13, iJ7_fill_53178_14, iJ7_fill_53178_17, iJ7_fill_53178_20, true_or, or_true, Option.bind_some, Option.bind_none, kk_hp, kn_hp, el_i, el_b, el_z, am_cat_nil, am_cat_i, am_cat_r, am_cat_l, am_cat_n, gd_i, gd_r, gd_n, gd_u, List.length_cons, List.length_nil, true_and, and_true, ↓reduceIte, Nat.zero_le, Nat.reduceLeDiff, Nat.reduceAdd, e_10, e_01, e_00, e_11, Int32.reduceLE, Int32.reduceLT, Int32.reduceAdd, Int32.reduceSub, b01, if_true, if_false, ite_self, rc_0, gf_0_0, gf_0_1, gf_0_2, gf_0_3, gf_0_4, gf_0_5, gf_0_6, gf_0_7, gf_0_8, pf_0_8, gf_0_9, pf_0_9, rc_1, gf_1_0, pf_1_0, gf_1_1, gf_1_2, gf_1_3, pf_1_3, gf_1_4, pf_1_4, gf_1_5, pf_1_5, gf_1_6, pf_1_6, gf_1_7, pf_1_7, gf_1_8, gf_1_9, ga_2, wi_2, ga_3, wi_3, gq_4, ga_5, wi_5, ga_6, wi_6, ga_7, wi_7, ga_8, wi_8, ga_9, wi_9, ga_10, wi_10, ga_11, wi_11, rc_12, gf_12_0, gf_12_1, gf_12_2, pf_12_2, gf_12_3, pf_12_3, gf_12_4, pf_12_4, gf_12_5, pf_12_5, gf_12_6, pf_12_6, gf_12_7, pf_12_7, rc_13, gf_13_0, gf_13_1, pf_13_1, gf_13_2, pf_13_2, gf_13_3, pf_13_3, gf_13_4, pf_13_4, gf_13_5, pf_13_5, ga_14, wb_14, rc_15, gf_15_0, pf_15_0, gf_15_1, gf_15_2, gf_15_3, pf_15_3, gf_15_4, pf_15_4, gf_15_5, pf_15_5, gf_15_6, pf_15_6, gf_15_7, pf_15_7, gf_15_8, gf_15_9, ga_16, wi_16, ga_17, wi_17, gq_18, ga_19, wi_19, ga_20, wi_20, ga_21, wi_21, ga_22, wi_22, ga_23, wi_23, ga_24, wi_24, ga_25, wi_25, gq_26, rc_27, gf_27_0, gf_27_1, pf_27_1, rc_28, gf_28_0, pf_28_0, gf_28_1, gf_28_2, gf_28_3, pf_28_3, gf_28_4, pf_28_4, gf_28_5, pf_28_5, gf_28_6, pf_28_6, gf_28_7, pf_28_7, gf_28_8, gf_28_9, ga_29, wi_29, ga_30, wi_30, gq_31, ga_32, wi_32, ga_33, wi_33, ga_34, wi_34, ga_35, wi_35, ga_36, wi_36, ga_37, wi_37, ga_38, wi_38, rc_39, gf_39_0, gf_39_1, pf_39_1, rc_40, gf_40_0, pf_40_0, gf_40_1, gf_40_2, gf_40_3, pf_40_3, gf_40_4, pf_40_4, gf_40_5, pf_40_5, gf_40_6, pf_40_6, gf_40_7, pf_40_7, gf_40_8, gf_40_9, ga_41, wi_41, ga_42, wi_42, gq_43, ga_44, wi_44, ga_45, wi_45, ga_46, wi_46, ga_47, wi_47, ga_48, wi_48, ga_49, wi_49, ga_50, wi_50, gq_51, rc_52, gf_52_0, gf_52_1, pf_52_1, gf_52_2, pf_52_2, ga_53, wi_53, rc_54, gf_54_0, gf_54_1, pf_54_1, gf_54_2, pf_54_2, ga_55, wi_55, rc_56, gf_56_0, gf_56_1, pf_56_1, gf_56_2, pf_56_2, ga_57, wi_57, rc_58, gf_58_0, gf_58_1, pf_58_1, gf_58_2, pf_58_2, ga_59, wi_59, rc_60, gf_60_0, gf_60_1, gf_60_2, gf_60_3, pf_60_3, gf_60_4, pf_60_4, gf_60_5, pf_60_5, ga_61, wi_61, ga_62, wi_62, ga_63, wi_63, rc_64, gf_64_0, pf_64_0, gf_64_1, pf_64_1, gf_64_2, gf_64_3, gf_64_4, gf_64_5, gf_64_6, pf_64_6, gf_64_7, gf_64_8, gf_64_9, ga_65, wi_65, ga_66, wi_66, ga_67, wi_67, ga_68, wi_68, ga_69, wi_69, ga_70, wi_70, ga_71, wi_71, rc_72, gf_72_0, pf_72_0, gf_72_1, pf_72_1, gf_72_2, gf_72_3, gf_72_4, gf_72_5, gf_72_6, pf_72_6, gf_72_7, gf_72_8, gf_72_9, ga_73, wi_73, ga_74, wi_74, ga_75, wi_75, ga_76, wi_76, ga_77, wi_77, ga_78, wi_78, ga_79, wi_79, rc_80, gf_80_0, gf_80_1, pf_80_1, ga_81, wi_81, nl_add, nl_add', nl_mul, nI_add, in_t, cl_n, le_nn, lt_nn, le_ln, le_nl, lt_nl, lt_ln, eq_nn, eq_nl, in_lit, cl_lit, Nat.le_refl, Nat.add_zero, hj1, hw, up_of, ← fil_s])
  simp only [fil_0, ua_self, nI_0] at e
  simp (disch := omega) only [iJ7_fill_53178_0, iJ7_fill_53178_1, iJ7_fill_53178_2, iJ7_fill_53178_3, iJ7_fill_53178_4, true_or, or_true, Option.bind_some, Option.bind_none, kk_hp, kn_hp, el_i, el_b, el_z, am_cat_nil, am_cat_i, am_cat_r, am_cat_l, am_cat_n, gd_i, gd_r, gd_n, gd_u, List.length_cons, List.length_nil, true_and, and_true, ↓reduceIte, Nat.zero_le, Nat.reduceLeDiff, Nat.reduceAdd, e_10, e_01, e_00, e_11, Int32.reduceLE, Int32.reduceLT, Int32.reduceAdd, Int32.reduceSub, b01, if_true, if_false, ite_self, ha, hln]
  rw [e]
  simp (disch := omega) only [iJ7_fill_53178_5, iJ7_fill_53178_6, iJ7_fill_53178_7, iJ7_fill_53178_20, true_or, or_true, Option.bind_some, Option.bind_none, kk_hp, kn_hp, el_i, el_b, el_z, am_cat_nil, am_cat_i, am_cat_r, am_cat_l, am_cat_n, gd_i, gd_r, gd_n, gd_u, List.length_cons, List.length_nil, true_and, and_true, ↓reduceIte, Nat.zero_le, Nat.reduceLeDiff, Nat.reduceAdd, e_10, e_01, e_00, e_11, Int32.reduceLE, Int32.reduceLT, Int32.reduceAdd, Int32.reduceSub, b01, if_true, if_false, ite_self, nl_add, nl_add', nl_mul, nI_add, in_t, cl_n, le_nn, lt_nn, le_ln, le_nl, lt_nl, lt_ln, eq_nn, eq_nl, in_lit, cl_lit, Nat.le_refl, Nat.add_zero]
theorem C_isLost {i : Nat} (hi : i < 10) : am_ev X kX3_isLost 0 [.ref 60, .int (nI i)] [] (hp M) = some (some (.int (if M 61 i = -4 then 1 else 0)), hp M) := by
  simp (disch := omega) only [iX3_isLost_0, iX3_isLost_1, iX3_isLost_4, iX3_isLost_5, iX3_isLost_6, iX3_isLost_8, iX3_isLost_11, iX3_isLost_12, iX3_isLost_15, iX3_isLost_16, true_or, or_true, Option.bind_some, Option.bind_none, kk_hp, kn_hp, el_i, el_b, el_z, am_cat_nil, am_cat_i, am_cat_r, am_cat_l, am_cat_n, gd_i, gd_r, gd_n, gd_u, List.length_cons, List.length_nil, true_and, and_true, ↓reduceIte, Nat.zero_le, Nat.reduceLeDiff, Nat.reduceAdd, e_10, e_01, e_00, e_11, Int32.reduceLE, Int32.reduceLT, Int32.reduceAdd, Int32.reduceSub, b01, if_true, if_false, ite_self, rc_60, gf_60_0, gf_60_1, gf_60_2, gf_60_3, pf_60_3, gf_60_4, pf_60_4, gf_60_5, pf_60_5, ga_61, wi_61, nl_add, nl_add', nl_mul, nI_add, in_t, cl_n, le_nn, lt_nn, le_ln, le_nl, lt_nl, lt_ln, eq_nn, eq_nl, in_lit, cl_lit, Nat.le_refl, Nat.add_zero]
  by_cases h : M 61 i = -4 <;> simp [h]
theorem C_bits {c w : Nat} : am_ev X kX3_bits 0 [.int (nI c), .int (nI w)] [] (hp M) = some (some (.int (bts c w)), hp M) := by
  simp only [iX3_bits_0, iX3_bits_1, iX3_bits_2, iX3_bits_3, iX3_bits_4, iX3_bits_5, iX3_bits_6, iX3_bits_7, true_or, or_true, Option.bind_some, Option.bind_none, kk_hp, kn_hp, el_i, el_b, el_z, am_cat_nil, am_cat_i, am_cat_r, am_cat_l, am_cat_n, gd_i, gd_r, gd_n, gd_u, List.length_cons, List.length_nil, true_and, and_true, ↓reduceIte, Nat.zero_le, Nat.reduceLeDiff, Nat.reduceAdd, e_10, e_01, e_00, e_11, Int32.reduceLE, Int32.reduceLT, Int32.reduceAdd, Int32.reduceSub, b01, if_true, if_false, ite_self, bts]
theorem C_turnOf {g i : Nat} (hg : isG g) (hi : i < 10) : am_ev X kX3_turnOf 0 [.ref g, .int (nI i)] [] (hp M) = some (some (.int (if M (g + 4 + 5) i = -4 then 2 else if M (g + 4 + 4) i = -4 then 1 else 0)), hp M) := by
  simp (disch := omega) only [iX3_turnOf_0, iX3_turnOf_1, iX3_turnOf_4, iX3_turnOf_5, iX3_turnOf_6, iX3_turnOf_7, iX3_turnOf_8, iX3_turnOf_10, iX3_turnOf_13, iX3_turnOf_14, iX3_turnOf_15, iX3_turnOf_16, iX3_turnOf_19, iX3_turnOf_20, iX3_turnOf_21, iX3_turnOf_22, iX3_turnOf_23, iX3_turnOf_25, iX3_turnOf_28, iX3_turnOf_29, iX3_turnOf_32, iX3_turnOf_33, true_or, or_true, Option.bind_some, Option.bind_none, kk_hp, kn_hp, el_i, el_b, el_z, am_cat_nil, am_cat_i, am_cat_r, am_cat_l, am_cat_n, gd_i, gd_r, gd_n, gd_u, List.length_cons, List.length_nil, true_and, and_true, ↓reduceIte, Nat.zero_le, Nat.reduceLeDiff, Nat.reduceAdd, e_10, e_01, e_00, e_11, Int32.reduceLE, Int32.reduceLT, Int32.reduceAdd, Int32.reduceSub, b01, if_true, if_false, ite_self, nl_add, nl_add', nl_mul, nI_add, in_t, cl_n, le_nn, lt_nn, le_ln, le_nl, lt_nl, lt_ln, eq_nn, eq_nl, in_lit, cl_lit, Nat.le_refl, Nat.add_zero, gG8 hg, fG4 hg, fG5 hg, aGr4 hg, aGr5 hg]
  by_cases h1 : M (g + 4 + 5) i = -4 <;> by_cases h2 : M (g + 4 + 4) i = -4 <;> simp [h1, h2]
theorem isFreeC {c r w t : Nat} (hr : r + t ≤ 12) (k : Nat) : ∀ y, y + k = r + t → am_ev X kX3_isFree 3 [.ref 60, .int (nI c), .int (nI r), .int (nI w), .int (nI t), .int (nI y)] [] (hp M) = some (some (.int (bI (alF (fun y => decide (M 63 y &&& bts c w = 0)) y k))), hp M) := by
  induction k with
  | zero =>
    intro y hy
    rw [alF, bI_t]
    simp (disch := omega) only [iX3_isFree_3, iX3_isFree_5, iX3_isFree_6, iX3_isFree_8, iX3_isFree_9, iX3_isFree_36, iX3_isFree_37, true_or, or_true, Option.bind_some, Option.bind_none, kk_hp, kn_hp, el_i, el_b, el_z, am_cat_nil, am_cat_i, am_cat_r, am_cat_l, am_cat_n, gd_i, gd_r, gd_n, gd_u, List.length_cons, List.length_nil, true_and, and_true, ↓reduceIte, Nat.zero_le, Nat.reduceLeDiff, Nat.reduceAdd, e_10, e_01, e_00, e_11, Int32.reduceLE, Int32.reduceLT, Int32.reduceAdd, Int32.reduceSub, b01, if_true, if_false, ite_self, nl_add, nl_add', nl_mul, nI_add, in_t, cl_n, le_nn, lt_nn, le_ln, le_nl, lt_nl, lt_ln, eq_nn, eq_nl, in_lit, cl_lit, Nat.le_refl, Nat.add_zero, show r + t ≤ y by omega]
  | succ k ih =>
    intro y hy
    rw [alF]
    by_cases h : M 63 y &&& bts c w = 0
    · rw [decide_eq_true h, Bool.true_and, ← ih (y + 1) (by omega)]
      conv => lhs; rw [iX3_isFree_3]
      simp (disch := omega) only [iX3_isFree_5, iX3_isFree_6, iX3_isFree_8, iX3_isFree_9, iX3_isFree_12, iX3_isFree_13, iX3_isFree_16, iX3_isFree_18, iX3_isFree_19, iX3_isFree_20, iX3_isFree_21, iX3_isFree_24, iX3_isFree_25, iX3_isFree_28, iX3_isFree_29, iX3_isFree_30, iX3_isFree_33, true_or, or_true, Option.bind_some, Option.bind_none, kk_hp, kn_hp, el_i, el_b, el_z, am_cat_nil, am_cat_i, am_cat_r, am_cat_l, am_cat_n, gd_i, gd_r, gd_n, gd_u, List.length_cons, List.length_nil, true_and, and_true, ↓reduceIte, Nat.zero_le, Nat.reduceLeDiff, Nat.reduceAdd, e_10, e_01, e_00, e_11, Int32.reduceLE, Int32.reduceLT, Int32.reduceAdd, Int32.reduceSub, b01, if_true, if_false, ite_self, rc_60, gf_60_0, gf_60_1, gf_60_2, gf_60_3, pf_60_3, gf_60_4, pf_60_4, gf_60_5, pf_60_5, ga_63, wi_63, nl_add, nl_add', nl_mul, nI_add, in_t, cl_n, le_nn, lt_nn, le_ln, le_nl, lt_nl, lt_ln, eq_nn, eq_nl, in_lit, cl_lit, Nat.le_refl, Nat.add_zero, show ¬ r + t ≤ y by omega, C_bits, h]
    · rw [decide_eq_false h, Bool.false_and, bI_f]
      conv => lhs; rw [iX3_isFree_3]
      simp (disch := omega) only [iX3_isFree_5, iX3_isFree_6, iX3_isFree_8, iX3_isFree_9, iX3_isFree_12, iX3_isFree_13, iX3_isFree_16, iX3_isFree_18, iX3_isFree_19, iX3_isFree_20, iX3_isFree_21, iX3_isFree_24, iX3_isFree_25, iX3_isFree_28, iX3_isFree_29, true_or, or_true, Option.bind_some, Option.bind_none, kk_hp, kn_hp, el_i, el_b, el_z, am_cat_nil, am_cat_i, am_cat_r, am_cat_l, am_cat_n, gd_i, gd_r, gd_n, gd_u, List.length_cons, List.length_nil, true_and, and_true, ↓reduceIte, Nat.zero_le, Nat.reduceLeDiff, Nat.reduceAdd, e_10, e_01, e_00, e_11, Int32.reduceLE, Int32.reduceLT, Int32.reduceAdd, Int32.reduceSub, b01, if_true, if_false, ite_self, rc_60, gf_60_0, gf_60_1, gf_60_2, gf_60_3, pf_60_3, gf_60_4, pf_60_4, gf_60_5, pf_60_5, ga_63, wi_63, nl_add, nl_add', nl_mul, nI_add, in_t, cl_n, le_nn, lt_nn, le_ln, le_nl, lt_nl, lt_ln, eq_nn, eq_nl, in_lit, cl_lit, Nat.le_refl, Nat.add_zero, show ¬ r + t ≤ y by omega, C_bits, h]
theorem C_isFree {c r w t : Nat} (hr : r + t ≤ 12) : am_ev X kX3_isFree 0 [.ref 60, .int (nI c), .int (nI r), .int (nI w), .int (nI t), am_u] [] (hp M) = some (some (.int (bI (alF (fun y => decide (M 63 y &&& bts c w = 0)) r t))), hp M) := by
  simp (disch := omega) only [iX3_isFree_0, iX3_isFree_1, true_or, or_true, Option.bind_some, Option.bind_none, kk_hp, kn_hp, el_i, el_b, el_z, am_cat_nil, am_cat_i, am_cat_r, am_cat_l, am_cat_n, gd_i, gd_r, gd_n, gd_u, List.length_cons, List.length_nil, true_and, and_true, ↓reduceIte, Nat.zero_le, Nat.reduceLeDiff, Nat.reduceAdd, e_10, e_01, e_00, e_11, Int32.reduceLE, Int32.reduceLT, Int32.reduceAdd, Int32.reduceSub, b01, if_true, if_false, ite_self]
  exact isFreeC hr t r rfl
/-- the class's test of a place -/
def hitC (tk : Nat → Int32) (w t r c : Nat) : Bool := alF (fun y => decide (tk y &&& bts c w = 0)) r t
theorem firstHole_i {x1 x4 x5 x6 x8 x9 : Int32} {w t r c1 : Nat} (hc1 : c1 ≤ 6) (hr : r + t ≤ 12) (k : Nat) : ∀ c, c + k = c1 + 1 → am_ev X kX3_firstHole 80 [.ref 60, .int x1, .int (nI w), .int (nI t), .int x4, .int x5, .int x6, .int (nI c1), .int x8, .int x9, .int (nI r), .int (nI c)] [] (hp M) = match fst (hitC (M 63) w t r) c k with
    | some c' => some (some (.int (nI (100 * r + c'))), hp M)
    | none => am_ev X kX3_firstHole 115 [.ref 60, .int x1, .int (nI w), .int (nI t), .int x4, .int x5, .int x6, .int (nI c1), .int x8, .int x9, .int (nI r), .int (nI (c + k))] [] (hp M) := by
  induction k with
  | zero =>
    intro c hc
    simp (disch := omega) only [iX3_firstHole_80, iX3_firstHole_82, iX3_firstHole_84, true_or, or_true, Option.bind_some, Option.bind_none, kk_hp, kn_hp, el_i, el_b, el_z, am_cat_nil, am_cat_i, am_cat_r, am_cat_l, am_cat_n, gd_i, gd_r, gd_n, gd_u, List.length_cons, List.length_nil, true_and, and_true, ↓reduceIte, Nat.zero_le, Nat.reduceLeDiff, Nat.reduceAdd, e_10, e_01, e_00, e_11, Int32.reduceLE, Int32.reduceLT, Int32.reduceAdd, Int32.reduceSub, b01, if_true, if_false, ite_self, nl_add, nl_add', nl_mul, nI_add, in_t, cl_n, le_nn, lt_nn, le_ln, le_nl, lt_nl, lt_ln, eq_nn, eq_nl, in_lit, cl_lit, Nat.le_refl, Nat.add_zero, show c1 < c by omega, fst]
  | succ k ih =>
    intro c hc
    have e := @C_isFree X M c r w t hr
    conv => lhs; rw [iX3_firstHole_80]
    simp (disch := omega) only [iX3_firstHole_82, iX3_firstHole_84, iX3_firstHole_87, iX3_firstHole_88, iX3_firstHole_90, iX3_firstHole_92, iX3_firstHole_93, iX3_firstHole_94, iX3_firstHole_97, iX3_firstHole_100, iX3_firstHole_102, iX3_firstHole_104, iX3_firstHole_105, iX3_firstHole_107, iX3_firstHole_108, iX3_firstHole_109, iX3_firstHole_112, true_or, or_true, Option.bind_some, Option.bind_none, kk_hp, kn_hp, el_i, el_b, el_z, am_cat_nil, am_cat_i, am_cat_r, am_cat_l, am_cat_n, gd_i, gd_r, gd_n, gd_u, List.length_cons, List.length_nil, true_and, and_true, ↓reduceIte, Nat.zero_le, Nat.reduceLeDiff, Nat.reduceAdd, e_10, e_01, e_00, e_11, Int32.reduceLE, Int32.reduceLT, Int32.reduceAdd, Int32.reduceSub, b01, if_true, if_false, ite_self, rc_60, gf_60_0, gf_60_1, gf_60_2, gf_60_3, pf_60_3, gf_60_4, pf_60_4, gf_60_5, pf_60_5, nl_add, nl_add', nl_mul, nI_add, in_t, cl_n, le_nn, lt_nn, le_ln, le_nl, lt_nl, lt_ln, eq_nn, eq_nl, in_lit, cl_lit, Nat.le_refl, Nat.add_zero, show ¬ c1 < c by omega, e, bI_b, bI_z]
    rw [fst]
    unfold hitC
    cases hb : alF (fun y => decide (M 63 y &&& bts c w = 0)) r t with
    | true => simp only [reduceCtorEq, if_true, if_false]
    | false =>
      simp only [reduceCtorEq, if_true, if_false]
      have e2 := ih (c + 1) (by omega)
      unfold hitC at e2
      rw [e2, show c + 1 + k = c + (k + 1) by omega]
theorem firstHole_o {x1 x4 x5 x8 : Int32} {w t c0 c1 kc r1 : Nat} (hc1 : c1 ≤ 6) (hkc : c0 + kc = c1 + 1) (hr1 : r1 + t ≤ 12) (k : Nat) : ∀ r v, r + k = r1 + 1 → am_ev X kX3_firstHole 69 [.ref 60, .int x1, .int (nI w), .int (nI t), .int x4, .int x5, .int (nI c0), .int (nI c1), .int x8, .int (nI r1), .int (nI r), v] [] (hp M) = some (some (.int (holI (holG (hitC (M 63) w t) c0 kc r k))), hp M) := by
  induction k with
  | zero =>
    intro r v hr
    simp (disch := omega) only [iX3_firstHole_69, iX3_firstHole_71, iX3_firstHole_73, iX3_firstHole_121, iX3_firstHole_123, true_or, or_true, Option.bind_some, Option.bind_none, kk_hp, kn_hp, el_i, el_b, el_z, am_cat_nil, am_cat_i, am_cat_r, am_cat_l, am_cat_n, gd_i, gd_r, gd_n, gd_u, List.length_cons, List.length_nil, true_and, and_true, ↓reduceIte, Nat.zero_le, Nat.reduceLeDiff, Nat.reduceAdd, e_10, e_01, e_00, e_11, Int32.reduceLE, Int32.reduceLT, Int32.reduceAdd, Int32.reduceSub, b01, if_true, if_false, ite_self, nl_add, nl_add', nl_mul, nI_add, in_t, cl_n, le_nn, lt_nn, le_ln, le_nl, lt_nl, lt_ln, eq_nn, eq_nl, in_lit, cl_lit, Nat.le_refl, Nat.add_zero, show r1 < r by omega, holG, holI]
  | succ k ih =>
    intro r v hr
    have e := @firstHole_i X M x1 x4 x5 (nI c0) x8 (nI r1) w t r c1 hc1 (by omega) kc c0 hkc
    conv => lhs; rw [iX3_firstHole_69]
    simp (disch := omega) only [iX3_firstHole_71, iX3_firstHole_73, iX3_firstHole_76, iX3_firstHole_78, true_or, or_true, Option.bind_some, Option.bind_none, kk_hp, kn_hp, el_i, el_b, el_z, am_cat_nil, am_cat_i, am_cat_r, am_cat_l, am_cat_n, gd_i, gd_r, gd_n, gd_u, List.length_cons, List.length_nil, true_and, and_true, ↓reduceIte, Nat.zero_le, Nat.reduceLeDiff, Nat.reduceAdd, e_10, e_01, e_00, e_11, Int32.reduceLE, Int32.reduceLT, Int32.reduceAdd, Int32.reduceSub, b01, if_true, if_false, ite_self, nl_add, nl_add', nl_mul, nI_add, in_t, cl_n, le_nn, lt_nn, le_ln, le_nl, lt_nl, lt_ln, eq_nn, eq_nl, in_lit, cl_lit, Nat.le_refl, Nat.add_zero, show ¬ r1 < r by omega]
    rw [e, holG]
    cases hf : fst (hitC (M 63) w t r) c0 kc with
    | some c => rfl
    | none =>
      simp (disch := omega) only [iX3_firstHole_115, iX3_firstHole_118, true_or, or_true, Option.bind_some, Option.bind_none, kk_hp, kn_hp, el_i, el_b, el_z, am_cat_nil, am_cat_i, am_cat_r, am_cat_l, am_cat_n, gd_i, gd_r, gd_n, gd_u, List.length_cons, List.length_nil, true_and, and_true, ↓reduceIte, Nat.zero_le, Nat.reduceLeDiff, Nat.reduceAdd, e_10, e_01, e_00, e_11, Int32.reduceLE, Int32.reduceLT, Int32.reduceAdd, Int32.reduceSub, b01, if_true, if_false, ite_self, nl_add, nl_add', nl_mul, nI_add, in_t, cl_n, le_nn, lt_nn, le_ln, le_nl, lt_nl, lt_ln, eq_nn, eq_nl, in_lit, cl_lit, Nat.le_refl, Nat.add_zero]
      exact ih (r + 1) _ (by omega)
end S36
