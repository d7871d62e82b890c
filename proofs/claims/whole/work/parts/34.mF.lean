/-! the reference places, iii: one item, all items -/
def nC (s : Nat → Int32) : Nat := (s 0).toNatClampNeg
def mI (s : Nat → Int32) : Nat := (s 25).toNatClampNeg
def wI (s : Nat → Int32) (i : Nat) : Nat := (s (26 + 6 * i)).toNatClampNeg
def tI (s : Nat → Int32) (i : Nat) : Nat := (s (26 + 6 * i + 1)).toNatClampNeg
def pC (s : Nat → Int32) (i : Nat) : Nat := (s (26 + 6 * i + 4)).toNatClampNeg
def pR (s : Nat → Int32) (i : Nat) : Nat := (s (26 + 6 * i + 5)).toNatClampNeg
/-- an item that stands in the grid -/
def itm (s : Nat → Int32) (i : Nat) : Prop :=
  (s (26 + 6 * i) = nI (wI s i) ∧ 1 ≤ wI s i ∧ wI s i ≤ nC s) ∧ (s (26 + 6 * i + 1) = nI (tI s i) ∧ 1 ≤ tI s i ∧ tI s i ≤ 4) ∧
  (s (26 + 6 * i + 4) = -4 ∨ s (26 + 6 * i + 4) = nI (pC s i) ∧ pC s i + wI s i ≤ nC s) ∧
  (s (26 + 6 * i + 5) = -4 ∨ s (26 + 6 * i + 5) = nI (pR s i) ∧ pR s i + tI s i ≤ 12)
/-- a grid as every call leaves it -/
def wf (s : Nat → Int32) : Prop :=
  (s 0 = nI (nC s) ∧ nC s ≤ 6) ∧ (s 25 = nI (mI s) ∧ mI s ≤ 10) ∧ (∀ i, i < mI s → itm s i) ∧
  (∀ c, c < nC s → s (5 + c) = 2 → ∃ k, 1 ≤ k ∧ k ≤ 9 ∧ s (11 + c) = nI k)
/-- the hole of an item -/
def hoI (s T : Nat → Int32) (i : Nat) : Option (Nat × Nat) :=
  hol T (nC s) (wI s i) (tI s i) (if s (26 + 6 * i + 4) = -4 then 0 else pC s i) (if s (26 + 6 * i + 4) = -4 then 6 else 1)
    (if s (26 + 6 * i + 5) = -4 then 0 else pR s i) (if s (26 + 6 * i + 5) = -4 then 12 else 1)
theorem fst_p {p : Nat → Bool} {a k c : Nat} (h : fst p a k = some c) : p c = true := by
  induction k generalizing a with
  | zero => simp [fst] at h
  | succ k ih =>
    rw [fst] at h
    split at h
    · rename_i hp; injection h with h; rw [← h]; exact hp
    · exact ih h
theorem hol_p {T : Nat → Int32} {n w t c0 kc r k : Nat} {q : Nat × Nat} (h : hol T n w t c0 kc r k = some q) : q.2 + w ≤ n ∧ q.1 + t ≤ 12 ∧ fre T q.2 q.1 w t = true := by
  induction k generalizing r with
  | zero => simp [hol] at h
  | succ k ih =>
    rw [hol] at h
    cases hf : fst (hit T n w t r) c0 kc with
    | none => rw [hf] at h; exact ih h
    | some c =>
      rw [hf] at h
      injection h with h
      rw [← h]
      have := fst_p hf
      unfold hit at this
      rw [Bool.and_eq_true] at this
      have h2 := of_decide_eq_true this.1
      exact ⟨h2.1, h2.2, this.2⟩
theorem dec_rc {r c : Nat} (hr : r < 13) (hc : c < 7) : nI (100 * r + c) / 100 = nI r ∧ nI (100 * r + c) - nI (100 * r + c) / 100 * 100 = nI c ∧ nI (100 * r + c) ≠ -4 := by
  have : ∀ r, r < 13 → ∀ c, c < 7 → nI (100 * r + c) / 100 = nI r ∧ nI (100 * r + c) - nI (100 * r + c) / 100 * 100 = nI c ∧ nI (100 * r + c) ≠ -4 := by decide +kernel
  exact this r hr c hc
def skM (M : Nat → Nat → Int32) (i : Nat) : Nat → Nat → Int32 :=
  match hoI (M 83) (M 89) i with
  | none => up (up M 90 i (-4)) 91 i (-4)
  | some q => up (up (up (ua M 89 (fiB (M 89) (nI i) q.2 q.1 (wI (M 83) i) (tI (M 83) i))) 90 i (nI q.2)) 91 i (nI q.1)) 82 16 (if nI (q.1 + tI (M 83) i) ≤ M 82 16 then M 82 16 else nI (q.1 + tI (M 83) i))
theorem up_up2 (M : Nat → Nat → Int32) (a j : Nat) (x y : Int32) : up (up M a j x) a j y = up M a j y := by
  rw [up_ua, up_ua M, ua_s, up_ua M, up_up]
  congr 1
  funext k
  by_cases h : k = j
  · subst h; rw [pk_us, pk_us]
  · rw [pk_un h, pk_un h, pk_un h]
theorem up_cm (M : Nat → Nat → Int32) {a b : Nat} (i j : Nat) (x y : Int32) (h : a ≠ b) : up (up M a i x) b j y = up (up M b j y) a i x := by
  funext c
  by_cases h1 : c = a
  · subst h1; rw [up_n _ _ _ h, up_s, up_s, up_n _ _ _ h]
  · by_cases h2 : c = b
    · subst h2; rw [up_s, up_n _ _ _ h1, up_n _ _ _ h1, up_s]
    · rw [up_n _ _ _ h2, up_n _ _ _ h1, up_n _ _ _ h1, up_n _ _ _ h2]
theorem ua_cm (M : Nat → Nat → Int32) {a b : Nat} (f : Nat → Int32) (j : Nat) (y : Int32) (h : a ≠ b) : ua (up M b j y) a f = up (ua M a f) b j y := by
  funext c
  by_cases h1 : c = a
  · subst h1; rw [ua_s, up_n _ _ _ h, ua_s]
  · by_cases h2 : c = b
    · subst h2; rw [ua_n _ _ h1, up_s, up_s, ua_n _ _ h1]
    · rw [ua_n _ _ h1, up_n _ _ _ h2, up_n _ _ _ h2, ua_n _ _ h1]
section S34
variable {X : am_X} {M : Nat → Nat → Int32}
theorem M_seeks {i : Nat} (hwf : wf (M 83)) (hi : i < mI (M 83)) : am_ev X kX9_seeks 0 [.ref 82, .int (nI i), am_u, am_u, am_u] [] (hp M) = some (none, hp (skM M i)) := by
  obtain ⟨⟨h0, hn⟩, ⟨h25, hm⟩, hit, -⟩ := hwf
  obtain ⟨⟨hw, hw1, hwn⟩, ⟨ht, ht1, ht4⟩, hpc, hpr⟩ := hit i hi
  have e : am_ev X kX9_seeks 0 [.ref 82, .int (nI i), am_u, am_u, am_u] [] (hp M) = am_ev X kX9_seeks 75 [.ref 82, .int (nI i), .int (M 83 (26 + 6 * i + 4)), .int (M 83 (26 + 6 * i + 5)), am_u] [.int (holI (hoI (M 83) (M 89) i))] (hp M) := by
    unfold hoI
    rcases hpc with hpc | ⟨hpc, hpc2⟩ <;> rcases hpr with hpr | ⟨hpr, hpr2⟩
    · have e := @M_holeIn X M 0 5 0 11 (wI (M 83) i) (tI (M 83) i) (nC (M 83)) 6 12 hn h0 (by omega) (by omega) (by omega) rfl (by omega) rfl
      simp only [show nI 0 = (0 : Int32) from rfl, show nI 5 = (5 : Int32) from rfl, show nI 11 = (11 : Int32) from rfl] at e
      simp (disch := omega) only [iX9_seeks_0, iX9_seeks_1, iX9_seeks_2, iX9_seeks_3, iX9_seeks_6, iX9_seeks_7, iX9_seeks_8, iX9_seeks_9, iX9_seeks_10, iX9_seeks_13, iX9_seeks_14, iX9_seeks_15, iX9_seeks_16, iX9_seeks_18, iX9_seeks_21, iX9_seeks_22, iX9_seeks_25, iX9_seeks_26, iX9_seeks_27, iX9_seeks_29, iX9_seeks_32, iX9_seeks_33, iX9_seeks_36, iX9_seeks_37, iX9_seeks_38, iX9_seeks_40, iX9_seeks_43, iX9_seeks_44, iX9_seeks_47, iX9_seeks_48, iX9_seeks_49, iX9_seeks_51, iX9_seeks_54, iX9_seeks_56, iX9_seeks_59, iX9_seeks_60, iX9_seeks_61, iX9_seeks_62, iX9_seeks_63, iX9_seeks_66, iX9_seeks_67, iX9_seeks_68, iX9_seeks_69, iX9_seeks_72, true_or, or_true, Option.bind_some, Option.bind_none, kk_hp, kn_hp, el_i, el_b, el_z, am_cat_nil, am_cat_i, am_cat_r, am_cat_l, am_cat_n, gd_i, gd_r, gd_n, gd_u, List.length_cons, List.length_nil, true_and, and_true, ↓reduceIte, Nat.zero_le, Nat.reduceLeDiff, Nat.reduceAdd, e_10, e_01, e_00, e_11, Int32.reduceLE, Int32.reduceLT, Int32.reduceAdd, Int32.reduceSub, b01, if_true, if_false, ite_self, rc_82, gf_82_0, gf_82_1, gf_82_2, gf_82_3, gf_82_4, gf_82_5, gf_82_6, pf_82_6, gf_82_7, pf_82_7, gf_82_8, pf_82_8, gf_82_9, pf_82_9, gf_82_10, pf_82_10, gf_82_11, pf_82_11, gf_82_12, pf_82_12, gf_82_13, gf_82_14, gf_82_15, gf_82_16, pf_82_16, gf_82_17, gf_82_18, gf_82_19, gf_82_20, gf_82_21, gf_82_22, gf_82_23, gf_82_24, gf_82_25, pf_82_25, ga_83, wi_83, ga_84, wi_84, ga_85, wb_85, ga_86, wi_86, ga_87, wb_87, ga_88, wi_88, ga_89, wi_89, ga_90, wi_90, ga_91, wi_91, ga_92, wi_92, ga_93, wi_93, ga_94, wi_94, ga_95, wi_95, ga_96, wb_96, ga_97, wi_97, ga_98, wi_98, ga_99, wi_99, nl_add, nl_add', nl_mul, nI_add, in_t, cl_n, le_nn, lt_nn, le_ln, le_nl, lt_nl, lt_ln, eq_nn, eq_nl, in_lit, cl_lit, Nat.le_refl, Nat.add_zero, M_of0, M_of1, M_of4, M_of5, hpc, hpr, hw, ht, e]
    · have e := @M_holeIn X M 0 5 (pR (M 83) i) (pR (M 83) i) (wI (M 83) i) (tI (M 83) i) (nC (M 83)) 6 1 hn h0 (by omega) (by omega) (by omega) rfl (by omega) rfl
      simp only [show nI 0 = (0 : Int32) from rfl, show nI 5 = (5 : Int32) from rfl] at e
      simp (disch := omega) only [iX9_seeks_0, iX9_seeks_1, iX9_seeks_2, iX9_seeks_3, iX9_seeks_6, iX9_seeks_7, iX9_seeks_8, iX9_seeks_9, iX9_seeks_10, iX9_seeks_13, iX9_seeks_14, iX9_seeks_15, iX9_seeks_16, iX9_seeks_18, iX9_seeks_21, iX9_seeks_22, iX9_seeks_25, iX9_seeks_26, iX9_seeks_27, iX9_seeks_29, iX9_seeks_32, iX9_seeks_33, iX9_seeks_36, iX9_seeks_37, iX9_seeks_38, iX9_seeks_40, iX9_seeks_43, iX9_seeks_44, iX9_seeks_47, iX9_seeks_48, iX9_seeks_49, iX9_seeks_51, iX9_seeks_54, iX9_seeks_56, iX9_seeks_59, iX9_seeks_60, iX9_seeks_61, iX9_seeks_62, iX9_seeks_63, iX9_seeks_66, iX9_seeks_67, iX9_seeks_68, iX9_seeks_69, iX9_seeks_72, true_or, or_true, Option.bind_some, Option.bind_none, kk_hp, kn_hp, el_i, el_b, el_z, am_cat_nil, am_cat_i, am_cat_r, am_cat_l, am_cat_n, gd_i, gd_r, gd_n, gd_u, List.length_cons, List.length_nil, true_and, and_true, ↓reduceIte, Nat.zero_le, Nat.reduceLeDiff, Nat.reduceAdd, e_10, e_01, e_00, e_11, Int32.reduceLE, Int32.reduceLT, Int32.reduceAdd, Int32.reduceSub, b01, if_true, if_false, ite_self, rc_82, gf_82_0, gf_82_1, gf_82_2, gf_82_3, gf_82_4, gf_82_5, gf_82_6, pf_82_6, gf_82_7, pf_82_7, gf_82_8, pf_82_8, gf_82_9, pf_82_9, gf_82_10, pf_82_10, gf_82_11, pf_82_11, gf_82_12, pf_82_12, gf_82_13, gf_82_14, gf_82_15, gf_82_16, pf_82_16, gf_82_17, gf_82_18, gf_82_19, gf_82_20, gf_82_21, gf_82_22, gf_82_23, gf_82_24, gf_82_25, pf_82_25, ga_83, wi_83, ga_84, wi_84, ga_85, wb_85, ga_86, wi_86, ga_87, wb_87, ga_88, wi_88, ga_89, wi_89, ga_90, wi_90, ga_91, wi_91, ga_92, wi_92, ga_93, wi_93, ga_94, wi_94, ga_95, wi_95, ga_96, wb_96, ga_97, wi_97, ga_98, wi_98, ga_99, wi_99, nl_add, nl_add', nl_mul, nI_add, in_t, cl_n, le_nn, lt_nn, le_ln, le_nl, lt_nl, lt_ln, eq_nn, eq_nl, in_lit, cl_lit, Nat.le_refl, Nat.add_zero, M_of0, M_of1, M_of4, M_of5, hpc, hpr, hw, ht, e, ne_m4]
    · have e := @M_holeIn X M (pC (M 83) i) (pC (M 83) i) 0 11 (wI (M 83) i) (tI (M 83) i) (nC (M 83)) 1 12 hn h0 (by omega) (by omega) (by omega) rfl (by omega) rfl
      simp only [show nI 0 = (0 : Int32) from rfl, show nI 11 = (11 : Int32) from rfl] at e
      simp (disch := omega) only [iX9_seeks_0, iX9_seeks_1, iX9_seeks_2, iX9_seeks_3, iX9_seeks_6, iX9_seeks_7, iX9_seeks_8, iX9_seeks_9, iX9_seeks_10, iX9_seeks_13, iX9_seeks_14, iX9_seeks_15, iX9_seeks_16, iX9_seeks_18, iX9_seeks_21, iX9_seeks_22, iX9_seeks_25, iX9_seeks_26, iX9_seeks_27, iX9_seeks_29, iX9_seeks_32, iX9_seeks_33, iX9_seeks_36, iX9_seeks_37, iX9_seeks_38, iX9_seeks_40, iX9_seeks_43, iX9_seeks_44, iX9_seeks_47, iX9_seeks_48, iX9_seeks_49, iX9_seeks_51, iX9_seeks_54, iX9_seeks_56, iX9_seeks_59, iX9_seeks_60, iX9_seeks_61, iX9_seeks_62, iX9_seeks_63, iX9_seeks_66, iX9_seeks_67, iX9_seeks_68, iX9_seeks_69, iX9_seeks_72, true_or, or_true, Option.bind_some, Option.bind_none, kk_hp, kn_hp, el_i, el_b, el_z, am_cat_nil, am_cat_i, am_cat_r, am_cat_l, am_cat_n, gd_i, gd_r, gd_n, gd_u, List.length_cons, List.length_nil, true_and, and_true, ↓reduceIte, Nat.zero_le, Nat.reduceLeDiff, Nat.reduceAdd, e_10, e_01, e_00, e_11, Int32.reduceLE, Int32.reduceLT, Int32.reduceAdd, Int32.reduceSub, b01, if_true, if_false, ite_self, rc_82, gf_82_0, gf_82_1, gf_82_2, gf_82_3, gf_82_4, gf_82_5, gf_82_6, pf_82_6, gf_82_7, pf_82_7, gf_82_8, pf_82_8, gf_82_9, pf_82_9, gf_82_10, pf_82_10, gf_82_11, pf_82_11, gf_82_12, pf_82_12, gf_82_13, gf_82_14, gf_82_15, gf_82_16, pf_82_16, gf_82_17, gf_82_18, gf_82_19, gf_82_20, gf_82_21, gf_82_22, gf_82_23, gf_82_24, gf_82_25, pf_82_25, ga_83, wi_83, ga_84, wi_84, ga_85, wb_85, ga_86, wi_86, ga_87, wb_87, ga_88, wi_88, ga_89, wi_89, ga_90, wi_90, ga_91, wi_91, ga_92, wi_92, ga_93, wi_93, ga_94, wi_94, ga_95, wi_95, ga_96, wb_96, ga_97, wi_97, ga_98, wi_98, ga_99, wi_99, nl_add, nl_add', nl_mul, nI_add, in_t, cl_n, le_nn, lt_nn, le_ln, le_nl, lt_nl, lt_ln, eq_nn, eq_nl, in_lit, cl_lit, Nat.le_refl, Nat.add_zero, M_of0, M_of1, M_of4, M_of5, hpc, hpr, hw, ht, e, ne_m4]
    · have e := @M_holeIn X M (pC (M 83) i) (pC (M 83) i) (pR (M 83) i) (pR (M 83) i) (wI (M 83) i) (tI (M 83) i) (nC (M 83)) 1 1 hn h0 (by omega) (by omega) (by omega) rfl (by omega) rfl
      simp (disch := omega) only [iX9_seeks_0, iX9_seeks_1, iX9_seeks_2, iX9_seeks_3, iX9_seeks_6, iX9_seeks_7, iX9_seeks_8, iX9_seeks_9, iX9_seeks_10, iX9_seeks_13, iX9_seeks_14, iX9_seeks_15, iX9_seeks_16, iX9_seeks_18, iX9_seeks_21, iX9_seeks_22, iX9_seeks_25, iX9_seeks_26, iX9_seeks_27, iX9_seeks_29, iX9_seeks_32, iX9_seeks_33, iX9_seeks_36, iX9_seeks_37, iX9_seeks_38, iX9_seeks_40, iX9_seeks_43, iX9_seeks_44, iX9_seeks_47, iX9_seeks_48, iX9_seeks_49, iX9_seeks_51, iX9_seeks_54, iX9_seeks_56, iX9_seeks_59, iX9_seeks_60, iX9_seeks_61, iX9_seeks_62, iX9_seeks_63, iX9_seeks_66, iX9_seeks_67, iX9_seeks_68, iX9_seeks_69, iX9_seeks_72, true_or, or_true, Option.bind_some, Option.bind_none, kk_hp, kn_hp, el_i, el_b, el_z, am_cat_nil, am_cat_i, am_cat_r, am_cat_l, am_cat_n, gd_i, gd_r, gd_n, gd_u, List.length_cons, List.length_nil, true_and, and_true, ↓reduceIte, Nat.zero_le, Nat.reduceLeDiff, Nat.reduceAdd, e_10, e_01, e_00, e_11, Int32.reduceLE, Int32.reduceLT, Int32.reduceAdd, Int32.reduceSub, b01, if_true, if_false, ite_self, rc_82, gf_82_0, gf_82_1, gf_82_2, gf_82_3, gf_82_4, gf_82_5, gf_82_6, pf_82_6, gf_82_7, pf_82_7, gf_82_8, pf_82_8, gf_82_9, pf_82_9, gf_82_10, pf_82_10, gf_82_11, pf_82_11, gf_82_12, pf_82_12, gf_82_13, gf_82_14, gf_82_15, gf_82_16, pf_82_16, gf_82_17, gf_82_18, gf_82_19, gf_82_20, gf_82_21, gf_82_22, gf_82_23, gf_82_24, gf_82_25, pf_82_25, ga_83, wi_83, ga_84, wi_84, ga_85, wb_85, ga_86, wi_86, ga_87, wb_87, ga_88, wi_88, ga_89, wi_89, ga_90, wi_90, ga_91, wi_91, ga_92, wi_92, ga_93, wi_93, ga_94, wi_94, ga_95, wi_95, ga_96, wb_96, ga_97, wi_97, ga_98, wi_98, ga_99, wi_99, nl_add, nl_add', nl_mul, nI_add, in_t, cl_n, le_nn, lt_nn, le_ln, le_nl, lt_nl, lt_ln, eq_nn, eq_nl, in_lit, cl_lit, Nat.le_refl, Nat.add_zero, M_of0, M_of1, M_of4, M_of5, hpc, hpr, hw, ht, e, ne_m4]
  rw [e]
  unfold skM
  cases hh : hoI (M 83) (M 89) i with
  | none => simp (disch := omega) only [iX9_seeks_75, iX9_seeks_77, iX9_seeks_78, iX9_seeks_81, iX9_seeks_82, iX9_seeks_84, iX9_seeks_85, iX9_seeks_86, iX9_seeks_89, iX9_seeks_90, iX9_seeks_92, iX9_seeks_93, iX9_seeks_95, iX9_seeks_97, iX9_seeks_100, iX9_seeks_101, iX9_seeks_102, iX9_seeks_104, iX9_seeks_106, iX9_seeks_107, iX9_seeks_109, iX9_seeks_111, iX9_seeks_112, iX9_seeks_113, iX9_seeks_114, iX9_seeks_115, iX9_seeks_118, iX9_seeks_119, iX9_seeks_120, iX9_seeks_121, iX9_seeks_124, iX9_seeks_127, true_or, or_true, Option.bind_some, Option.bind_none, kk_hp, kn_hp, el_i, el_b, el_z, am_cat_nil, am_cat_i, am_cat_r, am_cat_l, am_cat_n, gd_i, gd_r, gd_n, gd_u, List.length_cons, List.length_nil, true_and, and_true, ↓reduceIte, Nat.zero_le, Nat.reduceLeDiff, Nat.reduceAdd, e_10, e_01, e_00, e_11, Int32.reduceLE, Int32.reduceLT, Int32.reduceAdd, Int32.reduceSub, b01, if_true, if_false, ite_self, rc_82, gf_82_0, gf_82_1, gf_82_2, gf_82_3, gf_82_4, gf_82_5, gf_82_6, pf_82_6, gf_82_7, pf_82_7, gf_82_8, pf_82_8, gf_82_9, pf_82_9, gf_82_10, pf_82_10, gf_82_11, pf_82_11, gf_82_12, pf_82_12, gf_82_13, gf_82_14, gf_82_15, gf_82_16, pf_82_16, gf_82_17, gf_82_18, gf_82_19, gf_82_20, gf_82_21, gf_82_22, gf_82_23, gf_82_24, gf_82_25, pf_82_25, ga_83, wi_83, ga_84, wi_84, ga_85, wb_85, ga_86, wi_86, ga_87, wb_87, ga_88, wi_88, ga_89, wi_89, ga_90, wi_90, ga_91, wi_91, ga_92, wi_92, ga_93, wi_93, ga_94, wi_94, ga_95, wi_95, ga_96, wb_96, ga_97, wi_97, ga_98, wi_98, ga_99, wi_99, nl_add, nl_add', nl_mul, nI_add, in_t, cl_n, le_nn, lt_nn, le_ln, le_nl, lt_nl, lt_ln, eq_nn, eq_nl, in_lit, cl_lit, Nat.le_refl, Nat.add_zero, holI]
  | some q =>
    obtain ⟨q1, q2, q3⟩ := hol_p hh
    obtain ⟨r, c⟩ := q
    dsimp only at q1 q2
    obtain ⟨d1, d2, d3⟩ := @dec_rc r c (by omega) (by omega)
    rw [d1] at d2
    have d4 : ¬ ((100 : Int32) = 0) := by decide
    have e2 := @M_stands X (up (up M 90 i (-4)) 91 i (-4)) i c r (wI (M 83) i) (tI (M 83) i) (by omega) (by omega) q2
    have w1 : (up (up M 90 i (-4)) 91 i (-4)) 83 (26 + 6 * i) = nI (wI (M 83) i) := hw
    have w2 : (up (up M 90 i (-4)) 91 i (-4)) 83 (26 + 6 * i + 1) = nI (tI (M 83) i) := ht
    simp (disch := omega) only [iX9_seeks_75, iX9_seeks_77, iX9_seeks_78, iX9_seeks_81, iX9_seeks_82, iX9_seeks_84, iX9_seeks_85, iX9_seeks_86, iX9_seeks_89, iX9_seeks_90, iX9_seeks_92, iX9_seeks_93, iX9_seeks_95, iX9_seeks_97, iX9_seeks_100, iX9_seeks_101, iX9_seeks_102, iX9_seeks_104, iX9_seeks_106, iX9_seeks_107, iX9_seeks_109, iX9_seeks_111, iX9_seeks_112, iX9_seeks_113, iX9_seeks_114, iX9_seeks_115, iX9_seeks_118, iX9_seeks_119, iX9_seeks_120, iX9_seeks_121, iX9_seeks_124, iX9_seeks_127, true_or, or_true, Option.bind_some, Option.bind_none, kk_hp, kn_hp, el_i, el_b, el_z, am_cat_nil, am_cat_i, am_cat_r, am_cat_l, am_cat_n, gd_i, gd_r, gd_n, gd_u, List.length_cons, List.length_nil, true_and, and_true, ↓reduceIte, Nat.zero_le, Nat.reduceLeDiff, Nat.reduceAdd, e_10, e_01, e_00, e_11, Int32.reduceLE, Int32.reduceLT, Int32.reduceAdd, Int32.reduceSub, b01, if_true, if_false, ite_self, rc_82, gf_82_0, gf_82_1, gf_82_2, gf_82_3, gf_82_4, gf_82_5, gf_82_6, pf_82_6, gf_82_7, pf_82_7, gf_82_8, pf_82_8, gf_82_9, pf_82_9, gf_82_10, pf_82_10, gf_82_11, pf_82_11, gf_82_12, pf_82_12, gf_82_13, gf_82_14, gf_82_15, gf_82_16, pf_82_16, gf_82_17, gf_82_18, gf_82_19, gf_82_20, gf_82_21, gf_82_22, gf_82_23, gf_82_24, gf_82_25, pf_82_25, ga_83, wi_83, ga_84, wi_84, ga_85, wb_85, ga_86, wi_86, ga_87, wb_87, ga_88, wi_88, ga_89, wi_89, ga_90, wi_90, ga_91, wi_91, ga_92, wi_92, ga_93, wi_93, ga_94, wi_94, ga_95, wi_95, ga_96, wb_96, ga_97, wi_97, ga_98, wi_98, ga_99, wi_99, nl_add, nl_add', nl_mul, nI_add, in_t, cl_n, le_nn, lt_nn, le_ln, le_nl, lt_nl, lt_ln, eq_nn, eq_nl, in_lit, cl_lit, Nat.le_refl, Nat.add_zero, holI, d1, d2, d3, d4, M_of0, M_of1, w1, w2, e2]
    congr 3
    rw [ua_cm _ _ _ _ (show 89 ≠ 91 by decide), ua_cm _ _ _ _ (show 89 ≠ 90 by decide), up_n _ _ _ (show 89 ≠ 91 by decide), up_n _ _ _ (show 89 ≠ 90 by decide), up_cm _ _ _ _ _ (show 91 ≠ 90 by decide), up_up2, up_up2]
    rfl
end S34
