/-! numbers and stops, both -/
def nO (n : Nat) (b : Nat → Nat) (p : Nat) (lo hi : Int32) : Option Int32 := if tK n b p = 4 then some 1 else if tK n b p ≠ 2 then some 2 else if lo ≤ tV n b p ∧ tV n b p ≤ hi then none else some 3
def sO (n : Nat) (b : Nat → Nat) (p : Nat) : Option Int32 := if tK n b p = 4 then some 1 else if tK n b p ≠ 3 then some 2 else none
theorem nO_n {n p : Nat} {b : Nat → Nat} {lo hi : Int32} (h : nO n b p lo hi = none) : tK n b p = 2 ∧ lo ≤ tV n b p ∧ tV n b p ≤ hi := by
  unfold nO at h
  by_cases h4 : tK n b p = 4
  · rw [if_pos h4] at h; exact absurd h (by simp)
  · rw [if_neg h4] at h
    by_cases h2 : tK n b p ≠ 2
    · rw [if_pos h2] at h; exact absurd h (by simp)
    · rw [if_neg h2] at h
      by_cases hr : lo ≤ tV n b p ∧ tV n b p ≤ hi
      · exact ⟨Decidable.byContradiction h2, hr⟩
      · rw [if_neg hr] at h; exact absurd h (by simp)
theorem sO_n {n p : Nat} {b : Nat → Nat} (h : sO n b p = none) : tK n b p = 3 := by
  unfold sO at h
  by_cases h4 : tK n b p = 4
  · rw [if_pos h4] at h; exact absurd h (by simp)
  · rw [if_neg h4] at h
    by_cases h2 : tK n b p ≠ 3
    · rw [if_pos h2] at h; exact absurd h (by simp)
    · exact Decidable.byContradiction h2
theorem nO_p {n p : Nat} {b : Nat → Nat} {lo hi c : Int32} (h : nO n b p lo hi = some c) : 0 < c := by
  unfold nO at h
  split at h
  · injection h with h; rw [← h]; decide
  · split at h
    · injection h with h; rw [← h]; decide
    · split at h
      · exact absurd h (by simp)
      · injection h with h; rw [← h]; decide
theorem sO_p {n p : Nat} {b : Nat → Nat} {c : Int32} (h : sO n b p = some c) : 0 < c := by
  unfold sO at h
  split at h
  · injection h with h; rw [← h]; decide
  · split at h
    · injection h with h; rw [← h]; decide
    · exact absurd h (by simp)
/-- what a step of the class leaves: c the fault, q its place -/
def cF (M' : Nat → Nat → Int32) (c : Int32) (q : Nat) : Prop := M' 12 2 = c ∧ M' 12 3 = nI q
section S92
variable {X : am_X} {M : Nat → Nat → Int32}
theorem C_refuse {c : Int32} : am_ev X kX6_refuse 0 [.ref 12, .int c] [] (hp M) = some (some (.int 0), hp (up (up M 12 2 c) 12 3 (M 13 3))) := by
  have e : ∀ x, (up M 12 2 x) 13 3 = M 13 3 := fun x => rfl
  simp (disch := omega) only [iX6_refuse_0, iX6_refuse_1, iX6_refuse_2, iX6_refuse_5, iX6_refuse_6, iX6_refuse_7, iX6_refuse_10, iX6_refuse_13, iX6_refuse_16, iX6_refuse_17, true_or, or_true, Option.bind_some, Option.bind_none, kk_hp, kn_hp, el_i, el_b, el_z, am_cat_nil, am_cat_i, am_cat_r, am_cat_l, am_cat_n, gd_i, gd_r, gd_n, gd_u, List.length_cons, List.length_nil, true_and, and_true, ↓reduceIte, Nat.zero_le, Nat.reduceLeDiff, Nat.reduceAdd, e_10, e_01, e_00, e_11, Int32.reduceLE, Int32.reduceLT, Int32.reduceAdd, Int32.reduceSub, b01, if_true, if_false, ite_self, rc_12, gf_12_0, gf_12_1, gf_12_2, pf_12_2, gf_12_3, pf_12_3, gf_12_4, pf_12_4, gf_12_5, pf_12_5, gf_12_6, pf_12_6, gf_12_7, pf_12_7, rc_13, gf_13_0, gf_13_1, pf_13_1, gf_13_2, pf_13_2, gf_13_3, pf_13_3, gf_13_4, pf_13_4, gf_13_5, pf_13_5, e]
theorem C_refuseToken : am_ev X kX6_refuseToken 0 [.ref 12] [] (hp M) = some (some (.int 0), hp (up (up M 12 2 (if M 13 2 = 4 then 1 else 2)) 12 3 (M 13 3))) := by
  have e : ∀ x, (up M 12 2 x) 13 3 = M 13 3 := fun x => rfl
  by_cases h : M 13 2 = 4
  · simp (disch := omega) only [iX6_refuseToken_0, iX6_refuseToken_1, iX6_refuseToken_2, iX6_refuseToken_5, iX6_refuseToken_8, iX6_refuseToken_9, iX6_refuseToken_12, iX6_refuseToken_13, iX6_refuseToken_16, iX6_refuseToken_17, iX6_refuseToken_20, iX6_refuseToken_21, iX6_refuseToken_22, iX6_refuseToken_25, iX6_refuseToken_28, iX6_refuseToken_31, iX6_refuseToken_32, true_or, or_true, Option.bind_some, Option.bind_none, kk_hp, kn_hp, el_i, el_b, el_z, am_cat_nil, am_cat_i, am_cat_r, am_cat_l, am_cat_n, gd_i, gd_r, gd_n, gd_u, List.length_cons, List.length_nil, true_and, and_true, ↓reduceIte, Nat.zero_le, Nat.reduceLeDiff, Nat.reduceAdd, e_10, e_01, e_00, e_11, Int32.reduceLE, Int32.reduceLT, Int32.reduceAdd, Int32.reduceSub, b01, if_true, if_false, ite_self, rc_12, gf_12_0, gf_12_1, gf_12_2, pf_12_2, gf_12_3, pf_12_3, gf_12_4, pf_12_4, gf_12_5, pf_12_5, gf_12_6, pf_12_6, gf_12_7, pf_12_7, rc_13, gf_13_0, gf_13_1, pf_13_1, gf_13_2, pf_13_2, gf_13_3, pf_13_3, gf_13_4, pf_13_4, gf_13_5, pf_13_5, h, e]
  · simp (disch := omega) only [iX6_refuseToken_0, iX6_refuseToken_1, iX6_refuseToken_2, iX6_refuseToken_5, iX6_refuseToken_8, iX6_refuseToken_9, iX6_refuseToken_12, iX6_refuseToken_13, iX6_refuseToken_16, iX6_refuseToken_17, iX6_refuseToken_20, iX6_refuseToken_21, iX6_refuseToken_22, iX6_refuseToken_25, iX6_refuseToken_28, iX6_refuseToken_31, iX6_refuseToken_32, true_or, or_true, Option.bind_some, Option.bind_none, kk_hp, kn_hp, el_i, el_b, el_z, am_cat_nil, am_cat_i, am_cat_r, am_cat_l, am_cat_n, gd_i, gd_r, gd_n, gd_u, List.length_cons, List.length_nil, true_and, and_true, ↓reduceIte, Nat.zero_le, Nat.reduceLeDiff, Nat.reduceAdd, e_10, e_01, e_00, e_11, Int32.reduceLE, Int32.reduceLT, Int32.reduceAdd, Int32.reduceSub, b01, if_true, if_false, ite_self, rc_12, gf_12_0, gf_12_1, gf_12_2, pf_12_2, gf_12_3, pf_12_3, gf_12_4, pf_12_4, gf_12_5, pf_12_5, gf_12_6, pf_12_6, gf_12_7, pf_12_7, rc_13, gf_13_0, gf_13_1, pf_13_1, gf_13_2, pf_13_2, gf_13_3, pf_13_3, gf_13_4, pf_13_4, gf_13_5, pf_13_5, h, e]
/-- the class's part of a step: tape, draft and told flags stand -/
def cS (M M' : Nat → Nat → Int32) : Prop := ∀ a, a ≠ 12 → a ≠ 13 → M' a = M a
theorem TP_S {M M' : Nat → Nat → Int32} {n : Nat} {b : Nat → Nat} (h : TP M n b) (e : M' 13 1 = nI n) (e14 : M' 14 = M 14) : TP M' n b := ⟨h.1, e, by rw [e14]; exact h.2.2⟩
theorem C_takeNumber {n p : Nat} {b : Nat → Nat} {lo hi : Int32} (ht : TP M n b) (h5 : M 13 5 = nI p) (hpn : p ≤ n) : ∃ M', am_ev X kX6_takeNumber 0 [.ref 12, .int lo, .int hi] [] (hp M) = some (some (.int (if nO n b p lo hi = none then 1 else 0)), hp M') ∧ cS M M' ∧ TP M' n b ∧ CK M' n b p ∧ (nO n b p lo hi = none → M' 12 = M 12) ∧ ∀ c, nO n b p lo hi = some c → cF M' c (tS n b p) := by
  obtain ⟨K, e1, f1, k1, k2, k3, k5, k4⟩ := @C_advance X M n p b ht h5 hpn
  obtain ⟨b1, b2, b3, b4⟩ := @tB_p n p b hpn
  have tK' : TP K n b := TP_S ht k1 (f1 14 (by decide))
  have er := @C_refuseToken X K
  have ef := @C_refuse X K 3
  unfold nO
  by_cases h4 : tK n b p = 4
  · have k2' : K 13 2 = 4 := by rw [k2, h4]; rfl
    rw [k2', if_pos rfl, k3] at er
    rw [if_pos h4]
    refine ⟨up (up K 12 2 1) 12 3 (nI (tS n b p)), ?_, fun a i1 i2 => by rw [up_n _ _ _ i1, up_n _ _ _ i1]; exact f1 a i2, tK', ⟨k2, k3, k5, fun z => by omega⟩, fun z => absurd z (by simp), fun c hc => ?_⟩
    · rw [if_neg (by simp)]
      simp (disch := omega) only [iX6_takeNumber_0, iX6_takeNumber_1, iX6_takeNumber_4, iX6_takeNumber_7, iX6_takeNumber_8, iX6_takeNumber_11, iX6_takeNumber_14, iX6_takeNumber_15, iX6_takeNumber_18, iX6_takeNumber_19, iX6_takeNumber_22, true_or, or_true, Option.bind_some, Option.bind_none, kk_hp, kn_hp, el_i, el_b, el_z, am_cat_nil, am_cat_i, am_cat_r, am_cat_l, am_cat_n, gd_i, gd_r, gd_n, gd_u, List.length_cons, List.length_nil, true_and, and_true, ↓reduceIte, Nat.zero_le, Nat.reduceLeDiff, Nat.reduceAdd, e_10, e_01, e_00, e_11, Int32.reduceLE, Int32.reduceLT, Int32.reduceAdd, Int32.reduceSub, b01, if_true, if_false, ite_self, rc_12, gf_12_0, gf_12_1, gf_12_2, pf_12_2, gf_12_3, pf_12_3, gf_12_4, pf_12_4, gf_12_5, pf_12_5, gf_12_6, pf_12_6, gf_12_7, pf_12_7, rc_13, gf_13_0, gf_13_1, pf_13_1, gf_13_2, pf_13_2, gf_13_3, pf_13_3, gf_13_4, pf_13_4, gf_13_5, pf_13_5, nl_add, nl_add', nl_mul, nI_add, in_t, cl_n, le_nn, lt_nn, le_ln, le_nl, lt_nl, lt_ln, eq_nn, eq_nl, in_lit, cl_lit, Nat.le_refl, Nat.add_zero, e1, k2', show ¬ (4 : Int32) = 2 by decide, er]
    · injection hc with hc; rw [← hc]; exact ⟨rfl, rfl⟩
  · rw [if_neg h4]
    have h4' : ¬ nI (tK n b p) = 4 := fun z => h4 (nI_inj (by omega) (by decide) z)
    rw [k2, if_neg h4', k3] at er
    by_cases h2 : tK n b p ≠ 2
    · rw [if_pos h2]
      have h2' : ¬ nI (tK n b p) = 2 := fun z => h2 (nI_inj (by omega) (by decide) z)
      refine ⟨up (up K 12 2 2) 12 3 (nI (tS n b p)), ?_, fun a i1 i2 => by rw [up_n _ _ _ i1, up_n _ _ _ i1]; exact f1 a i2, tK', ⟨k2, k3, k5, k4⟩, fun z => absurd z (by simp), fun c hc => ?_⟩
      · rw [if_neg (by simp)]
        simp (disch := omega) only [iX6_takeNumber_0, iX6_takeNumber_1, iX6_takeNumber_4, iX6_takeNumber_7, iX6_takeNumber_8, iX6_takeNumber_11, iX6_takeNumber_14, iX6_takeNumber_15, iX6_takeNumber_18, iX6_takeNumber_19, iX6_takeNumber_22, true_or, or_true, Option.bind_some, Option.bind_none, kk_hp, kn_hp, el_i, el_b, el_z, am_cat_nil, am_cat_i, am_cat_r, am_cat_l, am_cat_n, gd_i, gd_r, gd_n, gd_u, List.length_cons, List.length_nil, true_and, and_true, ↓reduceIte, Nat.zero_le, Nat.reduceLeDiff, Nat.reduceAdd, e_10, e_01, e_00, e_11, Int32.reduceLE, Int32.reduceLT, Int32.reduceAdd, Int32.reduceSub, b01, if_true, if_false, ite_self, rc_12, gf_12_0, gf_12_1, gf_12_2, pf_12_2, gf_12_3, pf_12_3, gf_12_4, pf_12_4, gf_12_5, pf_12_5, gf_12_6, pf_12_6, gf_12_7, pf_12_7, rc_13, gf_13_0, gf_13_1, pf_13_1, gf_13_2, pf_13_2, gf_13_3, pf_13_3, gf_13_4, pf_13_4, gf_13_5, pf_13_5, nl_add, nl_add', nl_mul, nI_add, in_t, cl_n, le_nn, lt_nn, le_ln, le_nl, lt_nl, lt_ln, eq_nn, eq_nl, in_lit, cl_lit, Nat.le_refl, Nat.add_zero, e1, k2, h2', h2, er]
      · injection hc with hc; rw [← hc]; exact ⟨rfl, rfl⟩
    · rw [if_neg h2]
      have h2e : tK n b p = 2 := Decidable.byContradiction h2
      have k2' : K 13 2 = 2 := by rw [k2, h2e]; rfl
      have kv := k4 h2e
      have eb := @C_isBetween X K (tV n b p) lo hi
      by_cases hr : lo ≤ tV n b p ∧ tV n b p ≤ hi
      · rw [if_pos hr] at eb ⊢
        refine ⟨K, ?_, fun a i1 i2 => f1 a i2, tK', ⟨k2, k3, k5, k4⟩, fun _ => f1 12 (by decide), fun c hc => absurd hc (by simp)⟩
        rw [if_pos rfl]
        simp (disch := omega) only [iX6_takeNumber_0, iX6_takeNumber_1, iX6_takeNumber_4, iX6_takeNumber_7, iX6_takeNumber_8, iX6_takeNumber_11, iX6_takeNumber_14, iX6_takeNumber_15, iX6_takeNumber_18, iX6_takeNumber_19, iX6_takeNumber_22, iX6_takeNumber_23, iX6_takeNumber_24, iX6_takeNumber_27, iX6_takeNumber_30, iX6_takeNumber_31, iX6_takeNumber_32, iX6_takeNumber_35, iX6_takeNumber_38, iX6_takeNumber_39, iX6_takeNumber_40, iX6_takeNumber_43, iX6_takeNumber_46, iX6_takeNumber_47, iX6_takeNumber_50, iX6_takeNumber_51, true_or, or_true, Option.bind_some, Option.bind_none, kk_hp, kn_hp, el_i, el_b, el_z, am_cat_nil, am_cat_i, am_cat_r, am_cat_l, am_cat_n, gd_i, gd_r, gd_n, gd_u, List.length_cons, List.length_nil, true_and, and_true, ↓reduceIte, Nat.zero_le, Nat.reduceLeDiff, Nat.reduceAdd, e_10, e_01, e_00, e_11, Int32.reduceLE, Int32.reduceLT, Int32.reduceAdd, Int32.reduceSub, b01, if_true, if_false, ite_self, rc_12, gf_12_0, gf_12_1, gf_12_2, pf_12_2, gf_12_3, pf_12_3, gf_12_4, pf_12_4, gf_12_5, pf_12_5, gf_12_6, pf_12_6, gf_12_7, pf_12_7, rc_13, gf_13_0, gf_13_1, pf_13_1, gf_13_2, pf_13_2, gf_13_3, pf_13_3, gf_13_4, pf_13_4, gf_13_5, pf_13_5, nl_add, nl_add', nl_mul, nI_add, in_t, cl_n, le_nn, lt_nn, le_ln, le_nl, lt_nl, lt_ln, eq_nn, eq_nl, in_lit, cl_lit, Nat.le_refl, Nat.add_zero, e1, k2', kv, eb]
      · rw [if_neg hr] at eb ⊢
        rw [k3] at ef
        refine ⟨up (up K 12 2 3) 12 3 (nI (tS n b p)), ?_, fun a i1 i2 => by rw [up_n _ _ _ i1, up_n _ _ _ i1]; exact f1 a i2, tK', ⟨k2, k3, k5, k4⟩, fun z => absurd z (by simp), fun c hc => ?_⟩
        · rw [if_neg (by simp)]
          simp (disch := omega) only [iX6_takeNumber_0, iX6_takeNumber_1, iX6_takeNumber_4, iX6_takeNumber_7, iX6_takeNumber_8, iX6_takeNumber_11, iX6_takeNumber_14, iX6_takeNumber_15, iX6_takeNumber_18, iX6_takeNumber_19, iX6_takeNumber_22, iX6_takeNumber_23, iX6_takeNumber_24, iX6_takeNumber_27, iX6_takeNumber_30, iX6_takeNumber_31, iX6_takeNumber_32, iX6_takeNumber_35, iX6_takeNumber_38, iX6_takeNumber_39, iX6_takeNumber_40, iX6_takeNumber_43, iX6_takeNumber_46, iX6_takeNumber_47, iX6_takeNumber_50, iX6_takeNumber_51, true_or, or_true, Option.bind_some, Option.bind_none, kk_hp, kn_hp, el_i, el_b, el_z, am_cat_nil, am_cat_i, am_cat_r, am_cat_l, am_cat_n, gd_i, gd_r, gd_n, gd_u, List.length_cons, List.length_nil, true_and, and_true, ↓reduceIte, Nat.zero_le, Nat.reduceLeDiff, Nat.reduceAdd, e_10, e_01, e_00, e_11, Int32.reduceLE, Int32.reduceLT, Int32.reduceAdd, Int32.reduceSub, b01, if_true, if_false, ite_self, rc_12, gf_12_0, gf_12_1, gf_12_2, pf_12_2, gf_12_3, pf_12_3, gf_12_4, pf_12_4, gf_12_5, pf_12_5, gf_12_6, pf_12_6, gf_12_7, pf_12_7, rc_13, gf_13_0, gf_13_1, pf_13_1, gf_13_2, pf_13_2, gf_13_3, pf_13_3, gf_13_4, pf_13_4, gf_13_5, pf_13_5, nl_add, nl_add', nl_mul, nI_add, in_t, cl_n, le_nn, lt_nn, le_ln, le_nl, lt_nl, lt_ln, eq_nn, eq_nl, in_lit, cl_lit, Nat.le_refl, Nat.add_zero, e1, k2', kv, eb, ef]
        · injection hc with hc; rw [← hc]; exact ⟨rfl, rfl⟩
theorem C_takeSemicolon {n p : Nat} {b : Nat → Nat} (ht : TP M n b) (h5 : M 13 5 = nI p) (hpn : p ≤ n) : ∃ M', am_ev X kX6_takeSemicolon 0 [.ref 12] [] (hp M) = some (some (.int (if sO n b p = none then 1 else 0)), hp M') ∧ cS M M' ∧ TP M' n b ∧ CK M' n b p ∧ (sO n b p = none → M' 12 = M 12) ∧ ∀ c, sO n b p = some c → cF M' c (tS n b p) := by
  obtain ⟨K, e1, f1, k1, k2, k3, k5, k4⟩ := @C_advance X M n p b ht h5 hpn
  obtain ⟨b1, b2, b3, b4⟩ := @tB_p n p b hpn
  have tK' : TP K n b := TP_S ht k1 (f1 14 (by decide))
  have er := @C_refuseToken X K
  unfold sO
  by_cases h4 : tK n b p = 4
  · have k2' : K 13 2 = 4 := by rw [k2, h4]; rfl
    rw [k2', if_pos rfl, k3] at er
    rw [if_pos h4]
    refine ⟨up (up K 12 2 1) 12 3 (nI (tS n b p)), ?_, fun a i1 i2 => by rw [up_n _ _ _ i1, up_n _ _ _ i1]; exact f1 a i2, tK', ⟨k2, k3, k5, fun z => by omega⟩, fun z => absurd z (by simp), fun c hc => ?_⟩
    · rw [if_neg (by simp)]
      simp (disch := omega) only [iX6_takeSemicolon_0, iX6_takeSemicolon_1, iX6_takeSemicolon_4, iX6_takeSemicolon_7, iX6_takeSemicolon_8, iX6_takeSemicolon_11, iX6_takeSemicolon_14, iX6_takeSemicolon_15, iX6_takeSemicolon_18, iX6_takeSemicolon_19, iX6_takeSemicolon_22, iX6_takeSemicolon_25, iX6_takeSemicolon_26, iX6_takeSemicolon_29, iX6_takeSemicolon_30, true_or, or_true, Option.bind_some, Option.bind_none, kk_hp, kn_hp, el_i, el_b, el_z, am_cat_nil, am_cat_i, am_cat_r, am_cat_l, am_cat_n, gd_i, gd_r, gd_n, gd_u, List.length_cons, List.length_nil, true_and, and_true, ↓reduceIte, Nat.zero_le, Nat.reduceLeDiff, Nat.reduceAdd, e_10, e_01, e_00, e_11, Int32.reduceLE, Int32.reduceLT, Int32.reduceAdd, Int32.reduceSub, b01, if_true, if_false, ite_self, rc_12, gf_12_0, gf_12_1, gf_12_2, pf_12_2, gf_12_3, pf_12_3, gf_12_4, pf_12_4, gf_12_5, pf_12_5, gf_12_6, pf_12_6, gf_12_7, pf_12_7, rc_13, gf_13_0, gf_13_1, pf_13_1, gf_13_2, pf_13_2, gf_13_3, pf_13_3, gf_13_4, pf_13_4, gf_13_5, pf_13_5, nl_add, nl_add', nl_mul, nI_add, in_t, cl_n, le_nn, lt_nn, le_ln, le_nl, lt_nl, lt_ln, eq_nn, eq_nl, in_lit, cl_lit, Nat.le_refl, Nat.add_zero, e1, k2', show ¬ (4 : Int32) = 3 by decide, er]
    · injection hc with hc; rw [← hc]; exact ⟨rfl, rfl⟩
  · rw [if_neg h4]
    have h4' : ¬ nI (tK n b p) = 4 := fun z => h4 (nI_inj (by omega) (by decide) z)
    rw [k2, if_neg h4', k3] at er
    by_cases h2 : tK n b p ≠ 3
    · rw [if_pos h2]
      have h2' : ¬ nI (tK n b p) = 3 := fun z => h2 (nI_inj (by omega) (by decide) z)
      refine ⟨up (up K 12 2 2) 12 3 (nI (tS n b p)), ?_, fun a i1 i2 => by rw [up_n _ _ _ i1, up_n _ _ _ i1]; exact f1 a i2, tK', ⟨k2, k3, k5, k4⟩, fun z => absurd z (by simp), fun c hc => ?_⟩
      · rw [if_neg (by simp)]
        simp (disch := omega) only [iX6_takeSemicolon_0, iX6_takeSemicolon_1, iX6_takeSemicolon_4, iX6_takeSemicolon_7, iX6_takeSemicolon_8, iX6_takeSemicolon_11, iX6_takeSemicolon_14, iX6_takeSemicolon_15, iX6_takeSemicolon_18, iX6_takeSemicolon_19, iX6_takeSemicolon_22, iX6_takeSemicolon_25, iX6_takeSemicolon_26, iX6_takeSemicolon_29, iX6_takeSemicolon_30, true_or, or_true, Option.bind_some, Option.bind_none, kk_hp, kn_hp, el_i, el_b, el_z, am_cat_nil, am_cat_i, am_cat_r, am_cat_l, am_cat_n, gd_i, gd_r, gd_n, gd_u, List.length_cons, List.length_nil, true_and, and_true, ↓reduceIte, Nat.zero_le, Nat.reduceLeDiff, Nat.reduceAdd, e_10, e_01, e_00, e_11, Int32.reduceLE, Int32.reduceLT, Int32.reduceAdd, Int32.reduceSub, b01, if_true, if_false, ite_self, rc_12, gf_12_0, gf_12_1, gf_12_2, pf_12_2, gf_12_3, pf_12_3, gf_12_4, pf_12_4, gf_12_5, pf_12_5, gf_12_6, pf_12_6, gf_12_7, pf_12_7, rc_13, gf_13_0, gf_13_1, pf_13_1, gf_13_2, pf_13_2, gf_13_3, pf_13_3, gf_13_4, pf_13_4, gf_13_5, pf_13_5, nl_add, nl_add', nl_mul, nI_add, in_t, cl_n, le_nn, lt_nn, le_ln, le_nl, lt_nl, lt_ln, eq_nn, eq_nl, in_lit, cl_lit, Nat.le_refl, Nat.add_zero, e1, k2, h2', h2, er]
      · injection hc with hc; rw [← hc]; exact ⟨rfl, rfl⟩
    · rw [if_neg h2]
      have h2e : tK n b p = 3 := Decidable.byContradiction h2
      have k2' : K 13 2 = 3 := by rw [k2, h2e]; rfl
      refine ⟨K, ?_, fun a i1 i2 => f1 a i2, tK', ⟨k2, k3, k5, k4⟩, fun _ => f1 12 (by decide), fun c hc => absurd hc (by simp)⟩
      rw [if_pos rfl]
      simp (disch := omega) only [iX6_takeSemicolon_0, iX6_takeSemicolon_1, iX6_takeSemicolon_4, iX6_takeSemicolon_7, iX6_takeSemicolon_8, iX6_takeSemicolon_11, iX6_takeSemicolon_14, iX6_takeSemicolon_15, iX6_takeSemicolon_18, iX6_takeSemicolon_19, iX6_takeSemicolon_22, iX6_takeSemicolon_25, iX6_takeSemicolon_26, iX6_takeSemicolon_29, iX6_takeSemicolon_30, true_or, or_true, Option.bind_some, Option.bind_none, kk_hp, kn_hp, el_i, el_b, el_z, am_cat_nil, am_cat_i, am_cat_r, am_cat_l, am_cat_n, gd_i, gd_r, gd_n, gd_u, List.length_cons, List.length_nil, true_and, and_true, ↓reduceIte, Nat.zero_le, Nat.reduceLeDiff, Nat.reduceAdd, e_10, e_01, e_00, e_11, Int32.reduceLE, Int32.reduceLT, Int32.reduceAdd, Int32.reduceSub, b01, if_true, if_false, ite_self, rc_12, gf_12_0, gf_12_1, gf_12_2, pf_12_2, gf_12_3, pf_12_3, gf_12_4, pf_12_4, gf_12_5, pf_12_5, gf_12_6, pf_12_6, gf_12_7, pf_12_7, rc_13, gf_13_0, gf_13_1, pf_13_1, gf_13_2, pf_13_2, gf_13_3, pf_13_3, gf_13_4, pf_13_4, gf_13_5, pf_13_5, nl_add, nl_add', nl_mul, nI_add, in_t, cl_n, le_nn, lt_nn, le_ln, le_nl, lt_nl, lt_ln, eq_nn, eq_nl, in_lit, cl_lit, Nat.le_refl, Nat.add_zero, e1, k2']
/-- the reference's part of a step -/
def rS (M M' : Nat → Nat → Int32) : Prop := (∀ a, a ≠ 82 → M' a = M a) ∧ ∀ j, j < 7 ∨ 12 < j → M' 82 j = M 82 j
def rF (M' : Nat → Nat → Int32) (c : Int32) (q : Nat) : Prop := M' 82 11 = c ∧ M' 82 12 = nI q
theorem rS_t {M M1 M2 : Nat → Nat → Int32} (h : rS M M1) (h' : rS M1 M2) : rS M M2 := ⟨fun a ha => (h'.1 a ha).trans (h.1 a ha), fun j hj => (h'.2 j hj).trans (h.2 j hj)⟩
theorem TQ_S {M M' : Nat → Nat → Int32} {n : Nat} {b : Nat → Nat} (h : TQ M n b) (e : rS M M') : TQ M' n b := TQ_fr h (e.2 6 (by decide)) (e.1 88 (by decide))
theorem M_readNumberF {lo hi : Int32} (h : 0 < M 82 11) : am_ev X kX9_readNumber 0 [.ref 82, .int lo, .int hi, am_u] [] (hp M) = some (some (.int 0), hp M) := by
  have er := @M_readsF X M h
  have hz : ¬ M 82 11 = 0 := fun z => by rw [z] at h; exact absurd h (by decide)
  simp (disch := omega) only [iX9_readNumber_0, iX9_readNumber_1, iX9_readNumber_4, iX9_readNumber_7, iX9_readNumber_8, iX9_readNumber_9, iX9_readNumber_12, iX9_readNumber_13, iX9_readNumber_16, iX9_readNumber_17, iX9_readNumber_20, iX9_readNumber_21, iX9_readNumber_22, iX9_readNumber_25, iX9_readNumber_26, iX9_readNumber_29, iX9_readNumber_32, iX9_readNumber_33, iX9_readNumber_34, iX9_readNumber_37, iX9_readNumber_38, iX9_readNumber_39, iX9_readNumber_40, iX9_readNumber_41, iX9_readNumber_42, iX9_readNumber_45, iX9_readNumber_46, iX9_readNumber_49, iX9_readNumber_50, iX9_readNumber_53, iX9_readNumber_56, iX9_readNumber_57, iX9_readNumber_60, iX9_readNumber_63, iX9_readNumber_64, iX9_readNumber_65, iX9_readNumber_66, iX9_readNumber_69, iX9_readNumber_70, true_or, or_true, Option.bind_some, Option.bind_none, kk_hp, kn_hp, el_i, el_b, el_z, am_cat_nil, am_cat_i, am_cat_r, am_cat_l, am_cat_n, gd_i, gd_r, gd_n, gd_u, List.length_cons, List.length_nil, true_and, and_true, ↓reduceIte, Nat.zero_le, Nat.reduceLeDiff, Nat.reduceAdd, e_10, e_01, e_00, e_11, Int32.reduceLE, Int32.reduceLT, Int32.reduceAdd, Int32.reduceSub, b01, if_true, if_false, ite_self, rc_82, gf_82_0, gf_82_1, gf_82_2, gf_82_3, gf_82_4, gf_82_5, gf_82_6, pf_82_6, gf_82_7, pf_82_7, gf_82_8, pf_82_8, gf_82_9, pf_82_9, gf_82_10, pf_82_10, gf_82_11, pf_82_11, gf_82_12, pf_82_12, gf_82_13, gf_82_14, gf_82_15, gf_82_16, pf_82_16, gf_82_17, gf_82_18, gf_82_19, gf_82_20, gf_82_21, gf_82_22, gf_82_23, gf_82_24, gf_82_25, pf_82_25, ga_83, wi_83, ga_84, wi_84, ga_85, wb_85, ga_86, wi_86, ga_87, wb_87, ga_88, wi_88, ga_89, wi_89, ga_90, wi_90, ga_91, wi_91, ga_92, wi_92, ga_93, wi_93, ga_94, wi_94, ga_95, wi_95, ga_96, wb_96, ga_97, wi_97, ga_98, wi_98, ga_99, wi_99, nl_add, nl_add', nl_mul, nI_add, in_t, cl_n, le_nn, lt_nn, le_ln, le_nl, lt_nl, lt_ln, eq_nn, eq_nl, in_lit, cl_lit, Nat.le_refl, Nat.add_zero, hz, er]
theorem M_readNumber {n p : Nat} {b : Nat → Nat} {lo hi : Int32} (ht : TQ M n b) (hT : TK M n b p) (hpn : p ≤ n) : ∃ M', am_ev X kX9_readNumber 0 [.ref 82, .int lo, .int hi, am_u] [] (hp M) = some (some (.int (if nO n b p lo hi = none then tV n b p else 0)), hp M') ∧ rS M M' ∧ (nO n b p lo hi = none → TK M' n b (tB n b p)) ∧ ∀ c, nO n b p lo hi = some c → rF M' c (tS n b p) := by
  obtain ⟨b1, b2, b3, b4⟩ := @tB_p n p b hpn
  obtain ⟨k7, k8, k4, kn, kv, -⟩ := hT
  unfold nO
  by_cases h4 : tK n b p = 4
  · rw [if_pos h4, if_neg (by simp)]
    obtain ⟨g1, g2⟩ := k4 h4
    refine ⟨M, M_readNumberF (by rw [g1]; decide), ⟨fun _ _ => rfl, fun _ _ => rfl⟩, fun z => absurd z (by simp), fun c hc => ?_⟩
    injection hc with hc; rw [← hc]; exact ⟨g1, g2⟩
  · rw [if_neg h4]
    obtain ⟨k11, k9⟩ := kn h4
    by_cases h2 : tK n b p ≠ 2
    · rw [if_pos h2, if_neg (by simp)]
      have h2' : ¬ nI (tK n b p) = 2 := fun z => h2 (nI_inj (by omega) (by decide) z)
      have er := @M_req0 X M 2 k11
      rw [k8] at er
      have u11 : (up (up M 82 11 2) 82 12 (nI (tS n b p))) 82 11 = 2 := rfl
      have erd := @M_readsF X (up (up M 82 11 2) 82 12 (nI (tS n b p))) (by rw [u11]; decide)
      refine ⟨up (up M 82 11 2) 82 12 (nI (tS n b p)), ?_, ⟨fun a ha => by rw [up_n _ _ _ ha, up_n _ _ _ ha], fun j hj => by rw [up_s, pk_un (by omega), up_s, pk_un (by omega)]⟩, fun z => absurd z (by simp), fun c hc => ?_⟩
      · simp (disch := omega) only [iX9_readNumber_0, iX9_readNumber_1, iX9_readNumber_4, iX9_readNumber_7, iX9_readNumber_8, iX9_readNumber_9, iX9_readNumber_12, iX9_readNumber_13, iX9_readNumber_16, iX9_readNumber_17, iX9_readNumber_20, iX9_readNumber_21, iX9_readNumber_22, iX9_readNumber_25, iX9_readNumber_26, iX9_readNumber_29, iX9_readNumber_32, iX9_readNumber_33, iX9_readNumber_34, iX9_readNumber_37, iX9_readNumber_38, iX9_readNumber_39, iX9_readNumber_40, iX9_readNumber_41, iX9_readNumber_42, iX9_readNumber_45, iX9_readNumber_46, iX9_readNumber_49, iX9_readNumber_50, iX9_readNumber_53, iX9_readNumber_56, iX9_readNumber_57, iX9_readNumber_60, iX9_readNumber_63, iX9_readNumber_64, iX9_readNumber_65, iX9_readNumber_66, iX9_readNumber_69, iX9_readNumber_70, true_or, or_true, Option.bind_some, Option.bind_none, kk_hp, kn_hp, el_i, el_b, el_z, am_cat_nil, am_cat_i, am_cat_r, am_cat_l, am_cat_n, gd_i, gd_r, gd_n, gd_u, List.length_cons, List.length_nil, true_and, and_true, ↓reduceIte, Nat.zero_le, Nat.reduceLeDiff, Nat.reduceAdd, e_10, e_01, e_00, e_11, Int32.reduceLE, Int32.reduceLT, Int32.reduceAdd, Int32.reduceSub, b01, if_true, if_false, ite_self, rc_82, gf_82_0, gf_82_1, gf_82_2, gf_82_3, gf_82_4, gf_82_5, gf_82_6, pf_82_6, gf_82_7, pf_82_7, gf_82_8, pf_82_8, gf_82_9, pf_82_9, gf_82_10, pf_82_10, gf_82_11, pf_82_11, gf_82_12, pf_82_12, gf_82_13, gf_82_14, gf_82_15, gf_82_16, pf_82_16, gf_82_17, gf_82_18, gf_82_19, gf_82_20, gf_82_21, gf_82_22, gf_82_23, gf_82_24, gf_82_25, pf_82_25, ga_83, wi_83, ga_84, wi_84, ga_85, wb_85, ga_86, wi_86, ga_87, wb_87, ga_88, wi_88, ga_89, wi_89, ga_90, wi_90, ga_91, wi_91, ga_92, wi_92, ga_93, wi_93, ga_94, wi_94, ga_95, wi_95, ga_96, wb_96, ga_97, wi_97, ga_98, wi_98, ga_99, wi_99, nl_add, nl_add', nl_mul, nI_add, in_t, cl_n, le_nn, lt_nn, le_ln, le_nl, lt_nl, lt_ln, eq_nn, eq_nl, in_lit, cl_lit, Nat.le_refl, Nat.add_zero, k11, k9, h2', h2, er, u11, show ¬ (2 : Int32) = 0 by decide, erd]
      · injection hc with hc; rw [← hc]; exact ⟨rfl, rfl⟩
    · rw [if_neg h2]
      have h2e : tK n b p = 2 := Decidable.byContradiction h2
      have k9' : M 82 9 = 2 := by rw [k9, h2e]; rfl
      have kv' := kv h2e
      have ei := @M_in X M (tV n b p).toInt64 lo.toInt64 hi.toInt64
      simp only [wl] at ei
      by_cases hr : lo ≤ tV n b p ∧ tV n b p ≤ hi
      · rw [if_pos hr] at ei ⊢
        rw [if_pos rfl]
        obtain ⟨K, e1, f1, f2, g1⟩ := @M_reads X M n (tB n b p) b ht k7 b2 k11
        refine ⟨K, ?_, ⟨f1, f2⟩, fun _ => g1, fun c hc => absurd hc (by simp)⟩
        simp (disch := omega) only [iX9_readNumber_0, iX9_readNumber_1, iX9_readNumber_4, iX9_readNumber_7, iX9_readNumber_8, iX9_readNumber_9, iX9_readNumber_12, iX9_readNumber_13, iX9_readNumber_16, iX9_readNumber_17, iX9_readNumber_20, iX9_readNumber_21, iX9_readNumber_22, iX9_readNumber_25, iX9_readNumber_26, iX9_readNumber_29, iX9_readNumber_32, iX9_readNumber_33, iX9_readNumber_34, iX9_readNumber_37, iX9_readNumber_38, iX9_readNumber_39, iX9_readNumber_40, iX9_readNumber_41, iX9_readNumber_42, iX9_readNumber_45, iX9_readNumber_46, iX9_readNumber_49, iX9_readNumber_50, iX9_readNumber_53, iX9_readNumber_56, iX9_readNumber_57, iX9_readNumber_60, iX9_readNumber_63, iX9_readNumber_64, iX9_readNumber_65, iX9_readNumber_66, iX9_readNumber_69, iX9_readNumber_70, true_or, or_true, Option.bind_some, Option.bind_none, kk_hp, kn_hp, el_i, el_b, el_z, am_cat_nil, am_cat_i, am_cat_r, am_cat_l, am_cat_n, gd_i, gd_r, gd_n, gd_u, List.length_cons, List.length_nil, true_and, and_true, ↓reduceIte, Nat.zero_le, Nat.reduceLeDiff, Nat.reduceAdd, e_10, e_01, e_00, e_11, Int32.reduceLE, Int32.reduceLT, Int32.reduceAdd, Int32.reduceSub, b01, if_true, if_false, ite_self, rc_82, gf_82_0, gf_82_1, gf_82_2, gf_82_3, gf_82_4, gf_82_5, gf_82_6, pf_82_6, gf_82_7, pf_82_7, gf_82_8, pf_82_8, gf_82_9, pf_82_9, gf_82_10, pf_82_10, gf_82_11, pf_82_11, gf_82_12, pf_82_12, gf_82_13, gf_82_14, gf_82_15, gf_82_16, pf_82_16, gf_82_17, gf_82_18, gf_82_19, gf_82_20, gf_82_21, gf_82_22, gf_82_23, gf_82_24, gf_82_25, pf_82_25, ga_83, wi_83, ga_84, wi_84, ga_85, wb_85, ga_86, wi_86, ga_87, wb_87, ga_88, wi_88, ga_89, wi_89, ga_90, wi_90, ga_91, wi_91, ga_92, wi_92, ga_93, wi_93, ga_94, wi_94, ga_95, wi_95, ga_96, wb_96, ga_97, wi_97, ga_98, wi_98, ga_99, wi_99, nl_add, nl_add', nl_mul, nI_add, in_t, cl_n, le_nn, lt_nn, le_ln, le_nl, lt_nl, lt_ln, eq_nn, eq_nl, in_lit, cl_lit, Nat.le_refl, Nat.add_zero, k11, k9', kv', M_req1, ei, e1]
      · rw [if_neg hr] at ei ⊢
        rw [if_neg (by simp)]
        have er := @M_req0 X M 3 k11
        rw [k8] at er
        have u11 : (up (up M 82 11 3) 82 12 (nI (tS n b p))) 82 11 = 3 := rfl
        have erd := @M_readsF X (up (up M 82 11 3) 82 12 (nI (tS n b p))) (by rw [u11]; decide)
        refine ⟨up (up M 82 11 3) 82 12 (nI (tS n b p)), ?_, ⟨fun a ha => by rw [up_n _ _ _ ha, up_n _ _ _ ha], fun j hj => by rw [up_s, pk_un (by omega), up_s, pk_un (by omega)]⟩, fun z => absurd z (by simp), fun c hc => ?_⟩
        · simp (disch := omega) only [iX9_readNumber_0, iX9_readNumber_1, iX9_readNumber_4, iX9_readNumber_7, iX9_readNumber_8, iX9_readNumber_9, iX9_readNumber_12, iX9_readNumber_13, iX9_readNumber_16, iX9_readNumber_17, iX9_readNumber_20, iX9_readNumber_21, iX9_readNumber_22, iX9_readNumber_25, iX9_readNumber_26, iX9_readNumber_29, iX9_readNumber_32, iX9_readNumber_33, iX9_readNumber_34, iX9_readNumber_37, iX9_readNumber_38, iX9_readNumber_39, iX9_readNumber_40, iX9_readNumber_41, iX9_readNumber_42, iX9_readNumber_45, iX9_readNumber_46, iX9_readNumber_49, iX9_readNumber_50, iX9_readNumber_53, iX9_readNumber_56, iX9_readNumber_57, iX9_readNumber_60, iX9_readNumber_63, iX9_readNumber_64, iX9_readNumber_65, iX9_readNumber_66, iX9_readNumber_69, iX9_readNumber_70, true_or, or_true, Option.bind_some, Option.bind_none, kk_hp, kn_hp, el_i, el_b, el_z, am_cat_nil, am_cat_i, am_cat_r, am_cat_l, am_cat_n, gd_i, gd_r, gd_n, gd_u, List.length_cons, List.length_nil, true_and, and_true, ↓reduceIte, Nat.zero_le, Nat.reduceLeDiff, Nat.reduceAdd, e_10, e_01, e_00, e_11, Int32.reduceLE, Int32.reduceLT, Int32.reduceAdd, Int32.reduceSub, b01, if_true, if_false, ite_self, rc_82, gf_82_0, gf_82_1, gf_82_2, gf_82_3, gf_82_4, gf_82_5, gf_82_6, pf_82_6, gf_82_7, pf_82_7, gf_82_8, pf_82_8, gf_82_9, pf_82_9, gf_82_10, pf_82_10, gf_82_11, pf_82_11, gf_82_12, pf_82_12, gf_82_13, gf_82_14, gf_82_15, gf_82_16, pf_82_16, gf_82_17, gf_82_18, gf_82_19, gf_82_20, gf_82_21, gf_82_22, gf_82_23, gf_82_24, gf_82_25, pf_82_25, ga_83, wi_83, ga_84, wi_84, ga_85, wb_85, ga_86, wi_86, ga_87, wb_87, ga_88, wi_88, ga_89, wi_89, ga_90, wi_90, ga_91, wi_91, ga_92, wi_92, ga_93, wi_93, ga_94, wi_94, ga_95, wi_95, ga_96, wb_96, ga_97, wi_97, ga_98, wi_98, ga_99, wi_99, nl_add, nl_add', nl_mul, nI_add, in_t, cl_n, le_nn, lt_nn, le_ln, le_nl, lt_nl, lt_ln, eq_nn, eq_nl, in_lit, cl_lit, Nat.le_refl, Nat.add_zero, k11, k9', kv', M_req1, ei, er, u11, show ¬ (3 : Int32) = 0 by decide, erd]
        · injection hc with hc; rw [← hc]; exact ⟨rfl, rfl⟩
end S92
