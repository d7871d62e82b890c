/-! names: the class compares a token with a text -/
section SK
variable {X : am_X} {L st : List Value} {h : am_H}
theorem ck_n {a0 a1 : Int32} : am_ev X kJ0_checkIndex_df160 5 L (.null :: .int a1 :: .int a0 :: st) h = if am_cat st ≤ 8 then (am_ev X kJ3_checkIndex_8e157 0 [.int a0, .int a1, .null] [] h).bind (am_kk X kJ0_checkIndex_df160 8 L st h) else none :=
  e_cs (as := [.null, .int a1, .int a0]) (show am_ins kJ0_checkIndex_df160 5 = some (.invokestatic 1059, 3) by decide +kernel) oc_J0_checkIndex_df160 ct_11_1059 (by decide) (by decide +kernel) (by decide +kernel) ml_J3_checkIndex_8e157 rfl (Nat.le_of_ble_eq_true rfl) rfl
theorem ck_r {a0 a1 : Int32} {b : Nat} : am_ev X kJ0_checkIndex_df160 5 L (.ref b :: .int a1 :: .int a0 :: st) h = if am_cat st ≤ 8 then (am_ev X kJ3_checkIndex_8e157 0 [.int a0, .int a1, .ref b] [] h).bind (am_kk X kJ0_checkIndex_df160 8 L st h) else none :=
  e_cs (as := [.ref b, .int a1, .int a0]) (show am_ins kJ0_checkIndex_df160 5 = some (.invokestatic 1059, 3) by decide +kernel) oc_J0_checkIndex_df160 ct_11_1059 (by decide) (by decide +kernel) (by decide +kernel) ml_J3_checkIndex_8e157 rfl (Nat.le_of_ble_eq_true rfl) rfl
end SK
def wL (i : Nat) : Nat := am_sl.getD i 0
def wB (i k : Nat) : Int32 := (am_sb.getD i []).getD k 0
theorem wL_7 {i : Nat} (hi : i < 13) : 2 ≤ wL i ∧ wL i < 7 := by
  have : ∀ i, i < 13 → 2 ≤ wL i ∧ wL i < 7 := by decide +kernel
  exact this i hi
theorem wB_c {i k : Nat} (hi : i < 13) (hk : k < wL i) : (((wB i k &&& 255).toUInt32 % 65536).toInt32) = wB i k ∧ narrow .char (.int (wB i k)) = .int (wB i k) := by
  have h1 : ∀ i, i < 13 → ∀ k, k < wL i → (((wB i k &&& 255).toUInt32 % 65536).toInt32) = wB i k := by decide +kernel
  have h2 : ∀ i, i < 13 → ∀ k, k < wL i → narrow .char (.int (wB i k)) = .int (wB i k) := by decide +kernel
  exact ⟨h1 i hi k hk, h2 i hi k hk⟩
section S90
variable {X : am_X} {M : Nat → Nat → Int32}
theorem rc_s {i : Nat} (hi : i < 13) : am_rcv (hp M) 11 (some (.ref (1000 + i))) = true := by
  unfold am_rcv
  dsimp only
  rw [List.getElem?_eq_none (by rw [hp_len]; omega)]
  dsimp only
  rw [hp_len, decide_eq_true (show 1000 ≤ 1000 + i by omega), decide_eq_true (show 1000 + i < 1013 by omega)]
  decide
theorem ga_t {i : Nat} (hi : i < 13) : am_ga X (hp M) (1000 + i + 100) = some (1, wL i, wB i) := by
  rw [ga_s (by omega)]
  unfold am_sp
  rw [if_neg (by omega), if_neg (by omega), if_neg (by omega), if_pos (by omega), show 1000 + i + 100 - 1100 = i by omega]
  rfl
theorem sr_0 (x : Int32) : x >>> ((0 : Int32) &&& 31) = x := by
  rw [show ((0 : Int32) &&& 31) = 0 by decide]
  exact Int32.shiftRight_zero
theorem C_len {i : Nat} (hi : i < 13) : am_ev X kJ0_length_8abf5 0 [.ref (1000 + i)] [] (hp M) = some (some (.int (nI (wL i))), hp M) := by
  have hw := wL_7 hi
  have hc : (1000 ≤ 1000 + i ∧ 1000 + i < 1013 ∧ (hp M).length ≤ 1000) := ⟨by omega, by omega, by rw [hp_len]; decide⟩
  have hln : ∀ (K : Int32 → Option am_Q) f, am_elen (some (1, wL i, f)) K = K (nI (wL i)) := fun _ _ => rfl
  have nb0 : narrow .byte (.int 0) = .int 0 := by decide
  simp (disch := omega) only [iJ0_length_8abf5_0, iJ0_length_8abf5_1, iJ0_length_8abf5_4, iJ0_length_8abf5_5, iJ0_length_8abf5_6, iJ0_length_8abf5_9, iJ0_length_8abf5_10, iJ0_coder_7d493_0, iJ0_coder_7d493_3, iJ0_coder_7d493_6, iJ0_coder_7d493_7, iJ0_coder_7d493_10, iJ0_coder_7d493_13, iJ0_coder_7d493_14, true_or, or_true, Option.bind_some, Option.bind_none, kk_hp, kn_hp, el_i, el_b, el_z, am_cat_nil, am_cat_i, am_cat_r, am_cat_l, am_cat_n, gd_i, gd_r, gd_n, gd_u, List.length_cons, List.length_nil, true_and, and_true, ↓reduceIte, Nat.zero_le, Nat.reduceLeDiff, Nat.reduceAdd, e_10, e_01, e_00, e_11, Int32.reduceLE, Int32.reduceLT, Int32.reduceAdd, Int32.reduceSub, b01, if_true, if_false, ite_self, hc, and_self, rc_s hi, ga_t hi, hln, sr_0, nb0]
theorem C_charAt {i k : Nat} (hi : i < 13) (hk : k < wL i) (hX : X.2.2 = .null ∨ X.2.2 = .ref 1200) : am_ev X kJ0_charAt_5068e 0 [.ref (1000 + i), .int (nI k)] [] (hp M) = some (some (.int (wB i k)), hp M) := by
  have hw := wL_7 hi
  have hc : (1000 ≤ 1000 + i ∧ 1000 + i < 1013 ∧ (hp M).length ≤ 1000) := ⟨by omega, by omega, by rw [hp_len]; decide⟩
  have hln : ∀ (K : Int32 → Option am_Q) f, am_elen (some (1, wL i, f)) K = K (nI (wL i)) := fun _ _ => rfl
  have eck : am_ev X kJ0_checkIndex_df160 0 [.int (nI k), .int (nI (wL i))] [] (hp M) = some (none, hp M) := by
    rcases hX with z | z
    · simp (disch := omega) only [iJ0_checkIndex_df160_0, iJ0_checkIndex_df160_1, iJ0_checkIndex_df160_2, iJ0_checkIndex_df160_8, iJ0_checkIndex_df160_9, iJ3_checkIndex_8e157_0, iJ3_checkIndex_8e157_1, iJ3_checkIndex_8e157_4, iJ3_checkIndex_8e157_5, iJ3_checkIndex_8e157_6, iJ3_checkIndex_8e157_9, iJ3_checkIndex_8e157_9_n, iJ3_checkIndex_8e157_10, iJ3_checkIndex_8e157_11, iJ3_checkIndex_8e157_16, iJ3_checkIndex_8e157_17, ck_n, true_or, or_true, Option.bind_some, Option.bind_none, kk_hp, kn_hp, el_i, el_b, el_z, am_cat_nil, am_cat_i, am_cat_r, am_cat_l, am_cat_n, gd_i, gd_r, gd_n, gd_u, List.length_cons, List.length_nil, true_and, and_true, ↓reduceIte, Nat.zero_le, Nat.reduceLeDiff, Nat.reduceAdd, e_10, e_01, e_00, e_11, Int32.reduceLE, Int32.reduceLT, Int32.reduceAdd, Int32.reduceSub, b01, if_true, if_false, ite_self, nl_add, nl_add', nl_mul, nI_add, in_t, cl_n, le_nn, lt_nn, le_ln, le_nl, lt_nl, lt_ln, eq_nn, eq_nl, in_lit, cl_lit, Nat.le_refl, Nat.add_zero, z, show ¬ k < 0 by omega, hk]
    · simp (disch := omega) only [iJ0_checkIndex_df160_0, iJ0_checkIndex_df160_1, iJ0_checkIndex_df160_2, iJ0_checkIndex_df160_8, iJ0_checkIndex_df160_9, iJ3_checkIndex_8e157_0, iJ3_checkIndex_8e157_1, iJ3_checkIndex_8e157_4, iJ3_checkIndex_8e157_5, iJ3_checkIndex_8e157_6, iJ3_checkIndex_8e157_9, iJ3_checkIndex_8e157_9_n, iJ3_checkIndex_8e157_10, iJ3_checkIndex_8e157_11, iJ3_checkIndex_8e157_16, iJ3_checkIndex_8e157_17, ck_r, true_or, or_true, Option.bind_some, Option.bind_none, kk_hp, kn_hp, el_i, el_b, el_z, am_cat_nil, am_cat_i, am_cat_r, am_cat_l, am_cat_n, gd_i, gd_r, gd_n, gd_u, List.length_cons, List.length_nil, true_and, and_true, ↓reduceIte, Nat.zero_le, Nat.reduceLeDiff, Nat.reduceAdd, e_10, e_01, e_00, e_11, Int32.reduceLE, Int32.reduceLT, Int32.reduceAdd, Int32.reduceSub, b01, if_true, if_false, ite_self, nl_add, nl_add', nl_mul, nI_add, in_t, cl_n, le_nn, lt_nn, le_ln, le_nl, lt_nl, lt_ln, eq_nn, eq_nl, in_lit, cl_lit, Nat.le_refl, Nat.add_zero, z, show ¬ k < 0 by omega, hk]
  obtain ⟨w1, w2⟩ := wB_c hi hk
  simp (disch := omega) only [iJ0_charAt_5068e_0, iJ0_charAt_5068e_1, iJ0_charAt_5068e_4, iJ0_charAt_5068e_7, iJ0_charAt_5068e_8, iJ0_charAt_5068e_11, iJ0_charAt_5068e_12, iJ0_charAt_5068e_15, iJ0_charAt_5068e_16, iJ0_charAt_5068e_17, iJ0_charAt_5068e_20, iJ0_charAt_5068e_24, iJ0_isLatin1_aae02_0, iJ0_isLatin1_aae02_3, iJ0_isLatin1_aae02_6, iJ0_isLatin1_aae02_7, iJ0_isLatin1_aae02_10, iJ0_isLatin1_aae02_13, iJ0_isLatin1_aae02_14, iJ0_isLatin1_aae02_17, iJ0_isLatin1_aae02_18, iJ1_charAt_3b067_0, iJ1_charAt_3b067_1, iJ1_charAt_3b067_2, iJ1_charAt_3b067_3, iJ1_charAt_3b067_6, iJ1_charAt_3b067_7, iJ1_charAt_3b067_8, iJ1_charAt_3b067_9, iJ1_charAt_3b067_12, iJ1_charAt_3b067_13, iJ1_charAt_3b067_14, true_or, or_true, Option.bind_some, Option.bind_none, kk_hp, kn_hp, el_i, el_b, el_z, am_cat_nil, am_cat_i, am_cat_r, am_cat_l, am_cat_n, gd_i, gd_r, gd_n, gd_u, List.length_cons, List.length_nil, true_and, and_true, ↓reduceIte, Nat.zero_le, Nat.reduceLeDiff, Nat.reduceAdd, e_10, e_01, e_00, e_11, Int32.reduceLE, Int32.reduceLT, Int32.reduceAdd, Int32.reduceSub, b01, if_true, if_false, ite_self, nl_add, nl_add', nl_mul, nI_add, in_t, cl_n, le_nn, lt_nn, le_ln, le_nl, lt_nl, lt_ln, eq_nn, eq_nl, in_lit, cl_lit, Nat.le_refl, Nat.add_zero, hc, and_self, rc_s hi, ga_t hi, hln, eck, w1, w2]
/-- the class holds the token from p on -/
def CK (M : Nat → Nat → Int32) (n : Nat) (b : Nat → Nat) (p : Nat) : Prop :=
  M 13 2 = nI (tK n b p) ∧ M 13 3 = nI (tS n b p) ∧ M 13 5 = nI (tB n b p) ∧ (tK n b p = 2 → M 13 4 = tV n b p)
/-- the token from p on is the text i -/
def nmE (n : Nat) (b : Nat → Nat) (p i : Nat) : Bool := decide (tK n b p = 1) && (decide (tB n b p - tS n b p = wL i) && alF (fun k => decide (nI (b (tS n b p + k)) = wB i k)) 0 (wL i))
theorem isName_l {n p i : Nat} {b : Nat → Nat} (ht : TP M n b) (hC : CK M n b p) (hpn : p ≤ n) (hi : i < 13) (hX : X.2.2 = .null ∨ X.2.2 = .ref 1200) (hl : tS n b p + wL i ≤ n) (d : Nat) : ∀ k, k + d = wL i → am_ev X kX7_isName 28 [.ref 13, .ref (1000 + i), .int (nI k)] [] (hp M) = some (some (.int (bI (alF (fun k => decide (nI (b (tS n b p + k)) = wB i k)) k d))), hp M) := by
  have hw := wL_7 hi
  have hn := ht.1
  have el := @C_len X M i hi
  induction d with
  | zero =>
    intro k hk
    rw [alF, bI_t]
    simp (disch := omega) only [iX7_isName_28, iX7_isName_29, iX7_isName_30, iX7_isName_33, iX7_isName_63, iX7_isName_64, true_or, or_true, Option.bind_some, Option.bind_none, kk_hp, kn_hp, el_i, el_b, el_z, am_cat_nil, am_cat_i, am_cat_r, am_cat_l, am_cat_n, gd_i, gd_r, gd_n, gd_u, List.length_cons, List.length_nil, true_and, and_true, ↓reduceIte, Nat.zero_le, Nat.reduceLeDiff, Nat.reduceAdd, e_10, e_01, e_00, e_11, Int32.reduceLE, Int32.reduceLT, Int32.reduceAdd, Int32.reduceSub, b01, if_true, if_false, ite_self, nl_add, nl_add', nl_mul, nI_add, in_t, cl_n, le_nn, lt_nn, le_ln, le_nl, lt_nl, lt_ln, eq_nn, eq_nl, in_lit, cl_lit, Nat.le_refl, Nat.add_zero, rc_s hi, and_self, el, show wL i ≤ k by omega]
  | succ d ih =>
    intro k hk
    rw [alF]
    have ec := @C_charAt X M i k hi (by omega) hX
    have e14 := (ht.2.2 (tS n b p + k) (by omega)).1
    have e3 := hC.2.1
    by_cases hq : nI (b (tS n b p + k)) = wB i k
    · rw [decide_eq_true hq, Bool.true_and, ← ih (k + 1) (by omega)]
      conv => lhs; rw [iX7_isName_28]
      simp (disch := omega) only [iX7_isName_29, iX7_isName_30, iX7_isName_33, iX7_isName_36, iX7_isName_37, iX7_isName_40, iX7_isName_41, iX7_isName_44, iX7_isName_45, iX7_isName_46, iX7_isName_47, iX7_isName_48, iX7_isName_49, iX7_isName_52, iX7_isName_55, iX7_isName_56, iX7_isName_57, iX7_isName_60, true_or, or_true, Option.bind_some, Option.bind_none, kk_hp, kn_hp, el_i, el_b, el_z, am_cat_nil, am_cat_i, am_cat_r, am_cat_l, am_cat_n, gd_i, gd_r, gd_n, gd_u, List.length_cons, List.length_nil, true_and, and_true, ↓reduceIte, Nat.zero_le, Nat.reduceLeDiff, Nat.reduceAdd, e_10, e_01, e_00, e_11, Int32.reduceLE, Int32.reduceLT, Int32.reduceAdd, Int32.reduceSub, b01, if_true, if_false, ite_self, rc_13, gf_13_0, gf_13_1, pf_13_1, gf_13_2, pf_13_2, gf_13_3, pf_13_3, gf_13_4, pf_13_4, gf_13_5, pf_13_5, ga_14, wb_14, nl_add, nl_add', nl_mul, nI_add, in_t, cl_n, le_nn, lt_nn, le_ln, le_nl, lt_nl, lt_ln, eq_nn, eq_nl, in_lit, cl_lit, Nat.le_refl, Nat.add_zero, rc_s hi, and_self, el, show ¬ wL i ≤ k by omega, e3, e14, ec, hq]
    · rw [decide_eq_false hq, Bool.false_and, bI_f]
      conv => lhs; rw [iX7_isName_28]
      simp (disch := omega) only [iX7_isName_29, iX7_isName_30, iX7_isName_33, iX7_isName_36, iX7_isName_37, iX7_isName_40, iX7_isName_41, iX7_isName_44, iX7_isName_45, iX7_isName_46, iX7_isName_47, iX7_isName_48, iX7_isName_49, iX7_isName_52, iX7_isName_55, iX7_isName_56, iX7_isName_57, iX7_isName_60, true_or, or_true, Option.bind_some, Option.bind_none, kk_hp, kn_hp, el_i, el_b, el_z, am_cat_nil, am_cat_i, am_cat_r, am_cat_l, am_cat_n, gd_i, gd_r, gd_n, gd_u, List.length_cons, List.length_nil, true_and, and_true, ↓reduceIte, Nat.zero_le, Nat.reduceLeDiff, Nat.reduceAdd, e_10, e_01, e_00, e_11, Int32.reduceLE, Int32.reduceLT, Int32.reduceAdd, Int32.reduceSub, b01, if_true, if_false, ite_self, rc_13, gf_13_0, gf_13_1, pf_13_1, gf_13_2, pf_13_2, gf_13_3, pf_13_3, gf_13_4, pf_13_4, gf_13_5, pf_13_5, ga_14, wb_14, nl_add, nl_add', nl_mul, nI_add, in_t, cl_n, le_nn, lt_nn, le_ln, le_nl, lt_nl, lt_ln, eq_nn, eq_nl, in_lit, cl_lit, Nat.le_refl, Nat.add_zero, rc_s hi, and_self, el, show ¬ wL i ≤ k by omega, e3, e14, ec, hq]
theorem C_isName {n p i : Nat} {b : Nat → Nat} (ht : TP M n b) (hC : CK M n b p) (hpn : p ≤ n) (hi : i < 13) (hX : X.2.2 = .null ∨ X.2.2 = .ref 1200) : am_ev X kX7_isName 0 [.ref 13, .ref (1000 + i), am_u] [] (hp M) = some (some (.int (bI (nmE n b p i))), hp M) := by
  have hw := wL_7 hi
  have hn := ht.1
  obtain ⟨b1, b2, b3, b4⟩ := @tB_p n p b hpn
  have el := @C_len X M i hi
  have hC' := hC
  obtain ⟨c2, c3, c5, -⟩ := hC
  unfold nmE
  by_cases h1 : tK n b p = 1
  · rw [decide_eq_true h1, Bool.true_and]
    by_cases h2 : tB n b p - tS n b p = wL i
    · rw [decide_eq_true h2, Bool.true_and]
      have e := @isName_l X M n p i b ht hC' hpn hi hX (by omega) (wL i) 0 (by omega)
      rw [nI_0] at e
      rw [h1] at c2
      simp (disch := omega) only [iX7_isName_0, iX7_isName_1, iX7_isName_4, iX7_isName_5, iX7_isName_8, iX7_isName_9, iX7_isName_12, iX7_isName_13, iX7_isName_16, iX7_isName_17, iX7_isName_18, iX7_isName_21, iX7_isName_24, iX7_isName_25, iX7_isName_26, iX7_isName_27, true_or, or_true, Option.bind_some, Option.bind_none, kk_hp, kn_hp, el_i, el_b, el_z, am_cat_nil, am_cat_i, am_cat_r, am_cat_l, am_cat_n, gd_i, gd_r, gd_n, gd_u, List.length_cons, List.length_nil, true_and, and_true, ↓reduceIte, Nat.zero_le, Nat.reduceLeDiff, Nat.reduceAdd, e_10, e_01, e_00, e_11, Int32.reduceLE, Int32.reduceLT, Int32.reduceAdd, Int32.reduceSub, b01, if_true, if_false, ite_self, rc_13, gf_13_0, gf_13_1, pf_13_1, gf_13_2, pf_13_2, gf_13_3, pf_13_3, gf_13_4, pf_13_4, gf_13_5, pf_13_5, nl_add, nl_add', nl_mul, nI_add, in_t, cl_n, le_nn, lt_nn, le_ln, le_nl, lt_nl, lt_ln, eq_nn, eq_nl, in_lit, cl_lit, Nat.le_refl, Nat.add_zero, rc_s hi, and_self, c2, c3, c5, show nI 1 = (1 : Int32) from rfl, nI_sub', el, h2]
      exact e
    · rw [decide_eq_false h2, Bool.false_and, bI_f]
      rw [h1] at c2
      simp (disch := omega) only [iX7_isName_0, iX7_isName_1, iX7_isName_4, iX7_isName_5, iX7_isName_8, iX7_isName_9, iX7_isName_12, iX7_isName_13, iX7_isName_16, iX7_isName_17, iX7_isName_18, iX7_isName_21, iX7_isName_24, iX7_isName_25, iX7_isName_26, iX7_isName_27, true_or, or_true, Option.bind_some, Option.bind_none, kk_hp, kn_hp, el_i, el_b, el_z, am_cat_nil, am_cat_i, am_cat_r, am_cat_l, am_cat_n, gd_i, gd_r, gd_n, gd_u, List.length_cons, List.length_nil, true_and, and_true, ↓reduceIte, Nat.zero_le, Nat.reduceLeDiff, Nat.reduceAdd, e_10, e_01, e_00, e_11, Int32.reduceLE, Int32.reduceLT, Int32.reduceAdd, Int32.reduceSub, b01, if_true, if_false, ite_self, rc_13, gf_13_0, gf_13_1, pf_13_1, gf_13_2, pf_13_2, gf_13_3, pf_13_3, gf_13_4, pf_13_4, gf_13_5, pf_13_5, nl_add, nl_add', nl_mul, nI_add, in_t, cl_n, le_nn, lt_nn, le_ln, le_nl, lt_nl, lt_ln, eq_nn, eq_nl, in_lit, cl_lit, Nat.le_refl, Nat.add_zero, rc_s hi, and_self, c2, c3, c5, show nI 1 = (1 : Int32) from rfl, nI_sub', el, h2]
  · rw [decide_eq_false h1, Bool.false_and, bI_f]
    have h1' : ¬ nI (tK n b p) = 1 := fun z => h1 (nI_inj (by omega) (by decide) z)
    simp (disch := omega) only [iX7_isName_0, iX7_isName_1, iX7_isName_4, iX7_isName_5, iX7_isName_8, iX7_isName_9, iX7_isName_12, iX7_isName_13, iX7_isName_16, iX7_isName_17, iX7_isName_18, iX7_isName_21, iX7_isName_24, iX7_isName_25, true_or, or_true, Option.bind_some, Option.bind_none, kk_hp, kn_hp, el_i, el_b, el_z, am_cat_nil, am_cat_i, am_cat_r, am_cat_l, am_cat_n, gd_i, gd_r, gd_n, gd_u, List.length_cons, List.length_nil, true_and, and_true, ↓reduceIte, Nat.zero_le, Nat.reduceLeDiff, Nat.reduceAdd, e_10, e_01, e_00, e_11, Int32.reduceLE, Int32.reduceLT, Int32.reduceAdd, Int32.reduceSub, b01, if_true, if_false, ite_self, rc_13, gf_13_0, gf_13_1, pf_13_1, gf_13_2, pf_13_2, gf_13_3, pf_13_3, gf_13_4, pf_13_4, gf_13_5, pf_13_5, nl_add, nl_add', nl_mul, nI_add, in_t, cl_n, le_nn, lt_nn, le_ln, le_nl, lt_nl, lt_ln, eq_nn, eq_nl, in_lit, cl_lit, Nat.le_refl, Nat.add_zero, c2, h1', h1]
end S90
