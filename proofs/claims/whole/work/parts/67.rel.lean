/-! the relation of the two objects -/
def kp (M : Nat → Nat → Int32) (k : Nat) : Nat → Int32 := fun c => M 84 (86 * k + c)
def RI (M : Nat → Nat → Int32) : Prop := ∀ k, k < 2 → M (27 + 12 * k) 1 = M 85 k ∧ (M 85 k = 0 ∨ M 85 k = 1 ∧ wf (kp M k) ∧ RG M (28 + 12 * k) (kp M k))
def RTp (M : Nat → Nat → Int32) : Prop := ∃ n, n ≤ 320 ∧ M 82 6 = nI n ∧ M 13 1 = nI n ∧ ∀ p, p < n → M 14 p = M 88 p ∧ ∃ b, b < 128 ∧ M 88 p = nI b
def RSh (M : Nat → Nat → Int32) : Prop := ∀ k, k < 4 → (M 97 k = -4 ∧ M (52 + 2 * k) 2 = -4) ∨
  (∃ l, l < 3 ∧ M 97 k = nI l ∧ M (52 + 2 * k) 1 = nI l) ∧ (∃ n, n ≤ 40 ∧ M 98 k = nI n ∧ M (52 + 2 * k) 2 = nI n) ∧ ∀ i, i < 40 → M (53 + 2 * k) i = M 99 (40 * k + i)
def RR (M : Nat → Nat → Int32) : Prop :=
  wf (M 83) ∧ RG M 1 (M 83) ∧ (M 0 8 = 1 ∨ M 0 8 = 0 ∧ DR M (M 83)) ∧ RI M ∧ RTp M ∧ RSh M ∧ M 82 11 = M 12 2 ∧ M 82 25 = M 0 9
theorem RI_fr {M M' : Nat → Nat → Int32} (h : RI M) (e : ∀ a, 27 ≤ a → a ≤ 50 → M' a = M a) (e4 : M' 84 = M 84) (e5 : M' 85 = M 85) : RI M' := by
  intro k hk
  have ek : kp M' k = kp M k := by unfold kp; rw [e4]
  obtain ⟨h1, h2⟩ := h k hk
  rw [ek, e5, e _ (by omega) (by omega)]
  refine ⟨h1, h2.elim Or.inl (fun ⟨h3, h4, h5⟩ => Or.inr ⟨h3, h4, RG_fa (fun j hj => e _ (by omega) (by omega)) h5⟩)⟩
theorem RTp_fr {M M' : Nat → Nat → Int32} (h : RTp M) (e1 : M' 13 1 = M 13 1) (e2 : M' 14 = M 14) (e3 : M' 82 6 = M 82 6) (e4 : M' 88 = M 88) : RTp M' := by
  unfold RTp
  rw [e1, e2, e3, e4]
  exact h
theorem RSh_fr {M M' : Nat → Nat → Int32} (h : RSh M) (e : ∀ a, 52 ≤ a → a ≤ 59 → M' a = M a) (e7 : M' 97 = M 97) (e8 : M' 98 = M 98) (e9 : M' 99 = M 99) : RSh M' := by
  intro k hk
  rw [e7, e8, e9, e _ (by omega) (by omega), e (53 + 2 * k) (by omega) (by omega)]
  exact h k hk
theorem DR_fr {M M' : Nat → Nat → Int32} {s : Nat → Int32} (h : DR M s) (e : ∀ a, 60 ≤ a → a < 82 → M' a = M a) : DR M' s := by
  obtain ⟨h1, h2, h3, h4, h5⟩ := h
  refine ⟨RPL_fr h1 (fun a ha hb => e a ha (by omega)), ?_, ?_, ?_, ?_⟩
  · rw [e 64 (by decide) (by decide)]; exact h2
  · rw [e 67 (by decide) (by decide)]; exact h3
  · rw [e 72 (by decide) (by decide)]; exact h4
  · rw [e 75 (by decide) (by decide)]; exact h5
theorem frF_r (M : Nat → Nat → Int32) : frF M M := ⟨fun _ _ _ => rfl, fun _ _ => rfl⟩
/-- a call that changes no more than what is found -/
theorem RR_q {M M1 M2 : Nat → Nat → Int32} (h : RR M) (fA : frA M M1) (z : M1 0 8 = 0) (hD : DR M1 (M 83)) (fF : frF M1 M2) : RR M2 := by
  obtain ⟨h1, h2, h3, h4, h5, h6, h7, h8⟩ := h
  have e : ∀ a, a ≠ 0 → ¬ (60 ≤ a ∧ a < 82) → a ≠ 82 → ¬ (89 ≤ a ∧ a ≤ 96) → M2 a = M a := fun a i1 i2 i3 i4 => (fF.1 a i3 i4).trans (fA.1 a i1 i2)
  have e0 : ∀ j, j ≠ 8 → M2 0 j = M 0 j := fun j hj => by rw [fF.1 0 (by decide) (by decide)]; exact fA.2 j hj
  have e82 : ∀ j, j ≠ 16 → M2 82 j = M 82 j := fun j hj => by rw [fF.2 j hj, fA.1 82 (by decide) (by decide)]
  have e83 : M2 83 = M 83 := e 83 (by decide) (by decide) (by decide) (by decide)
  refine ⟨by rw [e83]; exact h1, ?_, Or.inr ⟨by rw [fF.1 0 (by decide) (by decide)]; exact z, ?_⟩, ?_, ?_, ?_, ?_, ?_⟩
  · rw [e83]; exact RG_fa (fun k hk => e _ (by omega) (by omega) (by omega) (by omega)) h2
  · rw [e83]; exact DR_fr hD (fun a ha hb => fF.1 a (by omega) (by omega))
  · exact RI_fr h4 (fun a ha hb => e a (by omega) (by omega) (by omega) (by omega)) (e 84 (by decide) (by decide) (by decide) (by decide)) (e 85 (by decide) (by decide) (by decide) (by decide))
  · exact RTp_fr h5 (by rw [e 13 (by decide) (by decide) (by decide) (by decide)]) (e 14 (by decide) (by decide) (by decide) (by decide)) (e82 6 (by decide)) (e 88 (by decide) (by decide) (by decide) (by decide))
  · exact RSh_fr h6 (fun a ha hb => e a (by omega) (by omega) (by omega) (by omega)) (e 97 (by decide) (by decide) (by decide) (by decide)) (e 98 (by decide) (by decide) (by decide) (by decide)) (e 99 (by decide) (by decide) (by decide) (by decide))
  · rw [e82 11 (by decide), e 12 (by decide) (by decide) (by decide) (by decide)]; exact h7
  · rw [e82 25 (by decide), e0 9 (by decide)]; exact h8
/-- a call that changes no more than what the reference finds -/
theorem RR_f {M M2 : Nat → Nat → Int32} (h : RR M) (fF : frF M M2) : RR M2 := by
  obtain ⟨h1, h2, h3, h4, h5, h6, h7, h8⟩ := h
  have e : ∀ a, a ≠ 82 → ¬ (89 ≤ a ∧ a ≤ 96) → M2 a = M a := fF.1
  have e82 := fF.2
  have e83 : M2 83 = M 83 := e 83 (by decide) (by decide)
  refine ⟨by rw [e83]; exact h1, ?_, ?_, ?_, ?_, ?_, ?_, ?_⟩
  · rw [e83]; exact RG_fa (fun k hk => e _ (by omega) (by omega)) h2
  · rw [e83, e 0 (by decide) (by decide)]
    exact h3.elim Or.inl (fun ⟨i1, i2⟩ => Or.inr ⟨i1, DR_fr i2 (fun a ha hb => e a (by omega) (by omega))⟩)
  · exact RI_fr h4 (fun a ha hb => e a (by omega) (by omega)) (e 84 (by decide) (by decide)) (e 85 (by decide) (by decide))
  · exact RTp_fr h5 (by rw [e 13 (by decide) (by decide)]) (e 14 (by decide) (by decide)) (e82 6 (by decide)) (e 88 (by decide) (by decide))
  · exact RSh_fr h6 (fun a ha hb => e a (by omega) (by omega)) (e 97 (by decide) (by decide)) (e 98 (by decide) (by decide)) (e 99 (by decide) (by decide))
  · rw [e82 11 (by decide), e 12 (by decide) (by decide)]; exact h7
  · rw [e82 25 (by decide), e 0 (by decide) (by decide)]; exact h8
/-- a call that changes the grid -/
theorem RR_c {M M2 : Nat → Nat → Int32} (h : RR M) (e : ∀ a, ¬ (a ≤ 11) → a ≠ 83 → M2 a = M a) (z : M2 0 8 = 1) (z9 : M2 0 9 = M 0 9) (hw : wf (M2 83)) (hg : RG M2 1 (M2 83)) : RR M2 := by
  obtain ⟨h1, h2, h3, h4, h5, h6, h7, h8⟩ := h
  refine ⟨hw, hg, Or.inl z, ?_, ?_, ?_, ?_, ?_⟩
  · exact RI_fr h4 (fun a ha hb => e a (by omega) (by omega)) (e 84 (by decide) (by decide)) (e 85 (by decide) (by decide))
  · exact RTp_fr h5 (by rw [e 13 (by decide) (by decide)]) (e 14 (by decide) (by decide)) (by rw [e 82 (by decide) (by decide)]) (e 88 (by decide) (by decide))
  · exact RSh_fr h6 (fun a ha hb => e a (by omega) (by omega)) (e 97 (by decide) (by decide)) (e 98 (by decide) (by decide)) (e 99 (by decide) (by decide))
  · rw [e 82 (by decide) (by decide), e 12 (by decide) (by decide)]; exact h7
  · rw [e 82 (by decide) (by decide), z9]; exact h8
/-- both answer alike, and the relation holds behind -/
def St (X : am_X) (kC : Nat) (LC : List Value) (kM : Nat) (LM : List Value) (M : Nat → Nat → Int32) : Prop :=
  ∃ v M1 M2, am_ev X kC 0 LC [] (hp M) = some (some (.int v), hp M1) ∧ am_ev X kM 0 LM [] (hp M1) = some (some (.int v), hp M2) ∧ RR M2
theorem btw {c : Int32} {n : Nat} (hn : n < 2147483648) : (0 ≤ c ∧ c ≤ nI n - 1) ↔ ∃ k, k < n ∧ c = nI k := by
  constructor
  · intro ⟨h1, h2⟩
    obtain ⟨u, hu, rfl⟩ := nI_of (Int32.not_lt.mpr h1)
    refine ⟨u, ?_, rfl⟩
    rcases Nat.eq_zero_or_pos n with h0 | h0
    · subst h0
      rw [nI_0, Int32.le_iff_toInt_le, nI_toInt hu] at h2
      have e : ((0 : Int32) - 1).toInt = -1 := by decide
      omega
    · rw [nl_sub' (show 1 ≤ n from h0), le_nn hu (by omega)] at h2
      have : (OfNat.ofNat 1 : Nat) = 1 := rfl
      omega
  · rintro ⟨k, hk, rfl⟩
    refine ⟨?_, ?_⟩
    · rw [le_ln (by omega) (by decide)]; exact Nat.zero_le k
    · rw [nl_sub' (show 1 ≤ n by omega), le_nn (by omega) (by omega)]
      have : (OfNat.ofNat 1 : Nat) = 1 := rfl
      omega
section S67
variable {X : am_X} {M : Nat → Nat → Int32}
theorem C_bt1 {k n : Nat} (h : k < n) (hn : n < 2147483648) : am_ev X kX8_isBetween 0 [.int (nI k), .int 0, .int (nI n - 1)] [] (hp M) = some (some (.int 1), hp M) := by
  rw [C_isBetween, if_pos ((btw hn).mpr ⟨k, h, rfl⟩)]
theorem C_bt0 {c : Int32} {n : Nat} (hn : n < 2147483648) (h : ¬ ∃ k, k < n ∧ c = nI k) : am_ev X kX8_isBetween 0 [.int c, .int 0, .int (nI n - 1)] [] (hp M) = some (some (.int 0), hp M) := by
  rw [C_isBetween, if_neg (fun z => h ((btw hn).mp z))]
theorem M_col1 {k n : Nat} (h0 : M 83 0 = nI n) (h : k < n) (hn : n < 2147483648) : am_ev X kX9_isColumn 0 [.ref 82, .int (nI k)] [] (hp M) = some (some (.int 1), hp M) := by
  rw [M_isColumn, h0, if_pos ((btw hn).mpr ⟨k, h, rfl⟩)]
theorem M_col0 {c : Int32} {n : Nat} (h0 : M 83 0 = nI n) (hn : n < 2147483648) (h : ¬ ∃ k, k < n ∧ c = nI k) : am_ev X kX9_isColumn 0 [.ref 82, .int c] [] (hp M) = some (some (.int 0), hp M) := by
  rw [M_isColumn, h0, if_neg (fun z => h ((btw hn).mp z))]
theorem M_itm1 {k n : Nat} (h0 : M 83 25 = nI n) (h : k < n) (hn : n < 2147483648) : am_ev X kX9_isItem 0 [.ref 82, .int (nI k)] [] (hp M) = some (some (.int 1), hp M) := by
  rw [M_isItem, h0, if_pos ((btw hn).mpr ⟨k, h, rfl⟩)]
theorem M_itm0 {c : Int32} {n : Nat} (h0 : M 83 25 = nI n) (hn : n < 2147483648) (h : ¬ ∃ k, k < n ∧ c = nI k) : am_ev X kX9_isItem 0 [.ref 82, .int c] [] (hp M) = some (some (.int 0), hp M) := by
  rw [M_isItem, h0, if_neg (fun z => h ((btw hn).mp z))]
theorem C_itm1 {k n : Nat} (h0 : M 1 7 = nI n) (h : k < n) (hn : n < 2147483648) : am_ev X kX8_isItem 0 [.ref 0, .int (nI k)] [] (hp M) = some (some (.int 1), hp M) := by
  have e := @C_bt1 X M k n h hn
  simp (disch := omega) only [iX8_isItem_0, iX8_isItem_1, iX8_isItem_2, iX8_isItem_3, iX8_isItem_6, iX8_isItem_9, iX8_isItem_10, iX8_isItem_11, iX8_isItem_14, true_or, or_true, Option.bind_some, Option.bind_none, kk_hp, kn_hp, el_i, el_b, el_z, am_cat_nil, am_cat_i, am_cat_r, am_cat_l, am_cat_n, gd_i, gd_r, gd_n, gd_u, List.length_cons, List.length_nil, true_and, and_true, ↓reduceIte, Nat.zero_le, Nat.reduceLeDiff, Nat.reduceAdd, e_10, e_01, e_00, e_11, Int32.reduceLE, Int32.reduceLT, Int32.reduceAdd, Int32.reduceSub, b01, if_true, if_false, ite_self, rc_0, gf_0_0, gf_0_1, gf_0_2, gf_0_3, gf_0_4, gf_0_5, gf_0_6, gf_0_7, gf_0_8, pf_0_8, gf_0_9, pf_0_9, rc_1, gf_1_0, pf_1_0, gf_1_1, gf_1_2, gf_1_3, pf_1_3, gf_1_4, pf_1_4, gf_1_5, pf_1_5, gf_1_6, pf_1_6, gf_1_7, pf_1_7, gf_1_8, gf_1_9, h0, e]
theorem C_itm0 {c : Int32} {n : Nat} (h0 : M 1 7 = nI n) (hn : n < 2147483648) (h : ¬ ∃ k, k < n ∧ c = nI k) : am_ev X kX8_isItem 0 [.ref 0, .int c] [] (hp M) = some (some (.int 0), hp M) := by
  have e := @C_bt0 X M c n hn h
  simp (disch := omega) only [iX8_isItem_0, iX8_isItem_1, iX8_isItem_2, iX8_isItem_3, iX8_isItem_6, iX8_isItem_9, iX8_isItem_10, iX8_isItem_11, iX8_isItem_14, true_or, or_true, Option.bind_some, Option.bind_none, kk_hp, kn_hp, el_i, el_b, el_z, am_cat_nil, am_cat_i, am_cat_r, am_cat_l, am_cat_n, gd_i, gd_r, gd_n, gd_u, List.length_cons, List.length_nil, true_and, and_true, ↓reduceIte, Nat.zero_le, Nat.reduceLeDiff, Nat.reduceAdd, e_10, e_01, e_00, e_11, Int32.reduceLE, Int32.reduceLT, Int32.reduceAdd, Int32.reduceSub, b01, if_true, if_false, ite_self, rc_0, gf_0_0, gf_0_1, gf_0_2, gf_0_3, gf_0_4, gf_0_5, gf_0_6, gf_0_7, gf_0_8, pf_0_8, gf_0_9, pf_0_9, rc_1, gf_1_0, pf_1_0, gf_1_1, gf_1_2, gf_1_3, pf_1_3, gf_1_4, pf_1_4, gf_1_5, pf_1_5, gf_1_6, pf_1_6, gf_1_7, pf_1_7, gf_1_8, gf_1_9, h0, e]
/-- what every question has -/
theorem Q_all (h : RR M) : ∃ M1, am_ev X kX8_arrange 0 [.ref 0] [] (hp M) = some (none, hp M1) ∧ DR M1 (M 83) ∧ RG M1 1 (M 83) ∧ M1 83 = M 83 ∧ RR M1 ∧ ∃ M2, am_ev X kX9_find 0 [.ref 82] [] (hp M1) = some (none, hp M2) ∧ FR M2 (M 83) ∧ M2 83 = M 83 ∧ RR M2 := by
  obtain ⟨M1, e1, fA, z, hD⟩ := @C_arrange X M (M 83) h.1 h.2.1 h.2.2.1
  have e83 : M1 83 = M 83 := fA.1 83 (by decide) (by decide)
  obtain ⟨M2, e2, fF, hF⟩ := @M_find X M1 (M 83) h.1 e83 hD.1.1
  exact ⟨M1, e1, hD, RG_fa (fun k hk => fA.1 _ (by omega) (by omega)) h.2.1, e83, RR_q h fA z hD (frF_r M1), M2, e2, hF, (fF.1 83 (by decide) (by decide)).trans e83, RR_q h fA z hD fF⟩
/-- what a question has that only the reference finds -/
theorem Q_ref (h : RR M) : ∃ M2, am_ev X kX9_find 0 [.ref 82] [] (hp M) = some (none, hp M2) ∧ M2 83 = M 83 ∧ RR M2 := by
  obtain ⟨M1, e1, fA, z, hD⟩ := @C_arrange X M (M 83) h.1 h.2.1 h.2.2.1
  obtain ⟨M2, e2, fF, hF⟩ := @M_find X M (M 83) h.1 rfl hD.1.1
  exact ⟨M2, e2, fF.1 83 (by decide) (by decide), RR_f h fF⟩
end S67
