/-! all is found: the class arranges, the reference finds -/
def DR (M : Nat → Nat → Int32) (s : Nat → Int32) : Prop :=
  RPL M s (Sq s 3 0) (PS s) ∧ M 64 1 = s 1 ∧ (∀ c, c < nC s → M 67 c = szX s (PS s).2.1 c) ∧ M 72 1 = s 2 ∧ ∀ r, r < roI s → M 75 r = szY s (PS s).2.1 (PS s).2.2.1 r
def frA (M M' : Nat → Nat → Int32) : Prop := (∀ a, a ≠ 0 → ¬ (60 ≤ a ∧ a < 82) → M' a = M a) ∧ ∀ j, j ≠ 8 → M' 0 j = M 0 j
def FR (M : Nat → Nat → Int32) (s : Nat → Int32) : Prop :=
  (∀ k, k < 72 → M 89 k = (PS s).1 k) ∧ (∀ i, i < mI s → M 90 i = (PS s).2.1 i ∧ M 91 i = (PS s).2.2.1 i) ∧ M 82 16 = (PS s).2.2.2 ∧
  (∀ c, c < nC s → M 92 c = szX s (PS s).2.1 c) ∧ ∀ r, r < 12 → M 93 r = szY s (PS s).2.1 (PS s).2.2.1 r
def frF (M M' : Nat → Nat → Int32) : Prop := (∀ a, a ≠ 82 → ¬ (89 ≤ a ∧ a ≤ 96) → M' a = M a) ∧ ∀ j, j ≠ 16 → M' 82 j = M 82 j
theorem PI_ro {s : Nat → Int32} (h : PI s (Sq s 3 0) (PS s)) : (PS s).2.2.2 = nI (roI s) ∧ roI s ≤ 12 ∧ (∀ i, i < mI s → (PS s).2.1 i = -4 ∨ ∃ c r, (PS s).2.1 i = nI c ∧ (PS s).2.2.1 i = nI r ∧ c + wI s i ≤ nC s ∧ r + tI s i ≤ roI s) := by
  obtain ⟨ro, h1, h2, h3, h4, h5, h6⟩ := h
  have : roI s = ro := by unfold roI; rw [h2, nI_clamp (by omega)]
  rw [this]
  exact ⟨h2, h1, fun i hi => h4 i hi (Sq_all hi)⟩
theorem PI_stX {s C : Nat → Int32} (h : PI s (Sq s 3 0) (PS s)) (hC : ∀ i, i < mI s → C i = (PS s).2.1 i) : stX s C := by
  intro i hi
  rw [hC i hi]
  rcases (PI_ro h).2.2 i hi with h | ⟨c, r, e1, e2, e3, e4⟩
  · exact Or.inl h
  · exact Or.inr ⟨c, e1, e3⟩
theorem PI_stR {s C R : Nat → Int32} {n : Nat} (hwf : wf s) (h : PI s (Sq s 3 0) (PS s)) (hn : roI s ≤ n) (hC : ∀ i, i < mI s → C i = (PS s).2.1 i ∧ R i = (PS s).2.2.1 i) : ∀ i, i < mI s → C i = -4 ∨ C i ≠ -4 ∧ ∃ r, R i = nI r ∧ r + tI s i ≤ n := by
  intro i hi
  rw [(hC i hi).1, (hC i hi).2]
  have := hwf.1.2
  rcases (PI_ro h).2.2 i hi with h | ⟨c, r, e1, e2, e3, e4⟩
  · exact Or.inl h
  · exact Or.inr ⟨by rw [e1]; exact nI_ne (by omega), r, e2, by omega⟩
theorem RPL_fr {M M' : Nat → Nat → Int32} {s : Nat → Int32} {S : Nat → Prop} {P : PT} (h : RPL M s S P) (e : ∀ a, 60 ≤ a → a < 64 → M' a = M a) : RPL M' s S P := by
  unfold RPL at h ⊢
  rw [e 60 (by decide) (by decide), e 61 (by decide) (by decide), e 62 (by decide) (by decide), e 63 (by decide) (by decide)]
  exact h
theorem RG_fa {M M' : Nat → Nat → Int32} {g : Nat} {s : Nat → Int32} (h : ∀ k, k < 11 → M' (g + k) = M (g + k)) (hR : RG M g s) : RG M' g s := by
  obtain ⟨r1, r2, r3, r4⟩ := hR
  have e0 : M' g = M g := h 0 (by omega)
  refine ⟨by rw [e0]; exact r1, fun c hc => by rw [h 1 (by omega), h 2 (by omega)]; exact r2 c hc, fun v hv => by rw [h 10 (by omega)]; exact r3 v hv, fun i hi w hw => ?_⟩
  rw [Nat.add_assoc, h (4 + w) (by omega), ← Nat.add_assoc]
  exact r4 i hi w hw
section S66
variable {X : am_X} {M : Nat → Nat → Int32}
theorem C_arrange {s : Nat → Int32} (hwf : wf s) (hR : RG M 1 s) (h8 : M 0 8 = 1 ∨ M 0 8 = 0 ∧ DR M s) : ∃ M', am_ev X kX8_arrange 0 [.ref 0] [] (hp M) = some (none, hp M') ∧ frA M M' ∧ M' 0 8 = 0 ∧ DR M' s := by
  rcases h8 with h8 | ⟨h8, hD⟩
  · have hK : ∀ a, a ≠ 0 → (up M 0 8 0) a = M a := fun a ha => up_n _ _ _ ha
    have hR0 : RG (up M 0 8 0) 1 s := RG_fa (fun k hk => hK _ (by omega)) hR
    obtain ⟨M1, e1, f1, d1⟩ := @C_placeAll X (up M 0 8 0) 1 s (Or.inl rfl) hR0 hwf (fun _ => -4, fun _ => 0, fun _ => 0, 0) (fun _ _ => rfl) rfl
    have d1' : RPL M1 s (Sq s 3 0) (PS s) := d1
    have hPI := d1'.1
    obtain ⟨h2, h12, hst⟩ := PI_ro hPI
    have hR1 : RG M1 1 s := RG_fr (Or.inl rfl) f1 hR0
    have h61 : ∀ i, i < mI s → M1 61 i = (PS s).2.1 i ∧ M1 62 i = (PS s).2.2.1 i := fun i hi => d1'.2.2.2.1 i hi (Sq_all hi)
    obtain ⟨M2, e2, f2, g2, k2⟩ := @C_measureColumns X M1 s (PS s).2.1 hwf hR1 (PI_stX hPI (fun _ _ => rfl)) (fun i hi => (h61 i hi).1)
    have hR2 : RG M2 1 s := RG_fa (fun k hk => f2 _ (by omega) (by omega) (by omega)) hR1
    have e60 : ∀ a, 60 ≤ a → a < 64 → M2 a = M1 a := fun a h1 h2 => f2 a (by omega) (by omega) (by omega)
    have h60 : M2 60 3 = nI (roI s) := by rw [e60 60 (by decide) (by decide), ← h2]; exact d1'.2.2.1
    obtain ⟨M3, e3, f3, g3, k3⟩ := @C_measureRows X M2 s (PS s).2.1 (PS s).2.2.1 (roI s) hwf hR2 h12 h60 (PI_stR hwf hPI (Nat.le_refl _) (fun _ _ => ⟨rfl, rfl⟩)) (fun i hi => by rw [e60 61 (by decide) (by decide), e60 62 (by decide) (by decide)]; exact h61 i hi)
    refine ⟨M3, ?_, ⟨fun a h0 ha => ?_, fun j hj => ?_⟩, ?_, RPL_fr d1' (fun a h1 h2 => by rw [f3 a (by omega), e60 a h1 h2]), by rw [f3 64 (by decide)]; exact g2, fun c hc => by rw [f3 67 (by decide)]; exact k2 c hc, g3, k3⟩
    · simp (disch := omega) only [iX8_arrange_0, iX8_arrange_1, iX8_arrange_4, iX8_arrange_7, iX8_arrange_8, iX8_arrange_9, iX8_arrange_10, iX8_arrange_13, iX8_arrange_14, iX8_arrange_17, iX8_arrange_18, iX8_arrange_21, iX8_arrange_24, iX8_arrange_25, iX8_arrange_28, iX8_arrange_29, iX8_arrange_32, true_or, or_true, Option.bind_some, Option.bind_none, kk_hp, kn_hp, el_i, el_b, el_z, am_cat_nil, am_cat_i, am_cat_r, am_cat_l, am_cat_n, gd_i, gd_r, gd_n, gd_u, List.length_cons, List.length_nil, true_and, and_true, ↓reduceIte, Nat.zero_le, Nat.reduceLeDiff, Nat.reduceAdd, e_10, e_01, e_00, e_11, Int32.reduceLE, Int32.reduceLT, Int32.reduceAdd, Int32.reduceSub, b01, if_true, if_false, ite_self, rc_0, gf_0_0, gf_0_1, gf_0_2, gf_0_3, gf_0_4, gf_0_5, gf_0_6, gf_0_7, gf_0_8, pf_0_8, gf_0_9, pf_0_9, rc_60, gf_60_0, gf_60_1, gf_60_2, gf_60_3, pf_60_3, gf_60_4, pf_60_4, gf_60_5, pf_60_5, h8, e1, e2, e3]
    · rw [f3 a (by omega), f2 a (by omega) (by omega) (by omega), f1 a (by omega) (by omega) (by omega) (by omega), hK a h0]
    · rw [f3 0 (by decide), f2 0 (by decide) (by decide) (by decide), f1 0 (by decide) (by decide) (by decide) (by decide), up_s, pk_un hj]
    · rw [f3 0 (by decide), f2 0 (by decide) (by decide) (by decide), f1 0 (by decide) (by decide) (by decide) (by decide), up_s, pk_us]
  · refine ⟨M, ?_, ⟨fun _ _ _ => rfl, fun _ _ => rfl⟩, h8, hD⟩
    simp (disch := omega) only [iX8_arrange_0, iX8_arrange_1, iX8_arrange_4, iX8_arrange_7, true_or, or_true, Option.bind_some, Option.bind_none, kk_hp, kn_hp, el_i, el_b, el_z, am_cat_nil, am_cat_i, am_cat_r, am_cat_l, am_cat_n, gd_i, gd_r, gd_n, gd_u, List.length_cons, List.length_nil, true_and, and_true, ↓reduceIte, Nat.zero_le, Nat.reduceLeDiff, Nat.reduceAdd, e_10, e_01, e_00, e_11, Int32.reduceLE, Int32.reduceLT, Int32.reduceAdd, Int32.reduceSub, b01, if_true, if_false, ite_self, rc_0, gf_0_0, gf_0_1, gf_0_2, gf_0_3, gf_0_4, gf_0_5, gf_0_6, gf_0_7, gf_0_8, pf_0_8, gf_0_9, pf_0_9, h8]
theorem M_find {s : Nat → Int32} (hwf : wf s) (h83 : M 83 = s) (hPI : PI s (Sq s 3 0) (PS s)) : ∃ M', am_ev X kX9_find 0 [.ref 82] [] (hp M) = some (none, hp M') ∧ frF M M' ∧ FR M' s := by
  subst h83
  obtain ⟨h2, h12, hst⟩ := PI_ro hPI
  obtain ⟨M1, e1, f1, g1⟩ := @M_place X M hwf
  have hPE : PE (M 83) (Sq (M 83) 3 0) (plc (M 83) (P0 M)) (PS (M 83)) := PE_plc hwf (fun k hk => by unfold P0; dsimp only; rw [fil_in hk]) rfl
  rw [← g1] at hPE
  obtain ⟨p1, p2, p3⟩ := hPE
  have a83 : M1 83 = M 83 := f1.1 83 (by decide) (by decide) (by decide) (by decide)
  have p2' : ∀ i, i < mI (M 83) → M1 90 i = (PS (M 83)).2.1 i ∧ M1 91 i = (PS (M 83)).2.2.1 i := fun i hi => p2 i hi (Sq_all hi)
  obtain ⟨M2, e2, f2, g2⟩ := @M_findAutos X M1 (by rw [a83]; exact hwf) (by rw [a83]; exact PI_stX hPI (fun i hi => (p2' i hi).1))
  rw [a83] at g2
  have b83 : M2 83 = M 83 := (f2 83 (by decide) (by decide)).trans a83
  have b90 : M2 90 = M1 90 := f2 90 (by decide) (by decide)
  have b91 : M2 91 = M1 91 := f2 91 (by decide) (by decide)
  have hflex : ∃ M3, am_ev X kX9_find 8 [.ref 82] [] (hp M2) = am_ev X kX9_find 30 [.ref 82] [] (hp M3) ∧ (∀ a, a ≠ 92 → a ≠ 94 → a ≠ 95 → a ≠ 96 → M3 a = M2 a) ∧ ∀ c, c < nC (M 83) → M3 92 c = szX (M 83) (M1 90) c := by
    by_cases hw : M 83 3 = -4
    · obtain ⟨M3, e3, f3, g3⟩ := @M_findFlexFree X M2 (szR (kdX (M 83)) (M 83 1) (glX (M 83) (M1 90) (mI (M 83))) (z0 (M 83)) 6) (by rw [b83]; exact hwf) (by rw [b83, b90]; exact PI_stX hPI (fun i hi => (p2' i hi).1)) (by rw [b83]; exact g2)
      rw [b83, b90] at g3
      have w3 : M2 83 3 = -4 := by rw [b83]; exact hw
      refine ⟨M3, ?_, fun a h1 _ _ _ => f3 a h1, fun c hc => ?_⟩
      · simp (disch := omega) only [iX9_find_8, iX9_find_9, iX9_find_12, iX9_find_13, iX9_find_14, iX9_find_16, iX9_find_19, iX9_find_20, iX9_find_23, iX9_find_26, iX9_find_27, true_or, or_true, Option.bind_some, Option.bind_none, kk_hp, kn_hp, el_i, el_b, el_z, am_cat_nil, am_cat_i, am_cat_r, am_cat_l, am_cat_n, gd_i, gd_r, gd_n, gd_u, List.length_cons, List.length_nil, true_and, and_true, ↓reduceIte, Nat.zero_le, Nat.reduceLeDiff, Nat.reduceAdd, e_10, e_01, e_00, e_11, Int32.reduceLE, Int32.reduceLT, Int32.reduceAdd, Int32.reduceSub, b01, if_true, if_false, ite_self, nl_add, nl_add', nl_mul, nI_add, in_t, cl_n, le_nn, lt_nn, le_ln, le_nl, lt_nl, lt_ln, eq_nn, eq_nl, in_lit, cl_lit, Nat.le_refl, Nat.add_zero, rc_82, gf_82_0, gf_82_1, gf_82_2, gf_82_3, gf_82_4, gf_82_5, gf_82_6, pf_82_6, gf_82_7, pf_82_7, gf_82_8, pf_82_8, gf_82_9, pf_82_9, gf_82_10, pf_82_10, gf_82_11, pf_82_11, gf_82_12, pf_82_12, gf_82_13, gf_82_14, gf_82_15, gf_82_16, pf_82_16, gf_82_17, gf_82_18, gf_82_19, gf_82_20, gf_82_21, gf_82_22, gf_82_23, gf_82_24, gf_82_25, pf_82_25, ga_83, wi_83, ga_84, wi_84, ga_85, wb_85, ga_86, wi_86, ga_87, wb_87, ga_88, wi_88, ga_89, wi_89, ga_90, wi_90, ga_91, wi_91, ga_92, wi_92, ga_93, wi_93, ga_94, wi_94, ga_95, wi_95, ga_96, wb_96, ga_97, wi_97, ga_98, wi_98, ga_99, wi_99, w3, e3]
      · rw [g3 c hc, szX, if_pos hw]
    · obtain ⟨M3, e3, f3, g3⟩ := @M_findFlexIn X M2 (szR (kdX (M 83)) (M 83 1) (glX (M 83) (M1 90) (mI (M 83))) (z0 (M 83)) 6) (by rw [b83]; exact hwf) (by rw [b83, b90]; exact PI_stX hPI (fun i hi => (p2' i hi).1)) (by rw [b83]; exact g2)
      rw [b83, b90] at g3
      have w3 : ¬ M2 83 3 = -4 := by rw [b83]; exact hw
      refine ⟨M3, ?_, f3, fun c hc => ?_⟩
      · simp (disch := omega) only [iX9_find_8, iX9_find_9, iX9_find_12, iX9_find_13, iX9_find_14, iX9_find_16, iX9_find_19, iX9_find_20, iX9_find_23, iX9_find_26, iX9_find_27, true_or, or_true, Option.bind_some, Option.bind_none, kk_hp, kn_hp, el_i, el_b, el_z, am_cat_nil, am_cat_i, am_cat_r, am_cat_l, am_cat_n, gd_i, gd_r, gd_n, gd_u, List.length_cons, List.length_nil, true_and, and_true, ↓reduceIte, Nat.zero_le, Nat.reduceLeDiff, Nat.reduceAdd, e_10, e_01, e_00, e_11, Int32.reduceLE, Int32.reduceLT, Int32.reduceAdd, Int32.reduceSub, b01, if_true, if_false, ite_self, nl_add, nl_add', nl_mul, nI_add, in_t, cl_n, le_nn, lt_nn, le_ln, le_nl, lt_nl, lt_ln, eq_nn, eq_nl, in_lit, cl_lit, Nat.le_refl, Nat.add_zero, rc_82, gf_82_0, gf_82_1, gf_82_2, gf_82_3, gf_82_4, gf_82_5, gf_82_6, pf_82_6, gf_82_7, pf_82_7, gf_82_8, pf_82_8, gf_82_9, pf_82_9, gf_82_10, pf_82_10, gf_82_11, pf_82_11, gf_82_12, pf_82_12, gf_82_13, gf_82_14, gf_82_15, gf_82_16, pf_82_16, gf_82_17, gf_82_18, gf_82_19, gf_82_20, gf_82_21, gf_82_22, gf_82_23, gf_82_24, gf_82_25, pf_82_25, ga_83, wi_83, ga_84, wi_84, ga_85, wb_85, ga_86, wi_86, ga_87, wb_87, ga_88, wi_88, ga_89, wi_89, ga_90, wi_90, ga_91, wi_91, ga_92, wi_92, ga_93, wi_93, ga_94, wi_94, ga_95, wi_95, ga_96, wb_96, ga_97, wi_97, ga_98, wi_98, ga_99, wi_99, w3, e3]
      · rw [g3 c hc, szX, if_neg hw]
  obtain ⟨M3, e3, f3, g3⟩ := hflex
  have c83 : M3 83 = M 83 := (f3 83 (by decide) (by decide) (by decide) (by decide)).trans b83
  have c90 : M3 90 = M1 90 := (f3 90 (by decide) (by decide) (by decide) (by decide)).trans b90
  have c91 : M3 91 = M1 91 := (f3 91 (by decide) (by decide) (by decide) (by decide)).trans b91
  obtain ⟨M4, e4, f4, g4⟩ := @M_findRows X M3 (by rw [c83]; exact hwf) (by rw [c83, c90, c91]; exact PI_stR hwf hPI h12 p2')
  rw [c83, c90, c91] at g4
  have F : ∀ a, a ≠ 92 → a ≠ 93 → a ≠ 94 → a ≠ 95 → a ≠ 96 → M4 a = M1 a := fun a h1 h2 h3 h4 h5 => by rw [f4 a h2 h3, f3 a h1 h3 h4 h5, f2 a h1 h3]
  refine ⟨M4, ?_, ⟨fun a h0 ha => ?_, fun j hj => ?_⟩, ?_, ?_, ?_, ?_, ?_⟩
  · simp (disch := omega) only [iX9_find_0, iX9_find_1, iX9_find_4, iX9_find_5, true_or, or_true, Option.bind_some, Option.bind_none, kk_hp, kn_hp, el_i, el_b, el_z, am_cat_nil, am_cat_i, am_cat_r, am_cat_l, am_cat_n, gd_i, gd_r, gd_n, gd_u, List.length_cons, List.length_nil, true_and, and_true, ↓reduceIte, Nat.zero_le, Nat.reduceLeDiff, Nat.reduceAdd, e_10, e_01, e_00, e_11, Int32.reduceLE, Int32.reduceLT, Int32.reduceAdd, Int32.reduceSub, b01, if_true, if_false, ite_self, nl_add, nl_add', nl_mul, nI_add, in_t, cl_n, le_nn, lt_nn, le_ln, le_nl, lt_nl, lt_ln, eq_nn, eq_nl, in_lit, cl_lit, Nat.le_refl, Nat.add_zero, rc_82, gf_82_0, gf_82_1, gf_82_2, gf_82_3, gf_82_4, gf_82_5, gf_82_6, pf_82_6, gf_82_7, pf_82_7, gf_82_8, pf_82_8, gf_82_9, pf_82_9, gf_82_10, pf_82_10, gf_82_11, pf_82_11, gf_82_12, pf_82_12, gf_82_13, gf_82_14, gf_82_15, gf_82_16, pf_82_16, gf_82_17, gf_82_18, gf_82_19, gf_82_20, gf_82_21, gf_82_22, gf_82_23, gf_82_24, gf_82_25, pf_82_25, ga_83, wi_83, ga_84, wi_84, ga_85, wb_85, ga_86, wi_86, ga_87, wb_87, ga_88, wi_88, ga_89, wi_89, ga_90, wi_90, ga_91, wi_91, ga_92, wi_92, ga_93, wi_93, ga_94, wi_94, ga_95, wi_95, ga_96, wb_96, ga_97, wi_97, ga_98, wi_98, ga_99, wi_99, e1, e2]
    rw [e3]
    simp (disch := omega) only [iX9_find_30, iX9_find_31, iX9_find_34, true_or, or_true, Option.bind_some, Option.bind_none, kk_hp, kn_hp, el_i, el_b, el_z, am_cat_nil, am_cat_i, am_cat_r, am_cat_l, am_cat_n, gd_i, gd_r, gd_n, gd_u, List.length_cons, List.length_nil, true_and, and_true, ↓reduceIte, Nat.zero_le, Nat.reduceLeDiff, Nat.reduceAdd, e_10, e_01, e_00, e_11, Int32.reduceLE, Int32.reduceLT, Int32.reduceAdd, Int32.reduceSub, b01, if_true, if_false, ite_self, nl_add, nl_add', nl_mul, nI_add, in_t, cl_n, le_nn, lt_nn, le_ln, le_nl, lt_nl, lt_ln, eq_nn, eq_nl, in_lit, cl_lit, Nat.le_refl, Nat.add_zero, rc_82, gf_82_0, gf_82_1, gf_82_2, gf_82_3, gf_82_4, gf_82_5, gf_82_6, pf_82_6, gf_82_7, pf_82_7, gf_82_8, pf_82_8, gf_82_9, pf_82_9, gf_82_10, pf_82_10, gf_82_11, pf_82_11, gf_82_12, pf_82_12, gf_82_13, gf_82_14, gf_82_15, gf_82_16, pf_82_16, gf_82_17, gf_82_18, gf_82_19, gf_82_20, gf_82_21, gf_82_22, gf_82_23, gf_82_24, gf_82_25, pf_82_25, ga_83, wi_83, ga_84, wi_84, ga_85, wb_85, ga_86, wi_86, ga_87, wb_87, ga_88, wi_88, ga_89, wi_89, ga_90, wi_90, ga_91, wi_91, ga_92, wi_92, ga_93, wi_93, ga_94, wi_94, ga_95, wi_95, ga_96, wb_96, ga_97, wi_97, ga_98, wi_98, ga_99, wi_99, e4]
  · rw [F a (by omega) (by omega) (by omega) (by omega) (by omega), f1.1 a h0 (by omega) (by omega) (by omega)]
  · rw [F 82 (by decide) (by decide) (by decide) (by decide) (by decide), f1.2 j hj]
  · intro k hk; rw [F 89 (by decide) (by decide) (by decide) (by decide) (by decide)]; exact p1 k hk
  · intro i hi; rw [F 90 (by decide) (by decide) (by decide) (by decide) (by decide), F 91 (by decide) (by decide) (by decide) (by decide) (by decide)]; exact p2' i hi
  · rw [F 82 (by decide) (by decide) (by decide) (by decide) (by decide)]; exact p3
  · intro c hc
    rw [f4 92 (by decide) (by decide), g3 c hc, szX_ext (fun i hi => (p2' i hi).1)]
  · intro r hr
    rw [g4 r hr, ← szY_ext p2']
    rfl
end S66
