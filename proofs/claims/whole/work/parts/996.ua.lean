/-! a text: both answer alike -/
/-- a text that is refused -/
theorem RR_tf {M M2 : Nat → Nat → Int32} (h : RR M) (e : ∀ a, a ≠ 12 → a ≠ 13 → ¬ (15 ≤ a ∧ a ≤ 25) → a ≠ 82 → a ≠ 86 → a ≠ 87 → M2 a = M a) (e6 : M2 82 6 = 0) (e1 : M2 13 1 = 0) (ef : M2 82 11 = M2 12 2) (e25 : M2 82 25 = M 82 25) : RR M2 := by
  obtain ⟨h1, h2, h3, h4, h5, h6, h7, h8⟩ := h
  have e83 : M2 83 = M 83 := e 83 (by decide) (by decide) (by decide) (by decide) (by decide) (by decide)
  refine ⟨by rw [e83]; exact h1, ?_, ?_, ?_, ?_, ?_, ef, ?_⟩
  · rw [e83]; exact RG_fa (fun q hq => e _ (by omega) (by omega) (by omega) (by omega) (by omega) (by omega)) h2
  · rw [e83, e 0 (by decide) (by decide) (by decide) (by decide) (by decide) (by decide)]
    exact h3.elim Or.inl (fun z => Or.inr ⟨z.1, DR_fr z.2 (fun a ha hb => e a (by omega) (by omega) (by omega) (by omega) (by omega) (by omega))⟩)
  · exact RI_fr h4 (fun a ha hb => e a (by omega) (by omega) (by omega) (by omega) (by omega) (by omega)) (e 84 (by decide) (by decide) (by decide) (by decide) (by decide) (by decide)) (e 85 (by decide) (by decide) (by decide) (by decide) (by decide) (by decide))
  · exact ⟨0, by decide, e6, e1, fun p hp2 => by omega⟩
  · exact RSh_fr h6 (fun a ha hb => e a (by omega) (by omega) (by omega) (by omega) (by omega) (by omega)) (e 97 (by decide) (by decide) (by decide) (by decide) (by decide) (by decide)) (e 98 (by decide) (by decide) (by decide) (by decide) (by decide) (by decide)) (e 99 (by decide) (by decide) (by decide) (by decide) (by decide) (by decide))
  · rw [e25, e 0 (by decide) (by decide) (by decide) (by decide) (by decide) (by decide)]; exact h8
/-- a text that is taken -/
theorem RR_tt {M M2 : Nat → Nat → Int32} (h : RR M) (e : ∀ a, 11 < a → a ≠ 12 → a ≠ 13 → ¬ (15 ≤ a ∧ a ≤ 25) → a ≠ 27 → a ≠ 39 → a ≠ 82 → a ≠ 83 → a ≠ 85 → a ≠ 86 → a ≠ 87 → M2 a = M a) (e6 : M2 82 6 = 0) (e1 : M2 13 1 = 0) (ef : M2 82 11 = M2 12 2) (e25 : M2 82 25 = M 82 25) (e9 : M2 0 9 = M 0 9) (e8 : M2 0 8 = 1) (hw : wf (M2 83)) (hg : RG M2 1 (M2 83)) (i0 : M2 85 0 = 0) (i1 : M2 85 1 = 0) (j0 : M2 27 1 = 0) (j1 : M2 39 1 = 0) : RR M2 := by
  obtain ⟨h1, h2, h3, h4, h5, h6, h7, h8⟩ := h
  refine ⟨hw, hg, Or.inl e8, ?_, ⟨0, by decide, e6, e1, fun p hp2 => by omega⟩, ?_, ef, by rw [e25, e9]; exact h8⟩
  · intro k hk
    have : k = 0 ∨ k = 1 := by omega
    rcases this with rfl | rfl
    · exact ⟨j0.trans i0.symm, Or.inl i0⟩
    · exact ⟨j1.trans i1.symm, Or.inl i1⟩
  · exact RSh_fr h6 (fun a ha hb => e a (by omega) (by omega) (by omega) (by omega) (by omega) (by omega) (by omega) (by omega) (by omega) (by omega) (by omega)) (e 97 (by decide) (by decide) (by decide) (by decide) (by decide) (by decide) (by decide) (by decide) (by decide) (by decide) (by decide)) (e 98 (by decide) (by decide) (by decide) (by decide) (by decide) (by decide) (by decide) (by decide) (by decide) (by decide) (by decide)) (e 99 (by decide) (by decide) (by decide) (by decide) (by decide) (by decide) (by decide) (by decide) (by decide) (by decide) (by decide))
section S996
variable {X : am_X} {M : Nat → Nat → Int32}
theorem TT (hX : X.2.2 = .null ∨ X.2.2 = .ref 1200) (h : RR M) : ∃ n r v M', am_ev X kX6_tellAll 0 [.ref 12, am_u] [] (hp M) = some (some (.int v), hp M') ∧ cX M M' ∧ teC M' n v r ∧
    ∀ R : Nat → Nat → Int32, (∀ a, 82 ≤ a → R a = M a) → ∃ R' u, am_ev X kX9_text 0 [.ref 82, am_u] [] (hp R) = am_ev X kX9_text 44 [.ref 82, .int u] [] (hp R') ∧ rX R R' ∧ teM R' n u r := by
  obtain ⟨n, hn, t1, t2, t3⟩ := h.2.2.2.2.1
  have hb : ∀ p, p < n → M 14 p = nI ((M 88 p).toNatClampNeg) ∧ M 88 p = nI ((M 88 p).toNatClampNeg) ∧ (M 88 p).toNatClampNeg < 128 := fun p hpn => by
    obtain ⟨i1, c, i2, i3⟩ := t3 p hpn
    rw [i1, i3, nI_clamp (by omega)]
    exact ⟨rfl, rfl, i2⟩
  generalize hbb : (fun p => (M 88 p).toNatClampNeg) = b
  have tp : TP M n b := ⟨hn, t2, fun p hpn => by rw [← hbb]; exact ⟨(hb p hpn).1, (hb p hpn).2.2⟩⟩
  have tq : TQ M n b := ⟨hn, t1, fun p hpn => by rw [← hbb]; exact ⟨(hb p hpn).2.1, (hb p hpn).2.2⟩⟩
  obtain ⟨M1, e1, c1, c2, c3, c4, c5, c6⟩ := @C_textClear X M
  have tp1 : TP M1 n b := TP_S tp (c3.trans t2) (c1 14 (by decide) (by decide) (by decide))
  obtain ⟨M2, z1, z2, z3, z4, z5, z6, z7⟩ := @C_advance X M1 n 0 b tp1 c2 (by omega)
  obtain ⟨r, v, M3, a1, a2, a3, a4⟩ := TL (X := X) (n := n) (b := b) hX n 0 0 M2 (dr0 (M 86)) (fun _ => false) (by omega) (TP_S tp1 z3 (z2 14 (by decide))) ⟨z4, z5, z6, z7⟩ (by omega) (by omega) (RG_fa (fun j hj => z2 _ (by omega)) c6) (dr0_W _) (fun j hj => by rw [z2 12 (by decide)]; exact c5 j hj) (fun _ => dr0_n _) (by rw [z2 12 (by decide)]; exact c4)
  refine ⟨n, r, v, M3, ?_, cX_t (cX_t c1 (fun a _ h2 _ => z2 a h2)) a2, a3, fun R hR => ?_⟩
  · rw [← a1, nI_0]
    simp (disch := omega) only [iX6_tellAll_0, iX6_tellAll_1, iX6_tellAll_4, iX6_tellAll_5, iX6_tellAll_6, iX6_tellAll_7, iX6_tellAll_10, true_or, or_true, Option.bind_some, Option.bind_none, kk_hp, kn_hp, el_i, el_b, el_z, am_cat_nil, am_cat_i, am_cat_r, am_cat_l, am_cat_n, gd_i, gd_r, gd_n, gd_u, List.length_cons, List.length_nil, true_and, and_true, ↓reduceIte, Nat.zero_le, Nat.reduceLeDiff, Nat.reduceAdd, e_10, e_01, e_00, e_11, Int32.reduceLE, Int32.reduceLT, Int32.reduceAdd, Int32.reduceSub, b01, if_true, if_false, ite_self, rc_12, gf_12_0, gf_12_1, gf_12_2, pf_12_2, gf_12_3, pf_12_3, gf_12_4, pf_12_4, gf_12_5, pf_12_5, gf_12_6, pf_12_6, gf_12_7, pf_12_7, rc_13, gf_13_0, gf_13_1, pf_13_1, gf_13_2, pf_13_2, gf_13_3, pf_13_3, gf_13_4, pf_13_4, gf_13_5, pf_13_5, e1, z1]
  · generalize hR1 : up (up R 82 11 0) 82 7 0 = R1
    have f1 : rX R R1 := ⟨fun a h1 _ _ => by rw [← hR1, up_n _ _ _ h1, up_n _ _ _ h1], fun j hj => by rw [← hR1, up_s, pk_un (by omega), up_s, pk_un (by omega)]⟩
    obtain ⟨R2, y1, y2, y3, y4, y5⟩ := @M_firstDraft X R1
    have r86 : R1 86 = M 86 := by rw [← hR1, up_n _ _ _ (by decide), up_n _ _ _ (by decide)]; exact hR 86 (by decide)
    have tq2 : TQ R2 n b := TQ_fr tq (by rw [(rX_t f1 y2).2 6 (by decide), hR 82 (by decide)]) (by rw [(rX_t f1 y2).1 88 (by decide) (by decide) (by decide), hR 88 (by decide)])
    obtain ⟨R3, w1, w2, w3, w4⟩ := @M_reads X R2 n 0 b tq2 (by rw [y3, ← hR1]; rfl) (by omega) (by rw [y3, ← hR1]; rfl)
    obtain ⟨R4, u, x1, x2, x3⟩ := a4 R3 (TQ_S tq2 ⟨w2, w3⟩) w4 (by rw [w2 86 (by decide), y4, r86]) (fun j hj => by rw [w2 87 (by decide)]; exact y5 j hj)
    refine ⟨R4, u, ?_, rX_t (rX_t (rX_t f1 y2) (rX_S ⟨w2, w3⟩)) x2, x3⟩
    rw [← x1, nI_0]
    simp (disch := omega) only [iX9_text_0, iX9_text_1, iX9_text_2, iX9_text_3, iX9_text_4, iX9_text_7, iX9_text_8, iX9_text_9, iX9_text_12, iX9_text_13, iX9_text_16, iX9_text_17, true_or, or_true, Option.bind_some, Option.bind_none, kk_hp, kn_hp, el_i, el_b, el_z, am_cat_nil, am_cat_i, am_cat_r, am_cat_l, am_cat_n, gd_i, gd_r, gd_n, gd_u, List.length_cons, List.length_nil, true_and, and_true, ↓reduceIte, Nat.zero_le, Nat.reduceLeDiff, Nat.reduceAdd, e_10, e_01, e_00, e_11, Int32.reduceLE, Int32.reduceLT, Int32.reduceAdd, Int32.reduceSub, b01, if_true, if_false, ite_self, rc_82, gf_82_0, gf_82_1, gf_82_2, gf_82_3, gf_82_4, gf_82_5, gf_82_6, pf_82_6, gf_82_7, pf_82_7, gf_82_8, pf_82_8, gf_82_9, pf_82_9, gf_82_10, pf_82_10, gf_82_11, pf_82_11, gf_82_12, pf_82_12, gf_82_13, gf_82_14, gf_82_15, gf_82_16, pf_82_16, gf_82_17, gf_82_18, gf_82_19, gf_82_20, gf_82_21, gf_82_22, gf_82_23, gf_82_24, gf_82_25, pf_82_25, ga_83, wi_83, ga_84, wi_84, ga_85, wb_85, ga_86, wi_86, ga_87, wb_87, ga_88, wi_88, ga_89, wi_89, ga_90, wi_90, ga_91, wi_91, ga_92, wi_92, ga_93, wi_93, ga_94, wi_94, ga_95, wi_95, ga_96, wb_96, ga_97, wi_97, ga_98, wi_98, ga_99, wi_99, nl_add, nl_add', nl_mul, nI_add, in_t, cl_n, le_nn, lt_nn, le_ln, le_nl, lt_nl, lt_ln, eq_nn, eq_nl, in_lit, cl_lit, Nat.le_refl, Nat.add_zero, hR1, y1, w1]
theorem C_forget : am_ev X kX8_forgetImages 0 [.ref 0, am_u, am_u] [] (hp M) = some (none, hp (up (up M 27 1 0) 39 1 0)) := by
  have e1 : am_ev X kX8_forgetImages 0 [.ref 0, am_u, am_u] [] (hp M) = am_ev X kX8_forgetImages 2 [.ref 0, .int 1, .ref 27] [] (hp (up M 27 1 0)) := by
    simp (disch := omega) only [iX8_forgetImages_0, iX8_forgetImages_1, true_or, or_true, Option.bind_some, Option.bind_none, kk_hp, kn_hp, el_i, el_b, el_z, am_cat_nil, am_cat_i, am_cat_r, am_cat_l, am_cat_n, gd_i, gd_r, gd_n, gd_u, List.length_cons, List.length_nil, true_and, and_true, ↓reduceIte, Nat.zero_le, Nat.reduceLeDiff, Nat.reduceAdd, e_10, e_01, e_00, e_11, Int32.reduceLE, Int32.reduceLT, Int32.reduceAdd, Int32.reduceSub, b01, if_true, if_false, ite_self]
    conv => lhs; rw [iX8_forgetImages_2]
    simp (disch := omega) only [iX8_forgetImages_3, iX8_forgetImages_4, iX8_forgetImages_7, iX8_forgetImages_8, iX8_forgetImages_9, iX8_forgetImages_12, iX8_forgetImages_12_n, iX8_forgetImages_13, iX8_forgetImages_13_n, iX8_forgetImages_14, iX8_forgetImages_14_n, iX8_forgetImages_17, iX8_forgetImages_17_n, iX8_forgetImages_18, iX8_forgetImages_19, iX8_forgetImages_22, iX8_forgetImages_25, true_or, or_true, Option.bind_some, Option.bind_none, kk_hp, kn_hp, el_i, el_b, el_z, am_cat_nil, am_cat_i, am_cat_r, am_cat_l, am_cat_n, gd_i, gd_r, gd_n, gd_u, List.length_cons, List.length_nil, true_and, and_true, ↓reduceIte, Nat.zero_le, Nat.reduceLeDiff, Nat.reduceAdd, e_10, e_01, e_00, e_11, Int32.reduceLE, Int32.reduceLT, Int32.reduceAdd, Int32.reduceSub, b01, if_true, if_false, ite_self, rc_0, gf_0_0, gf_0_1, gf_0_2, gf_0_3, gf_0_4, gf_0_5, gf_0_6, gf_0_7, gf_0_8, pf_0_8, gf_0_9, pf_0_9, rc_27, gf_27_0, gf_27_1, pf_27_1, nl_add, nl_add', nl_mul, nI_add, in_t, cl_n, le_nn, lt_nn, le_ln, le_nl, lt_nl, lt_ln, eq_nn, eq_nl, in_lit, cl_lit, Nat.le_refl, Nat.add_zero, C_image0]
  have e2 : ∀ K, am_ev X kX8_forgetImages 2 [.ref 0, .int 1, .ref 27] [] (hp K) = am_ev X kX8_forgetImages 2 [.ref 0, .int 2, .ref 39] [] (hp (up K 39 1 0)) := by
    intro K
    conv => lhs; rw [iX8_forgetImages_2]
    simp (disch := omega) only [iX8_forgetImages_3, iX8_forgetImages_4, iX8_forgetImages_7, iX8_forgetImages_8, iX8_forgetImages_9, iX8_forgetImages_12, iX8_forgetImages_12_n, iX8_forgetImages_13, iX8_forgetImages_13_n, iX8_forgetImages_14, iX8_forgetImages_14_n, iX8_forgetImages_17, iX8_forgetImages_17_n, iX8_forgetImages_18, iX8_forgetImages_19, iX8_forgetImages_22, iX8_forgetImages_25, true_or, or_true, Option.bind_some, Option.bind_none, kk_hp, kn_hp, el_i, el_b, el_z, am_cat_nil, am_cat_i, am_cat_r, am_cat_l, am_cat_n, gd_i, gd_r, gd_n, gd_u, List.length_cons, List.length_nil, true_and, and_true, ↓reduceIte, Nat.zero_le, Nat.reduceLeDiff, Nat.reduceAdd, e_10, e_01, e_00, e_11, Int32.reduceLE, Int32.reduceLT, Int32.reduceAdd, Int32.reduceSub, b01, if_true, if_false, ite_self, rc_0, gf_0_0, gf_0_1, gf_0_2, gf_0_3, gf_0_4, gf_0_5, gf_0_6, gf_0_7, gf_0_8, pf_0_8, gf_0_9, pf_0_9, rc_39, gf_39_0, gf_39_1, pf_39_1, nl_add, nl_add', nl_mul, nI_add, in_t, cl_n, le_nn, lt_nn, le_ln, le_nl, lt_nl, lt_ln, eq_nn, eq_nl, in_lit, cl_lit, Nat.le_refl, Nat.add_zero, C_image1]
  rw [e1, e2]
  simp (disch := omega) only [iX8_forgetImages_2, iX8_forgetImages_3, iX8_forgetImages_4, iX8_forgetImages_28, true_or, or_true, Option.bind_some, Option.bind_none, kk_hp, kn_hp, el_i, el_b, el_z, am_cat_nil, am_cat_i, am_cat_r, am_cat_l, am_cat_n, gd_i, gd_r, gd_n, gd_u, List.length_cons, List.length_nil, true_and, and_true, ↓reduceIte, Nat.zero_le, Nat.reduceLeDiff, Nat.reduceAdd, e_10, e_01, e_00, e_11, Int32.reduceLE, Int32.reduceLT, Int32.reduceAdd, Int32.reduceSub, b01, if_true, if_false, ite_self, nl_add, nl_add', nl_mul, nI_add, in_t, cl_n, le_nn, lt_nn, le_ln, le_nl, lt_nl, lt_ln, eq_nn, eq_nl, in_lit, cl_lit, Nat.le_refl, Nat.add_zero]
theorem M_keepDraft : am_ev X kX9_keepDraft 0 [.ref 82, am_u] [] (hp M) = some (none, hp (up (up (ua M 83 (fil (M 83) (M 86) 86)) 85 0 0) 85 1 0)) := by
  have e := chain (fun i => am_ev X kX9_keepDraft 2 [.ref 82, .int (nI i)] [] (hp (ua M 83 (fil (M 83) (M 86) i)))) 0 86 (by omega) (fun i _ hi => by
    have c86 : ∀ f, (ua M 83 f) 86 = M 86 := fun f => rfl
    conv => lhs; rw [iX9_keepDraft_2]
    simp (disch := omega) only [iX9_keepDraft_3, iX9_keepDraft_5, iX9_keepDraft_8, iX9_keepDraft_9, iX9_keepDraft_12, iX9_keepDraft_13, iX9_keepDraft_14, iX9_keepDraft_17, iX9_keepDraft_18, iX9_keepDraft_19, iX9_keepDraft_20, iX9_keepDraft_23, true_or, or_true, Option.bind_some, Option.bind_none, kk_hp, kn_hp, el_i, el_b, el_z, am_cat_nil, am_cat_i, am_cat_r, am_cat_l, am_cat_n, gd_i, gd_r, gd_n, gd_u, List.length_cons, List.length_nil, true_and, and_true, ↓reduceIte, Nat.zero_le, Nat.reduceLeDiff, Nat.reduceAdd, e_10, e_01, e_00, e_11, Int32.reduceLE, Int32.reduceLT, Int32.reduceAdd, Int32.reduceSub, b01, if_true, if_false, ite_self, rc_82, gf_82_0, gf_82_1, gf_82_2, gf_82_3, gf_82_4, gf_82_5, gf_82_6, pf_82_6, gf_82_7, pf_82_7, gf_82_8, pf_82_8, gf_82_9, pf_82_9, gf_82_10, pf_82_10, gf_82_11, pf_82_11, gf_82_12, pf_82_12, gf_82_13, gf_82_14, gf_82_15, gf_82_16, pf_82_16, gf_82_17, gf_82_18, gf_82_19, gf_82_20, gf_82_21, gf_82_22, gf_82_23, gf_82_24, gf_82_25, pf_82_25, ga_83, wi_83, ga_84, wi_84, ga_85, wb_85, ga_86, wi_86, ga_87, wb_87, ga_88, wi_88, ga_89, wi_89, ga_90, wi_90, ga_91, wi_91, ga_92, wi_92, ga_93, wi_93, ga_94, wi_94, ga_95, wi_95, ga_96, wb_96, ga_97, wi_97, ga_98, wi_98, ga_99, wi_99, nl_add, nl_add', nl_mul, nI_add, in_t, cl_n, le_nn, lt_nn, le_ln, le_nl, lt_nl, lt_ln, eq_nn, eq_nl, in_lit, cl_lit, Nat.le_refl, Nat.add_zero, c86, up_of, ← fil_s, show ¬ 86 ≤ i by omega])
  rw [nI_0, fil_0, ua_self] at e
  simp (disch := omega) only [iX9_keepDraft_0, iX9_keepDraft_1, true_or, or_true, Option.bind_some, Option.bind_none, kk_hp, kn_hp, el_i, el_b, el_z, am_cat_nil, am_cat_i, am_cat_r, am_cat_l, am_cat_n, gd_i, gd_r, gd_n, gd_u, List.length_cons, List.length_nil, true_and, and_true, ↓reduceIte, Nat.zero_le, Nat.reduceLeDiff, Nat.reduceAdd, e_10, e_01, e_00, e_11, Int32.reduceLE, Int32.reduceLT, Int32.reduceAdd, Int32.reduceSub, b01, if_true, if_false, ite_self]
  rw [e]
  simp (disch := omega) only [iX9_keepDraft_2, iX9_keepDraft_3, iX9_keepDraft_5, iX9_keepDraft_26, iX9_keepDraft_27, iX9_keepDraft_30, iX9_keepDraft_31, iX9_keepDraft_32, iX9_keepDraft_33, iX9_keepDraft_34, iX9_keepDraft_37, iX9_keepDraft_38, iX9_keepDraft_39, iX9_keepDraft_40, true_or, or_true, Option.bind_some, Option.bind_none, kk_hp, kn_hp, el_i, el_b, el_z, am_cat_nil, am_cat_i, am_cat_r, am_cat_l, am_cat_n, gd_i, gd_r, gd_n, gd_u, List.length_cons, List.length_nil, true_and, and_true, ↓reduceIte, Nat.zero_le, Nat.reduceLeDiff, Nat.reduceAdd, e_10, e_01, e_00, e_11, Int32.reduceLE, Int32.reduceLT, Int32.reduceAdd, Int32.reduceSub, b01, if_true, if_false, ite_self, rc_82, gf_82_0, gf_82_1, gf_82_2, gf_82_3, gf_82_4, gf_82_5, gf_82_6, pf_82_6, gf_82_7, pf_82_7, gf_82_8, pf_82_8, gf_82_9, pf_82_9, gf_82_10, pf_82_10, gf_82_11, pf_82_11, gf_82_12, pf_82_12, gf_82_13, gf_82_14, gf_82_15, gf_82_16, pf_82_16, gf_82_17, gf_82_18, gf_82_19, gf_82_20, gf_82_21, gf_82_22, gf_82_23, gf_82_24, gf_82_25, pf_82_25, ga_83, wi_83, ga_84, wi_84, ga_85, wb_85, ga_86, wi_86, ga_87, wb_87, ga_88, wi_88, ga_89, wi_89, ga_90, wi_90, ga_91, wi_91, ga_92, wi_92, ga_93, wi_93, ga_94, wi_94, ga_95, wi_95, ga_96, wb_96, ga_97, wi_97, ga_98, wi_98, ga_99, wi_99, nl_add, nl_add', nl_mul, nI_add, in_t, cl_n, le_nn, lt_nn, le_ln, le_nl, lt_nl, lt_ln, eq_nn, eq_nl, in_lit, cl_lit, Nat.le_refl, Nat.add_zero, nb_0]
theorem S_text (hX : X.2.2 = .null ∨ X.2.2 = .ref 1200) (h : RR M) : St X kX8_text [.ref 0, am_u] kX9_text [.ref 82, am_u] M := by
  obtain ⟨n, r, v, M3, e1, c1, c2, c3⟩ := TT hX h
  generalize hM4 : up M3 13 1 0 = M4
  have f4 : cX M M4 := fun a h1 h2 h3 => by rw [← hM4, up_n _ _ _ h2]; exact c1 a h1 h2 h3
  have m12 : M4 12 = M3 12 := by rw [← hM4, up_n _ _ _ (by decide)]
  have m131 : M4 13 1 = 0 := by rw [← hM4]; rfl
  -- a fault
  have flt : ∀ (c : Int32) (s : Nat), 0 < c → cF M3 c s → (∀ R u, rX M4 R → teM R n u r → ∃ R', am_ev X kX9_text 44 [.ref 82, .int u] [] (hp R) = am_ev X kX9_text 61 [.ref 82, .int u] [] (hp R') ∧ rX M4 R' ∧ rF R' c s) → St X kX8_text [.ref 0, am_u] kX9_text [.ref 82, am_u] M := by
    intro c s hc hF hr
    obtain ⟨R, u, x1, x2, x3⟩ := c3 M4 (fun a ha => f4 a (by omega) (by omega) (by omega))
    obtain ⟨R', y1, y2, y3⟩ := hr R u x2 x3
    have q2 : M4 12 2 = c := by rw [m12]; exact hF.1
    have q3 : M4 12 3 = nI s := by rw [m12]; exact hF.2
    have hc0 : ¬ c = 0 := fun z => absurd (z ▸ hc) (by decide)
    have u11 : (up R' 82 6 0) 82 11 = c := y3.1
    have u12 : (up R' 82 6 0) 82 12 = nI s := y3.2
    refine ⟨-10 - nI s, M4, up R' 82 6 0, ?_, ?_, RR_tf h (fun a h1 h2 h3 h4 h5 h6 => by rw [up_n _ _ _ h4, y2.1 a h4 h5 h6]; exact f4 a h1 h2 h3) rfl (by rw [up_n _ _ _ (by decide), y2.1 13 (by decide) (by decide) (by decide)]; exact m131) (by rw [u11, up_n _ _ _ (by decide), y2.1 12 (by decide) (by decide) (by decide)]; exact q2.symm) (by rw [up_s, pk_un (by decide), y2.2 25 (by decide), f4 82 (by decide) (by decide) (by decide)])⟩
    · simp (disch := omega) only [iX8_text_0, iX8_text_1, iX8_text_4, iX8_text_7, iX8_text_8, iX8_text_9, iX8_text_12, iX8_text_15, iX8_text_16, iX8_text_19, iX8_text_20, iX8_text_23, iX8_text_26, iX8_text_29, iX8_text_31, iX8_text_32, iX8_text_35, iX8_text_38, iX8_text_39, true_or, or_true, Option.bind_some, Option.bind_none, kk_hp, kn_hp, el_i, el_b, el_z, am_cat_nil, am_cat_i, am_cat_r, am_cat_l, am_cat_n, gd_i, gd_r, gd_n, gd_u, List.length_cons, List.length_nil, true_and, and_true, ↓reduceIte, Nat.zero_le, Nat.reduceLeDiff, Nat.reduceAdd, e_10, e_01, e_00, e_11, Int32.reduceLE, Int32.reduceLT, Int32.reduceAdd, Int32.reduceSub, b01, if_true, if_false, ite_self, rc_0, gf_0_0, gf_0_1, gf_0_2, gf_0_3, gf_0_4, gf_0_5, gf_0_6, gf_0_7, gf_0_8, pf_0_8, gf_0_9, pf_0_9, rc_12, gf_12_0, gf_12_1, gf_12_2, pf_12_2, gf_12_3, pf_12_3, gf_12_4, pf_12_4, gf_12_5, pf_12_5, gf_12_6, pf_12_6, gf_12_7, pf_12_7, rc_13, gf_13_0, gf_13_1, pf_13_1, gf_13_2, pf_13_2, gf_13_3, pf_13_3, gf_13_4, pf_13_4, gf_13_5, pf_13_5, nl_add, nl_add', nl_mul, nI_add, in_t, cl_n, le_nn, lt_nn, le_ln, le_nl, lt_nl, lt_ln, eq_nn, eq_nl, in_lit, cl_lit, Nat.le_refl, Nat.add_zero, e1, hM4, q2, hc0, q3]
    · rw [x1, y1]
      simp (disch := omega) only [iX9_text_61, iX9_text_62, iX9_text_63, iX9_text_66, iX9_text_67, iX9_text_70, iX9_text_73, iX9_text_75, iX9_text_76, iX9_text_79, iX9_text_80, true_or, or_true, Option.bind_some, Option.bind_none, kk_hp, kn_hp, el_i, el_b, el_z, am_cat_nil, am_cat_i, am_cat_r, am_cat_l, am_cat_n, gd_i, gd_r, gd_n, gd_u, List.length_cons, List.length_nil, true_and, and_true, ↓reduceIte, Nat.zero_le, Nat.reduceLeDiff, Nat.reduceAdd, e_10, e_01, e_00, e_11, Int32.reduceLE, Int32.reduceLT, Int32.reduceAdd, Int32.reduceSub, b01, if_true, if_false, ite_self, rc_82, gf_82_0, gf_82_1, gf_82_2, gf_82_3, gf_82_4, gf_82_5, gf_82_6, pf_82_6, gf_82_7, pf_82_7, gf_82_8, pf_82_8, gf_82_9, pf_82_9, gf_82_10, pf_82_10, gf_82_11, pf_82_11, gf_82_12, pf_82_12, gf_82_13, gf_82_14, gf_82_15, gf_82_16, pf_82_16, gf_82_17, gf_82_18, gf_82_19, gf_82_20, gf_82_21, gf_82_22, gf_82_23, gf_82_24, gf_82_25, pf_82_25, ga_83, wi_83, ga_84, wi_84, ga_85, wb_85, ga_86, wi_86, ga_87, wb_87, ga_88, wi_88, ga_89, wi_89, ga_90, wi_90, ga_91, wi_91, ga_92, wi_92, ga_93, wi_93, ga_94, wi_94, ga_95, wi_95, ga_96, wb_96, ga_97, wi_97, ga_98, wi_98, ga_99, wi_99, nl_add, nl_add', nl_mul, nI_add, in_t, cl_n, le_nn, lt_nn, le_ln, le_nl, lt_nl, lt_ln, eq_nn, eq_nl, in_lit, cl_lit, Nat.le_refl, Nat.add_zero, u11, Int32.not_le.mpr hc, u12]
  match r, c2, c3, flt with
  | .inr (c, s), ⟨g1, g2, g3⟩, c3, flt =>
    refine flt c s g3 g2 (fun R u w1 w2 => ⟨R, ?_, w1, w2⟩)
    have w11 : ¬ R 82 11 = 0 := by rw [w2.1]; exact fun z => absurd (z ▸ g3) (by decide)
    simp (disch := omega) only [iX9_text_44, iX9_text_45, iX9_text_48, true_or, or_true, Option.bind_some, Option.bind_none, kk_hp, kn_hp, el_i, el_b, el_z, am_cat_nil, am_cat_i, am_cat_r, am_cat_l, am_cat_n, gd_i, gd_r, gd_n, gd_u, List.length_cons, List.length_nil, true_and, and_true, ↓reduceIte, Nat.zero_le, Nat.reduceLeDiff, Nat.reduceAdd, e_10, e_01, e_00, e_11, Int32.reduceLE, Int32.reduceLT, Int32.reduceAdd, Int32.reduceSub, b01, if_true, if_false, ite_self, rc_82, gf_82_0, gf_82_1, gf_82_2, gf_82_3, gf_82_4, gf_82_5, gf_82_6, pf_82_6, gf_82_7, pf_82_7, gf_82_8, pf_82_8, gf_82_9, pf_82_9, gf_82_10, pf_82_10, gf_82_11, pf_82_11, gf_82_12, pf_82_12, gf_82_13, gf_82_14, gf_82_15, gf_82_16, pf_82_16, gf_82_17, gf_82_18, gf_82_19, gf_82_20, gf_82_21, gf_82_22, gf_82_23, gf_82_24, gf_82_25, pf_82_25, ga_83, wi_83, ga_84, wi_84, ga_85, wb_85, ga_86, wi_86, ga_87, wb_87, ga_88, wi_88, ga_89, wi_89, ga_90, wi_90, ga_91, wi_91, ga_92, wi_92, ga_93, wi_93, ga_94, wi_94, ga_95, wi_95, ga_96, wb_96, ga_97, wi_97, ga_98, wi_98, ga_99, wi_99, nl_add, nl_add', nl_mul, nI_add, in_t, cl_n, le_nn, lt_nn, le_ln, le_nl, lt_nl, lt_ln, eq_nn, eq_nl, in_lit, cl_lit, Nat.le_refl, Nat.add_zero, w11]
  | .inl (l, d), ⟨g1, g2, g3, g4⟩, c3, flt =>
    rcases g4 with ⟨g4, g5⟩ | ⟨g4, g5, g6⟩
    rotate_left
    · refine flt 6 n (by decide) ⟨g5, g6⟩ (fun R u w1 ⟨w2, w3, w4, w5⟩ => ?_)
      have ew := @M_isWhole X R d w5 g3
      rw [g4, bI_f] at ew
      have eq0 := @M_req0 X R 6 w3
      rw [w4] at eq0
      refine ⟨up (up R 82 11 6) 82 12 (nI n), ?_, ⟨fun a h1 h2 h3 => by rw [up_n _ _ _ h1, up_n _ _ _ h1]; exact w1.1 a h1 h2 h3, fun j hj => by rw [up_s, pk_un (by omega), up_s, pk_un (by omega)]; exact w1.2 j hj⟩, rfl, rfl⟩
      simp (disch := omega) only [iX9_text_44, iX9_text_45, iX9_text_48, iX9_text_51, iX9_text_52, iX9_text_53, iX9_text_56, iX9_text_58, true_or, or_true, Option.bind_some, Option.bind_none, kk_hp, kn_hp, el_i, el_b, el_z, am_cat_nil, am_cat_i, am_cat_r, am_cat_l, am_cat_n, gd_i, gd_r, gd_n, gd_u, List.length_cons, List.length_nil, true_and, and_true, ↓reduceIte, Nat.zero_le, Nat.reduceLeDiff, Nat.reduceAdd, e_10, e_01, e_00, e_11, Int32.reduceLE, Int32.reduceLT, Int32.reduceAdd, Int32.reduceSub, b01, if_true, if_false, ite_self, rc_82, gf_82_0, gf_82_1, gf_82_2, gf_82_3, gf_82_4, gf_82_5, gf_82_6, pf_82_6, gf_82_7, pf_82_7, gf_82_8, pf_82_8, gf_82_9, pf_82_9, gf_82_10, pf_82_10, gf_82_11, pf_82_11, gf_82_12, pf_82_12, gf_82_13, gf_82_14, gf_82_15, gf_82_16, pf_82_16, gf_82_17, gf_82_18, gf_82_19, gf_82_20, gf_82_21, gf_82_22, gf_82_23, gf_82_24, gf_82_25, pf_82_25, ga_83, wi_83, ga_84, wi_84, ga_85, wb_85, ga_86, wi_86, ga_87, wb_87, ga_88, wi_88, ga_89, wi_89, ga_90, wi_90, ga_91, wi_91, ga_92, wi_92, ga_93, wi_93, ga_94, wi_94, ga_95, wi_95, ga_96, wb_96, ga_97, wi_97, ga_98, wi_98, ga_99, wi_99, nl_add, nl_add', nl_mul, nI_add, in_t, cl_n, le_nn, lt_nn, le_ln, le_nl, lt_nl, lt_ln, eq_nn, eq_nl, in_lit, cl_lit, Nat.le_refl, Nat.add_zero, w3, ew, eq0]
    subst g1
    have g2' : RG M4 15 d := RG_fa (fun j hj => by rw [← hM4, up_n _ _ _ (by omega)]) g2
    have q2 : M4 12 2 = 0 := by rw [m12]; exact g5
    obtain ⟨M5, b1, b2, b3⟩ := @C_become X M4 1 15 (Or.inl rfl) (Or.inr (Or.inl rfl)) (by decide)
    have hG5 := b3 d g3.1.2 g3.2.1.2 g2'
    have ef := @C_forget X M5
    generalize hM6 : up (up (up M5 27 1 0) 39 1 0) 0 8 1 = M6
    have f6 : ∀ a, 11 < a → a ≠ 27 → a ≠ 39 → M6 a = M4 a := fun a i1 i2 i3 => by rw [← hM6, up_n _ _ _ (by omega), up_n _ _ _ i3, up_n _ _ _ i2]; exact b2 a (by omega)
    have f6g : ∀ j, j ≤ 10 → M6 (1 + j) = M5 (1 + j) := fun j hj => by rw [← hM6, up_n _ _ _ (by omega), up_n _ _ _ (by omega), up_n _ _ _ (by omega)]
    obtain ⟨R, u, x1, x2, x3⟩ := c3 M6 (fun a ha => by rw [f6 a (by omega) (by omega) (by omega)]; exact f4 a (by omega) (by omega) (by omega))
    obtain ⟨w2, w3, w4, w5⟩ := x3
    have ew := @M_isWhole X R d w5 g3
    rw [g4, bI_t] at ew
    have u11 : (up R 82 6 0) 82 11 = 0 := w3
    have ek := @M_keepDraft X (up R 82 6 0)
    generalize hR6 : up (up (ua (up R 82 6 0) 83 (fil ((up R 82 6 0) 83) ((up R 82 6 0) 86) 86)) 85 0 0) 85 1 0 = R6 at ek
    have k83 : ∀ j, j < 86 → R6 83 j = d j := fun j hj => by
      rw [← hR6, up_n _ _ _ (by decide), up_n _ _ _ (by decide), ua_s, fil_in hj, up_n _ _ _ (by decide), w5]
    have k82 : ∀ j, j ≠ 6 → R6 82 j = R 82 j := fun j hj => by
      rw [← hR6, up_n _ _ _ (by decide), up_n _ _ _ (by decide), ua_n _ _ (by decide), up_s, pk_un hj]
    have kx : ∀ a, a ≠ 82 → a ≠ 83 → a ≠ 85 → a ≠ 86 → a ≠ 87 → R6 a = M6 a := fun a i1 i2 i3 i4 i5 => by
      rw [← hR6, up_n _ _ _ i3, up_n _ _ _ i3, ua_n _ _ i2, up_n _ _ _ i1]; exact x2.1 a i1 i4 i5
    have hwd := dW_wf g3 g4
    refine ⟨nI l, M6, R6, ?_, ?_, ?_⟩
    · simp (disch := omega) only [iX8_text_0, iX8_text_1, iX8_text_4, iX8_text_7, iX8_text_8, iX8_text_9, iX8_text_12, iX8_text_15, iX8_text_16, iX8_text_19, iX8_text_20, iX8_text_23, iX8_text_26, iX8_text_29, iX8_text_31, iX8_text_32, iX8_text_35, iX8_text_38, iX8_text_39, iX8_text_40, iX8_text_41, iX8_text_44, iX8_text_45, iX8_text_48, iX8_text_51, iX8_text_54, iX8_text_55, iX8_text_58, iX8_text_59, iX8_text_60, iX8_text_63, iX8_text_64, true_or, or_true, Option.bind_some, Option.bind_none, kk_hp, kn_hp, el_i, el_b, el_z, am_cat_nil, am_cat_i, am_cat_r, am_cat_l, am_cat_n, gd_i, gd_r, gd_n, gd_u, List.length_cons, List.length_nil, true_and, and_true, ↓reduceIte, Nat.zero_le, Nat.reduceLeDiff, Nat.reduceAdd, e_10, e_01, e_00, e_11, Int32.reduceLE, Int32.reduceLT, Int32.reduceAdd, Int32.reduceSub, b01, if_true, if_false, ite_self, rc_0, gf_0_0, gf_0_1, gf_0_2, gf_0_3, gf_0_4, gf_0_5, gf_0_6, gf_0_7, gf_0_8, pf_0_8, gf_0_9, pf_0_9, rc_1, gf_1_0, pf_1_0, gf_1_1, gf_1_2, gf_1_3, pf_1_3, gf_1_4, pf_1_4, gf_1_5, pf_1_5, gf_1_6, pf_1_6, gf_1_7, pf_1_7, gf_1_8, gf_1_9, rc_12, gf_12_0, gf_12_1, gf_12_2, pf_12_2, gf_12_3, pf_12_3, gf_12_4, pf_12_4, gf_12_5, pf_12_5, gf_12_6, pf_12_6, gf_12_7, pf_12_7, rc_13, gf_13_0, gf_13_1, pf_13_1, gf_13_2, pf_13_2, gf_13_3, pf_13_3, gf_13_4, pf_13_4, gf_13_5, pf_13_5, nl_add, nl_add', nl_mul, nI_add, in_t, cl_n, le_nn, lt_nn, le_ln, le_nl, lt_nl, lt_ln, eq_nn, eq_nl, in_lit, cl_lit, Nat.le_refl, Nat.add_zero, e1, hM4, q2, b1, ef, hM6]
    · rw [x1, w2]
      simp (disch := omega) only [iX9_text_44, iX9_text_45, iX9_text_48, iX9_text_51, iX9_text_52, iX9_text_53, iX9_text_56, iX9_text_58, iX9_text_61, iX9_text_62, iX9_text_63, iX9_text_66, iX9_text_67, iX9_text_70, iX9_text_81, iX9_text_82, iX9_text_85, iX9_text_86, true_or, or_true, Option.bind_some, Option.bind_none, kk_hp, kn_hp, el_i, el_b, el_z, am_cat_nil, am_cat_i, am_cat_r, am_cat_l, am_cat_n, gd_i, gd_r, gd_n, gd_u, List.length_cons, List.length_nil, true_and, and_true, ↓reduceIte, Nat.zero_le, Nat.reduceLeDiff, Nat.reduceAdd, e_10, e_01, e_00, e_11, Int32.reduceLE, Int32.reduceLT, Int32.reduceAdd, Int32.reduceSub, b01, if_true, if_false, ite_self, rc_82, gf_82_0, gf_82_1, gf_82_2, gf_82_3, gf_82_4, gf_82_5, gf_82_6, pf_82_6, gf_82_7, pf_82_7, gf_82_8, pf_82_8, gf_82_9, pf_82_9, gf_82_10, pf_82_10, gf_82_11, pf_82_11, gf_82_12, pf_82_12, gf_82_13, gf_82_14, gf_82_15, gf_82_16, pf_82_16, gf_82_17, gf_82_18, gf_82_19, gf_82_20, gf_82_21, gf_82_22, gf_82_23, gf_82_24, gf_82_25, pf_82_25, ga_83, wi_83, ga_84, wi_84, ga_85, wb_85, ga_86, wi_86, ga_87, wb_87, ga_88, wi_88, ga_89, wi_89, ga_90, wi_90, ga_91, wi_91, ga_92, wi_92, ga_93, wi_93, ga_94, wi_94, ga_95, wi_95, ga_96, wb_96, ga_97, wi_97, ga_98, wi_98, ga_99, wi_99, nl_add, nl_add', nl_mul, nI_add, in_t, cl_n, le_nn, lt_nn, le_ln, le_nl, lt_nl, lt_ln, eq_nn, eq_nl, in_lit, cl_lit, Nat.le_refl, Nat.add_zero, w3, ew, M_req1, u11, ek, show (0 : Int32) ≤ 0 by decide]
    · refine RR_tt h (fun a i0 i1 i2 i3 i4 i5 i6 i7 i8 i9 i10 => ?_) ?_ ?_ ?_ ?_ ?_ ?_ (wf_86 hwd k83) ?_ ?_ ?_ ?_ ?_
      · rw [kx a i6 i7 i8 i9 i10, f6 a i0 i4 i5]; exact f4 a i1 i2 i3
      · rw [← hR6]; rfl
      · rw [kx 13 (by decide) (by decide) (by decide) (by decide) (by decide), f6 13 (by decide) (by decide) (by decide)]; exact m131
      · rw [k82 11 (by decide), w3, kx 12 (by decide) (by decide) (by decide) (by decide) (by decide), f6 12 (by decide) (by decide) (by decide)]; exact q2.symm
      · rw [k82 25 (by decide), x2.2 25 (by decide), f6 82 (by decide) (by decide) (by decide), f4 82 (by decide) (by decide) (by decide)]
      · rw [kx 0 (by decide) (by decide) (by decide) (by decide) (by decide), ← hM6, up_s, pk_un (by decide), up_n _ _ _ (by decide), up_n _ _ _ (by decide), b2 0 (by omega), f4 0 (by decide) (by decide) (by decide)]
      · rw [kx 0 (by decide) (by decide) (by decide) (by decide) (by decide), ← hM6]; rfl
      · exact RG_86 (RG_fa (fun j hj => by rw [kx _ (by omega) (by omega) (by omega) (by omega) (by omega)]; exact f6g j (by omega)) hG5) g3.1.2 g3.2.1.2 k83
      · rw [← hR6]; rfl
      · rw [← hR6]; rfl
      · rw [kx 27 (by decide) (by decide) (by decide) (by decide) (by decide), ← hM6]; rfl
      · rw [kx 39 (by decide) (by decide) (by decide) (by decide) (by decide), ← hM6]; rfl
end S996
