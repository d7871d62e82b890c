/-! the class measures its rows -/
def szY (s C R : Nat → Int32) : Nat → Int32 := szR one1 (s 2) (glY s C R (mI s)) (fun _ => s 4) 4
section S64
variable {X : am_X} {M : Nat → Nat → Int32}
theorem C_measureRows {s C R : Nat → Int32} {n : Nat} (hwf : wf s) (hR : RG M 1 s) (hn : n ≤ 12) (h60 : M 60 3 = nI n) (hC : ∀ i, i < mI s → C i = -4 ∨ C i ≠ -4 ∧ ∃ r, R i = nI r ∧ r + tI s i ≤ n) (hMC : ∀ i, i < mI s → M 61 i = C i ∧ M 62 i = R i) :
    ∃ M', am_ev X kX8_measureRows 0 [.ref 0, am_u] [] (hp M) = some (none, hp M') ∧ (∀ a, ¬ (72 ≤ a ∧ a < 80) → M' a = M a) ∧ M' 72 1 = s 2 ∧ ∀ c, c < n → M' 75 c = szY s C R c := by
  obtain ⟨⟨r0, r3, r4, r5, r6, r7⟩, rk, rl, rf⟩ := hR
  obtain ⟨-, ⟨hm0, hm⟩, hit, -⟩ := hwf
  have hA : isA 72 := Or.inr rfl
  have q7 : M 1 7 = nI (mI s) := r7.trans hm0
  unfold szY
  generalize hm' : mI s = m at *
  have eb := @C_begin X M 72 (nI n) (M 1 4) hA
  have hl1 := loop_inv (fun t M' => am_ev X kX8_measureRows 23 [.ref 0, .int (nI t)] [] (hp M')) (fun t M' => (∀ a, ¬ (72 ≤ a ∧ a < 80) → M' a = M a) ∧ M' 72 0 = nI n ∧ M' 72 1 = s 2 ∧ M' 72 6 = 0 ∧ ∀ c, c < t → M' 73 c = one1 c ∧ M' 74 c = 0 ∧ M' 75 c = s 4) 0 n (by omega) (up (up (up M 72 0 (nI n)) 72 1 (M 1 4)) 72 6 0) ⟨fun a ha => by rw [up_n _ _ _ (by omega), up_n _ _ _ (by omega), up_n _ _ _ (by omega)], rfl, r4, rfl, fun c hc => by omega⟩ ?_
  · obtain ⟨M1, e1, f1, a0, a1, a6, g1⟩ := hl1
    have hl2 := loop_inv (fun i M' => am_ev X kX8_measureRows 59 [.ref 0, .int (nI i)] [] (hp M')) (fun i M' => (∀ a, a ≠ 72 → a ≠ 77 → a ≠ 78 → a ≠ 79 → M' a = M1 a) ∧ M' 72 0 = nI n ∧ M' 72 1 = s 2 ∧ RQ M' 72 n (glY s C R i)) 0 m (by omega) M1 ⟨fun _ _ _ _ _ => rfl, a0, a1, a6, fun k hk => absurd hk (Nat.not_lt_zero k)⟩ ?_
    · obtain ⟨M2, e2, f2, b0, b1, b6⟩ := hl2
      have hAx : RA M2 72 n one1 (fun _ => 0) (s 2) (glY s C R m) := by
        refine ⟨b0, hn, b1, fun c hc => ?_, fun c _ h2 => absurd h2 (by unfold one1; decide), b6.1, Nat.le_trans (gst_len _ _ _ _ _) hm, b6.2⟩
        rw [f2 73 (by decide) (by decide) (by decide) (by decide), f2 74 (by decide) (by decide) (by decide) (by decide)]
        exact ⟨(g1 c hc).1, (g1 c hc).2.1⟩
      have hs2 : ∀ c, c < n → M2 75 c = s 4 := fun c hc => by rw [f2 75 (by decide) (by decide) (by decide) (by decide)]; exact (g1 c hc).2.2
      have hl3 := loop_inv (fun v M' => am_ev X kX8_measureRows 127 [.ref 0, .int (nI (v + 1))] [] (hp M')) (fun v M' => (∀ a, a ≠ 75 → a ≠ 76 → M' a = M2 a) ∧ ∀ c, c < n → M' 75 c = szR one1 (s 2) (glY s C R m) (fun _ => s 4) v c) 0 4 (by omega) M2 ⟨fun _ _ _ => rfl, hs2⟩ ?_
      · obtain ⟨M3, e3, f3, g3⟩ := hl3
        have c7 : M2 1 7 = nI m := by rw [f2 _ (by decide) (by decide) (by decide) (by decide), f1 _ (by decide)]; exact q7
        have c0 : M1 60 3 = nI n := by rw [f1 _ (by decide)]; exact h60
        refine ⟨M3, ?_, fun a ha => by rw [f3 a (by omega) (by omega), f2 a (by omega) (by omega) (by omega) (by omega), f1 a ha], by rw [f3 72 (by decide) (by decide)]; exact b1, g3⟩
        simp (disch := omega) only [iX8_measureRows_0, iX8_measureRows_1, iX8_measureRows_4, iX8_measureRows_5, iX8_measureRows_8, iX8_measureRows_11, iX8_measureRows_12, iX8_measureRows_15, iX8_measureRows_18, iX8_measureRows_21, iX8_measureRows_22, true_or, or_true, Option.bind_some, Option.bind_none, kk_hp, kn_hp, el_i, el_b, el_z, am_cat_nil, am_cat_i, am_cat_r, am_cat_l, am_cat_n, gd_i, gd_r, gd_n, gd_u, List.length_cons, List.length_nil, true_and, and_true, ↓reduceIte, Nat.zero_le, Nat.reduceLeDiff, Nat.reduceAdd, e_10, e_01, e_00, e_11, Int32.reduceLE, Int32.reduceLT, Int32.reduceAdd, Int32.reduceSub, b01, if_true, if_false, ite_self, nl_add, nl_add', nl_mul, nI_add, in_t, cl_n, le_nn, lt_nn, le_ln, le_nl, lt_nl, lt_ln, eq_nn, eq_nl, in_lit, cl_lit, Nat.le_refl, Nat.add_zero, rc_0, gf_0_0, gf_0_1, gf_0_2, gf_0_3, gf_0_4, gf_0_5, gf_0_6, gf_0_7, gf_0_8, pf_0_8, gf_0_9, pf_0_9, rc_1, gf_1_0, pf_1_0, gf_1_1, gf_1_2, gf_1_3, pf_1_3, gf_1_4, pf_1_4, gf_1_5, pf_1_5, gf_1_6, pf_1_6, gf_1_7, pf_1_7, gf_1_8, gf_1_9, rc_60, gf_60_0, gf_60_1, gf_60_2, gf_60_3, pf_60_3, gf_60_4, pf_60_4, gf_60_5, pf_60_5, rc_72, gf_72_0, pf_72_0, gf_72_1, pf_72_1, gf_72_2, gf_72_3, gf_72_4, gf_72_5, gf_72_6, pf_72_6, gf_72_7, gf_72_8, gf_72_9, h60, eb]
        rw [nI_0] at e1 e2
        rw [e1]
        simp (disch := omega) only [iX8_measureRows_23, iX8_measureRows_24, iX8_measureRows_25, iX8_measureRows_28, iX8_measureRows_31, iX8_measureRows_57, iX8_measureRows_58, true_or, or_true, Option.bind_some, Option.bind_none, kk_hp, kn_hp, el_i, el_b, el_z, am_cat_nil, am_cat_i, am_cat_r, am_cat_l, am_cat_n, gd_i, gd_r, gd_n, gd_u, List.length_cons, List.length_nil, true_and, and_true, ↓reduceIte, Nat.zero_le, Nat.reduceLeDiff, Nat.reduceAdd, e_10, e_01, e_00, e_11, Int32.reduceLE, Int32.reduceLT, Int32.reduceAdd, Int32.reduceSub, b01, if_true, if_false, ite_self, nl_add, nl_add', nl_mul, nI_add, in_t, cl_n, le_nn, lt_nn, le_ln, le_nl, lt_nl, lt_ln, eq_nn, eq_nl, in_lit, cl_lit, Nat.le_refl, Nat.add_zero, rc_0, gf_0_0, gf_0_1, gf_0_2, gf_0_3, gf_0_4, gf_0_5, gf_0_6, gf_0_7, gf_0_8, pf_0_8, gf_0_9, pf_0_9, rc_1, gf_1_0, pf_1_0, gf_1_1, gf_1_2, gf_1_3, pf_1_3, gf_1_4, pf_1_4, gf_1_5, pf_1_5, gf_1_6, pf_1_6, gf_1_7, pf_1_7, gf_1_8, gf_1_9, rc_60, gf_60_0, gf_60_1, gf_60_2, gf_60_3, pf_60_3, gf_60_4, pf_60_4, gf_60_5, pf_60_5, rc_72, gf_72_0, pf_72_0, gf_72_1, pf_72_1, gf_72_2, gf_72_3, gf_72_4, gf_72_5, gf_72_6, pf_72_6, gf_72_7, gf_72_8, gf_72_9, c0]
        rw [e2]
        simp (disch := omega) only [iX8_measureRows_59, iX8_measureRows_60, iX8_measureRows_61, iX8_measureRows_64, iX8_measureRows_67, iX8_measureRows_125, iX8_measureRows_126, true_or, or_true, Option.bind_some, Option.bind_none, kk_hp, kn_hp, el_i, el_b, el_z, am_cat_nil, am_cat_i, am_cat_r, am_cat_l, am_cat_n, gd_i, gd_r, gd_n, gd_u, List.length_cons, List.length_nil, true_and, and_true, ↓reduceIte, Nat.zero_le, Nat.reduceLeDiff, Nat.reduceAdd, e_10, e_01, e_00, e_11, Int32.reduceLE, Int32.reduceLT, Int32.reduceAdd, Int32.reduceSub, b01, if_true, if_false, ite_self, nl_add, nl_add', nl_mul, nI_add, in_t, cl_n, le_nn, lt_nn, le_ln, le_nl, lt_nl, lt_ln, eq_nn, eq_nl, in_lit, cl_lit, Nat.le_refl, Nat.add_zero, rc_0, gf_0_0, gf_0_1, gf_0_2, gf_0_3, gf_0_4, gf_0_5, gf_0_6, gf_0_7, gf_0_8, pf_0_8, gf_0_9, pf_0_9, rc_1, gf_1_0, pf_1_0, gf_1_1, gf_1_2, gf_1_3, pf_1_3, gf_1_4, pf_1_4, gf_1_5, pf_1_5, gf_1_6, pf_1_6, gf_1_7, pf_1_7, gf_1_8, gf_1_9, rc_72, gf_72_0, pf_72_0, gf_72_1, pf_72_1, gf_72_2, gf_72_3, gf_72_4, gf_72_5, gf_72_6, pf_72_6, gf_72_7, gf_72_8, gf_72_9, c7]
        rw [show (1 : Int32) = nI (0 + 1) from rfl, e3]
        simp (disch := omega) only [iX8_measureRows_127, iX8_measureRows_128, iX8_measureRows_129, iX8_measureRows_146, true_or, or_true, Option.bind_some, Option.bind_none, kk_hp, kn_hp, el_i, el_b, el_z, am_cat_nil, am_cat_i, am_cat_r, am_cat_l, am_cat_n, gd_i, gd_r, gd_n, gd_u, List.length_cons, List.length_nil, true_and, and_true, ↓reduceIte, Nat.zero_le, Nat.reduceLeDiff, Nat.reduceAdd, e_10, e_01, e_00, e_11, Int32.reduceLE, Int32.reduceLT, Int32.reduceAdd, Int32.reduceSub, b01, if_true, if_false, ite_self, nl_add, nl_add', nl_mul, nI_add, in_t, cl_n, le_nn, lt_nn, le_ln, le_nl, lt_nl, lt_ln, eq_nn, eq_nl, in_lit, cl_lit, Nat.le_refl, Nat.add_zero, show 4 < 4 + 1 by omega]
      intro v M' _ hv ⟨hf, hG⟩
      have hA' : RA M' 72 n one1 (fun _ => 0) (s 2) (glY s C R m) := by
        unfold RA
        rw [hf 72 (by decide) (by decide), hf 73 (by decide) (by decide), hf 74 (by decide) (by decide), hf 77 (by decide) (by decide), hf 78 (by decide) (by decide), hf 79 (by decide) (by decide)]
        exact hAx
      obtain ⟨M4, e4, f4, g4⟩ := @C_growBy X M' 72 n (v + 1) one1 (fun _ => 0) _ (s 2) (glY s C R m) hA hA' (by omega) hG
      refine ⟨M4, ?_, fun a h7 h8 => by rw [f4 a h7 h8]; exact hf a h7 h8, g4⟩
      conv => lhs; rw [iX8_measureRows_127]
      simp (disch := omega) only [iX8_measureRows_128, iX8_measureRows_129, iX8_measureRows_132, iX8_measureRows_133, iX8_measureRows_136, iX8_measureRows_137, iX8_measureRows_140, iX8_measureRows_143, true_or, or_true, Option.bind_some, Option.bind_none, kk_hp, kn_hp, el_i, el_b, el_z, am_cat_nil, am_cat_i, am_cat_r, am_cat_l, am_cat_n, gd_i, gd_r, gd_n, gd_u, List.length_cons, List.length_nil, true_and, and_true, ↓reduceIte, Nat.zero_le, Nat.reduceLeDiff, Nat.reduceAdd, e_10, e_01, e_00, e_11, Int32.reduceLE, Int32.reduceLT, Int32.reduceAdd, Int32.reduceSub, b01, if_true, if_false, ite_self, nl_add, nl_add', nl_mul, nI_add, in_t, cl_n, le_nn, lt_nn, le_ln, le_nl, lt_nl, lt_ln, eq_nn, eq_nl, in_lit, cl_lit, Nat.le_refl, Nat.add_zero, rc_0, gf_0_0, gf_0_1, gf_0_2, gf_0_3, gf_0_4, gf_0_5, gf_0_6, gf_0_7, gf_0_8, pf_0_8, gf_0_9, pf_0_9, rc_72, gf_72_0, pf_72_0, gf_72_1, pf_72_1, gf_72_2, gf_72_3, gf_72_4, gf_72_5, gf_72_6, pf_72_6, gf_72_7, gf_72_8, gf_72_9, show ¬ 4 < v + 1 by omega, e4]
    intro i M' _ hi ⟨hf, b0, b1, b6⟩
    have hF : ∀ a, ¬ (72 ≤ a ∧ a < 80) → M' a = M a := fun a ha => by rw [hf a (by omega) (by omega) (by omega) (by omega), f1 a ha]
    have c7 : M' 1 7 = nI m := by rw [hF 1 (by omega)]; exact q7
    have c61 : M' 61 i = C i := by rw [hF 61 (by omega)]; exact (hMC i hi).1
    have hli : ¬ m ≤ i := by omega
    have elo := @C_isLost X M' i (by omega)
    rw [c61] at elo
    rcases hC i (by omega) with hz | ⟨hne, a, ha, haw⟩
    · rw [if_pos hz] at elo
      refine ⟨M', ?_, hf, b0, b1, ?_⟩
      · conv => lhs; rw [iX8_measureRows_59]
        simp (disch := omega) only [iX8_measureRows_60, iX8_measureRows_61, iX8_measureRows_64, iX8_measureRows_67, iX8_measureRows_70, iX8_measureRows_71, iX8_measureRows_74, iX8_measureRows_75, iX8_measureRows_78, iX8_measureRows_81, iX8_measureRows_82, iX8_measureRows_85, iX8_measureRows_86, iX8_measureRows_89, iX8_measureRows_92, iX8_measureRows_93, iX8_measureRows_94, iX8_measureRows_95, iX8_measureRows_98, iX8_measureRows_101, iX8_measureRows_102, iX8_measureRows_103, iX8_measureRows_104, iX8_measureRows_105, iX8_measureRows_106, iX8_measureRows_109, iX8_measureRows_112, iX8_measureRows_113, iX8_measureRows_114, iX8_measureRows_115, iX8_measureRows_116, iX8_measureRows_119, iX8_measureRows_122, true_or, or_true, Option.bind_some, Option.bind_none, kk_hp, kn_hp, el_i, el_b, el_z, am_cat_nil, am_cat_i, am_cat_r, am_cat_l, am_cat_n, gd_i, gd_r, gd_n, gd_u, List.length_cons, List.length_nil, true_and, and_true, ↓reduceIte, Nat.zero_le, Nat.reduceLeDiff, Nat.reduceAdd, e_10, e_01, e_00, e_11, Int32.reduceLE, Int32.reduceLT, Int32.reduceAdd, Int32.reduceSub, b01, if_true, if_false, ite_self, nl_add, nl_add', nl_mul, nI_add, in_t, cl_n, le_nn, lt_nn, le_ln, le_nl, lt_nl, lt_ln, eq_nn, eq_nl, in_lit, cl_lit, Nat.le_refl, Nat.add_zero, rc_0, gf_0_0, gf_0_1, gf_0_2, gf_0_3, gf_0_4, gf_0_5, gf_0_6, gf_0_7, gf_0_8, pf_0_8, gf_0_9, pf_0_9, rc_1, gf_1_0, pf_1_0, gf_1_1, gf_1_2, gf_1_3, pf_1_3, gf_1_4, pf_1_4, gf_1_5, pf_1_5, gf_1_6, pf_1_6, gf_1_7, pf_1_7, gf_1_8, gf_1_9, rc_60, gf_60_0, gf_60_1, gf_60_2, gf_60_3, pf_60_3, gf_60_4, pf_60_4, gf_60_5, pf_60_5, c7, hli, elo]
      · have eg : glY s C R (i + 1) = glY s C R i := by unfold glY; rw [gst, if_pos hz]
        rw [eg]; exact b6
    · rw [if_neg hne] at elo
      have eg : glY s C R (i + 1) = glY s C R i ++ [(a, tI s i, s (26 + 6 * i + 3))] := by
        unfold glY
        rw [gst, if_neg hne, ha, nI_clamp (by omega)]
      have w1 : M' 6 i = nI (tI s i) := by rw [hF 6 (by omega)]; exact (rf i hi 1 (by decide)).trans (hit i hi).2.1.1
      have w3 : M' 8 i = s (26 + 6 * i + 3) := by rw [hF 8 (by omega)]; exact rf i hi 3 (by decide)
      have c62 : M' 62 i = nI a := by rw [hF 62 (by omega)]; exact (hMC i hi).2.trans ha
      have hlen : (glY s C R i).length < 10 := Nat.lt_of_le_of_lt (gst_len _ _ _ _ _) (by omega)
      obtain ⟨M4, e4, f4, k0, k1, k6⟩ := @C_admit' X M' 72 n a (tI s i) (glY s C R i) (s (26 + 6 * i + 3)) hA b6 hlen haw
      refine ⟨M4, ?_, fun b h0 h5 h6 h7 => by rw [f4 b h0 h5 h6 h7]; exact hf b h0 h5 h6 h7, k0.trans b0, k1.trans b1, by rw [eg]; exact k6⟩
      conv => lhs; rw [iX8_measureRows_59]
      simp (disch := omega) only [iX8_measureRows_60, iX8_measureRows_61, iX8_measureRows_64, iX8_measureRows_67, iX8_measureRows_70, iX8_measureRows_71, iX8_measureRows_74, iX8_measureRows_75, iX8_measureRows_78, iX8_measureRows_81, iX8_measureRows_82, iX8_measureRows_85, iX8_measureRows_86, iX8_measureRows_89, iX8_measureRows_92, iX8_measureRows_93, iX8_measureRows_94, iX8_measureRows_95, iX8_measureRows_98, iX8_measureRows_101, iX8_measureRows_102, iX8_measureRows_103, iX8_measureRows_104, iX8_measureRows_105, iX8_measureRows_106, iX8_measureRows_109, iX8_measureRows_112, iX8_measureRows_113, iX8_measureRows_114, iX8_measureRows_115, iX8_measureRows_116, iX8_measureRows_119, iX8_measureRows_122, true_or, or_true, Option.bind_some, Option.bind_none, kk_hp, kn_hp, el_i, el_b, el_z, am_cat_nil, am_cat_i, am_cat_r, am_cat_l, am_cat_n, gd_i, gd_r, gd_n, gd_u, List.length_cons, List.length_nil, true_and, and_true, ↓reduceIte, Nat.zero_le, Nat.reduceLeDiff, Nat.reduceAdd, e_10, e_01, e_00, e_11, Int32.reduceLE, Int32.reduceLT, Int32.reduceAdd, Int32.reduceSub, b01, if_true, if_false, ite_self, nl_add, nl_add', nl_mul, nI_add, in_t, cl_n, le_nn, lt_nn, le_ln, le_nl, lt_nl, lt_ln, eq_nn, eq_nl, in_lit, cl_lit, Nat.le_refl, Nat.add_zero, rc_0, gf_0_0, gf_0_1, gf_0_2, gf_0_3, gf_0_4, gf_0_5, gf_0_6, gf_0_7, gf_0_8, pf_0_8, gf_0_9, pf_0_9, rc_1, gf_1_0, pf_1_0, gf_1_1, gf_1_2, gf_1_3, pf_1_3, gf_1_4, pf_1_4, gf_1_5, pf_1_5, gf_1_6, pf_1_6, gf_1_7, pf_1_7, gf_1_8, gf_1_9, ga_6, wi_6, ga_8, wi_8, rc_60, gf_60_0, gf_60_1, gf_60_2, gf_60_3, pf_60_3, gf_60_4, pf_60_4, gf_60_5, pf_60_5, ga_62, wi_62, rc_72, gf_72_0, pf_72_0, gf_72_1, pf_72_1, gf_72_2, gf_72_3, gf_72_4, gf_72_5, gf_72_6, pf_72_6, gf_72_7, gf_72_8, gf_72_9, f1_1, f1_3, c7, hli, elo, c62, w1, w3, e4]
  intro t M' _ ht ⟨hf, a0, a1, a6, hG⟩
  have c0 : M' 60 3 = nI n := by rw [hf 60 (by omega)]; exact h60
  have w6 : M' 1 6 = s 4 := by rw [hf 1 (by omega)]; exact r6
  have ep := @C_put X M' 72 t 1 0 (s 4) hA (by omega)
  refine ⟨up (up (up M' 73 t 1) 74 t 0) 75 t (s 4), ?_, fun a ha => by rw [up_n _ _ _ (by omega), up_n _ _ _ (by omega), up_n _ _ _ (by omega)]; exact hf a ha, a0, a1, a6, fun c hc => ?_⟩
  · conv => lhs; rw [iX8_measureRows_23]
    simp (disch := omega) only [iX8_measureRows_24, iX8_measureRows_25, iX8_measureRows_28, iX8_measureRows_31, iX8_measureRows_34, iX8_measureRows_35, iX8_measureRows_38, iX8_measureRows_39, iX8_measureRows_40, iX8_measureRows_41, iX8_measureRows_42, iX8_measureRows_45, iX8_measureRows_48, iX8_measureRows_51, iX8_measureRows_54, true_or, or_true, Option.bind_some, Option.bind_none, kk_hp, kn_hp, el_i, el_b, el_z, am_cat_nil, am_cat_i, am_cat_r, am_cat_l, am_cat_n, gd_i, gd_r, gd_n, gd_u, List.length_cons, List.length_nil, true_and, and_true, ↓reduceIte, Nat.zero_le, Nat.reduceLeDiff, Nat.reduceAdd, e_10, e_01, e_00, e_11, Int32.reduceLE, Int32.reduceLT, Int32.reduceAdd, Int32.reduceSub, b01, if_true, if_false, ite_self, nl_add, nl_add', nl_mul, nI_add, in_t, cl_n, le_nn, lt_nn, le_ln, le_nl, lt_nl, lt_ln, eq_nn, eq_nl, in_lit, cl_lit, Nat.le_refl, Nat.add_zero, rc_0, gf_0_0, gf_0_1, gf_0_2, gf_0_3, gf_0_4, gf_0_5, gf_0_6, gf_0_7, gf_0_8, pf_0_8, gf_0_9, pf_0_9, rc_1, gf_1_0, pf_1_0, gf_1_1, gf_1_2, gf_1_3, pf_1_3, gf_1_4, pf_1_4, gf_1_5, pf_1_5, gf_1_6, pf_1_6, gf_1_7, pf_1_7, gf_1_8, gf_1_9, rc_60, gf_60_0, gf_60_1, gf_60_2, gf_60_3, pf_60_3, gf_60_4, pf_60_4, gf_60_5, pf_60_5, rc_72, gf_72_0, pf_72_0, gf_72_1, pf_72_1, gf_72_2, gf_72_3, gf_72_4, gf_72_5, gf_72_6, pf_72_6, gf_72_7, gf_72_8, gf_72_9, c0, show ¬ n ≤ t by omega, w6, ep]
  · show upd (M' 73) t 1 c = _ ∧ upd (M' 74) t 0 c = _ ∧ upd (M' 75) t (s 4) c = _
    by_cases hct : c = t
    · rw [hct, pk_us, pk_us, pk_us]; exact ⟨rfl, rfl, rfl⟩
    · rw [pk_un hct, pk_un hct, pk_un hct]; exact hG c (by omega)
end S64
