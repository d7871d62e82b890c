/-! the reference's rows grow -/
def one1 : Nat → Int32 := fun _ => 1
theorem fc_1 (a w : Nat) : fc one1 a w = 0 := fc_0.mpr (fun _ _ => by unfold one1; decide)
theorem ac_1 (a w : Nat) : ac one1 a w = w := by
  induction w with
  | zero => rfl
  | succ w ih => rw [ac, ih, if_pos (show one1 (a + w) = 1 from rfl)]
def stY (s C R : Nat → Int32) : Prop := ∀ i, i < mI s → C i = -4 ∨ C i ≠ -4 ∧ ∃ r, R i = nI r ∧ r + tI s i ≤ 12
def glY (s C R : Nat → Int32) (i : Nat) : List (Nat × Nat × Int32) := gst C R (tI s) (fun i => s (26 + 6 * i + 3)) i
section S48
variable {X : am_X} {M : Nat → Nat → Int32}
theorem findRows_i {v : Nat} {sz : Nat → Int32} (hwf : wf (M 83)) (hC : stY (M 83) (M 90) (M 91)) (hv : v ≤ 12) (hs : ∀ c, c < 12 → M 93 c = sz c) (h0 : ∀ c, c < 12 → M 94 c = 0) :
    ∃ M', am_ev X kX9_findRows 39 [.ref 82, .int (nI v), .int (nI 0)] [] (hp M) = am_ev X kX9_findRows 39 [.ref 82, .int (nI v), .int (nI (mI (M 83)))] [] (hp M') ∧ (∀ a, a ≠ 94 → M' a = M a) ∧ ∀ c, c < 12 → M' 94 c = (glY (M 83) (M 90) (M 91) (mI (M 83))).foldl (gr1 one1 sz (M 83 2) v) (fun _ => 0) c := by
  have hn := hwf.1.2
  have hm := hwf.2.1.2
  refine loop_inv (fun i M' => am_ev X kX9_findRows 39 [.ref 82, .int (nI v), .int (nI i)] [] (hp M')) (fun i M' => (∀ a, a ≠ 94 → M' a = M a) ∧ ∀ c, c < 12 → M' 94 c = (glY (M 83) (M 90) (M 91) i).foldl (gr1 one1 sz (M 83 2) v) (fun _ => 0) c) 0 (mI (M 83)) (by omega) M ⟨fun _ _ => rfl, fun c hc => h0 c hc⟩ ?_
  intro i M' _ hi ⟨hf, hG⟩
  have a83 : M' 83 = M 83 := hf 83 (by decide)
  have a90 : M' 90 = M 90 := hf 90 (by decide)
  have a91 : M' 91 = M 91 := hf 91 (by decide)
  have a93 : M' 93 = M 93 := hf 93 (by decide)
  have h25 : M' 83 25 = nI (mI (M 83)) := by rw [a83]; exact hwf.2.1.1
  have hii := (hwf.2.2.1 i hi).2.1
  have hw : M' 83 (26 + 6 * i + 1) = nI (tI (M 83) i) := by rw [a83]; exact hii.1
  have hl : ¬ mI (M 83) ≤ i := by omega
  rcases hC i hi with hz | ⟨hnz, a, ha, haw⟩
  · have hz' : M' 90 i = -4 := by rw [a90]; exact hz
    refine ⟨M', ?_, hf, ?_⟩
    · conv => lhs; rw [iX9_findRows_39]
      simp (disch := omega) only [iX9_findRows_40, iX9_findRows_41, iX9_findRows_44, iX9_findRows_46, iX9_findRows_47, iX9_findRows_50, iX9_findRows_51, iX9_findRows_54, iX9_findRows_55, iX9_findRows_56, iX9_findRows_58, iX9_findRows_61, iX9_findRows_62, iX9_findRows_63, iX9_findRows_64, iX9_findRows_67, iX9_findRows_68, iX9_findRows_71, iX9_findRows_72, iX9_findRows_73, iX9_findRows_76, iX9_findRows_79, true_or, or_true, Option.bind_some, Option.bind_none, kk_hp, kn_hp, el_i, el_b, el_z, am_cat_nil, am_cat_i, am_cat_r, am_cat_l, am_cat_n, gd_i, gd_r, gd_n, gd_u, List.length_cons, List.length_nil, true_and, and_true, ↓reduceIte, Nat.zero_le, Nat.reduceLeDiff, Nat.reduceAdd, e_10, e_01, e_00, e_11, Int32.reduceLE, Int32.reduceLT, Int32.reduceAdd, Int32.reduceSub, b01, if_true, if_false, ite_self, rc_82, gf_82_0, gf_82_1, gf_82_2, gf_82_3, gf_82_4, gf_82_5, gf_82_6, pf_82_6, gf_82_7, pf_82_7, gf_82_8, pf_82_8, gf_82_9, pf_82_9, gf_82_10, pf_82_10, gf_82_11, pf_82_11, gf_82_12, pf_82_12, gf_82_13, gf_82_14, gf_82_15, gf_82_16, pf_82_16, gf_82_17, gf_82_18, gf_82_19, gf_82_20, gf_82_21, gf_82_22, gf_82_23, gf_82_24, gf_82_25, pf_82_25, ga_83, wi_83, ga_84, wi_84, ga_85, wb_85, ga_86, wi_86, ga_87, wb_87, ga_88, wi_88, ga_89, wi_89, ga_90, wi_90, ga_91, wi_91, ga_92, wi_92, ga_93, wi_93, ga_94, wi_94, ga_95, wi_95, ga_96, wb_96, ga_97, wi_97, ga_98, wi_98, ga_99, wi_99, nl_add, nl_add', nl_mul, nI_add, in_t, cl_n, le_nn, lt_nn, le_ln, le_nl, lt_nl, lt_ln, eq_nn, eq_nl, in_lit, cl_lit, Nat.le_refl, Nat.add_zero, h25, hz', hl]
    · unfold glY at hG ⊢
      rw [gst, if_pos hz]; exact hG
  · have ha' : M' 91 i = nI a := by rw [a91]; exact ha
    have hne : ¬ M' 90 i = -4 := by rw [a90]; exact hnz
    have eg : glY (M 83) (M 90) (M 91) (i + 1) = glY (M 83) (M 90) (M 91) i ++ [(a, tI (M 83) i, M 83 (26 + 6 * i + 3))] := by
      unfold glY
      rw [gst, if_neg hnz, ha, nI_clamp (by omega)]
    rw [eg, List.foldl_append]
    generalize (glY (M 83) (M 90) (M 91) i).foldl (gr1 one1 sz (M 83 2) v) (fun _ => 0) = G at *
    show ∃ s' : Nat → Nat → Int32, _ ∧ _ ∧ ∀ c, c < 12 → s' 94 c = gr1 one1 sz (M 83 2) v G (a, tI (M 83) i, M 83 (26 + 6 * i + 3)) c
    have elk : (M' 83 (26 + 6 * i + 3) - if tI (M 83) i ≤ 0 then 0 else (nI (tI (M 83) i) - 1) * M' 83 2) - sm (fun d => M' 93 (a + d)) (tI (M 83) i) = lk one1 sz (M 83 2) (a, tI (M 83) i, M 83 (26 + 6 * i + 3)) := by
      rw [a83, a93]
      unfold lk
      dsimp only
      congr 1
      refine sm_ext (fun d hd => ?_)
      rw [if_neg (by unfold one1; decide), hs (a + d) (by omega)]
    have ed := @M_dealsY X M' i a (tI (M 83) i) _ (by omega) ha' hw (by omega) (by omega) elk
    by_cases hc : tI (M 83) i = v
    · subst hc
      have hc' : tI (M 83) i = tI (M 83) i ∧ fc one1 a (tI (M 83) i) = 0 := ⟨rfl, fc_1 _ _⟩
      by_cases h2 : lk one1 sz (M 83 2) (a, tI (M 83) i, M 83 (26 + 6 * i + 3)) ≤ 0
      · rw [if_pos h2] at ed
        refine ⟨M', ?_, hf, fun c hc2 => ?_⟩
        · conv => lhs; rw [iX9_findRows_39]
          simp (disch := omega) only [iX9_findRows_40, iX9_findRows_41, iX9_findRows_44, iX9_findRows_46, iX9_findRows_47, iX9_findRows_50, iX9_findRows_51, iX9_findRows_54, iX9_findRows_55, iX9_findRows_56, iX9_findRows_58, iX9_findRows_61, iX9_findRows_62, iX9_findRows_63, iX9_findRows_64, iX9_findRows_67, iX9_findRows_68, iX9_findRows_71, iX9_findRows_72, iX9_findRows_73, iX9_findRows_76, iX9_findRows_79, true_or, or_true, Option.bind_some, Option.bind_none, kk_hp, kn_hp, el_i, el_b, el_z, am_cat_nil, am_cat_i, am_cat_r, am_cat_l, am_cat_n, gd_i, gd_r, gd_n, gd_u, List.length_cons, List.length_nil, true_and, and_true, ↓reduceIte, Nat.zero_le, Nat.reduceLeDiff, Nat.reduceAdd, e_10, e_01, e_00, e_11, Int32.reduceLE, Int32.reduceLT, Int32.reduceAdd, Int32.reduceSub, b01, if_true, if_false, ite_self, rc_82, gf_82_0, gf_82_1, gf_82_2, gf_82_3, gf_82_4, gf_82_5, gf_82_6, pf_82_6, gf_82_7, pf_82_7, gf_82_8, pf_82_8, gf_82_9, pf_82_9, gf_82_10, pf_82_10, gf_82_11, pf_82_11, gf_82_12, pf_82_12, gf_82_13, gf_82_14, gf_82_15, gf_82_16, pf_82_16, gf_82_17, gf_82_18, gf_82_19, gf_82_20, gf_82_21, gf_82_22, gf_82_23, gf_82_24, gf_82_25, pf_82_25, ga_83, wi_83, ga_84, wi_84, ga_85, wb_85, ga_86, wi_86, ga_87, wb_87, ga_88, wi_88, ga_89, wi_89, ga_90, wi_90, ga_91, wi_91, ga_92, wi_92, ga_93, wi_93, ga_94, wi_94, ga_95, wi_95, ga_96, wb_96, ga_97, wi_97, ga_98, wi_98, ga_99, wi_99, nl_add, nl_add', nl_mul, nI_add, in_t, cl_n, le_nn, lt_nn, le_ln, le_nl, lt_nl, lt_ln, eq_nn, eq_nl, in_lit, cl_lit, Nat.le_refl, Nat.add_zero, h25, hne, hl, M_of1, hw, ed]
        · rw [gr1, if_pos hc', if_pos (Or.inr h2)]; exact hG c hc2
      · rw [if_neg h2] at ed
        refine ⟨_, (?_ : _ = am_ev X kX9_findRows 39 [.ref 82, .int (nI (tI (M 83) i)), .int (nI (i + 1))] [] (hp (ua M' 94 (dlX (fun _ => 1) (M' 94) a (lk one1 sz (M 83 2) (a, tI (M 83) i, M 83 (26 + 6 * i + 3))) (nI (tI (M 83) i)) (tI (M 83) i)).1))), fun b hb => by rw [ua_n _ _ hb]; exact hf b hb, fun c hc2 => ?_⟩
        · conv => lhs; rw [iX9_findRows_39]
          simp (disch := omega) only [iX9_findRows_40, iX9_findRows_41, iX9_findRows_44, iX9_findRows_46, iX9_findRows_47, iX9_findRows_50, iX9_findRows_51, iX9_findRows_54, iX9_findRows_55, iX9_findRows_56, iX9_findRows_58, iX9_findRows_61, iX9_findRows_62, iX9_findRows_63, iX9_findRows_64, iX9_findRows_67, iX9_findRows_68, iX9_findRows_71, iX9_findRows_72, iX9_findRows_73, iX9_findRows_76, iX9_findRows_79, true_or, or_true, Option.bind_some, Option.bind_none, kk_hp, kn_hp, el_i, el_b, el_z, am_cat_nil, am_cat_i, am_cat_r, am_cat_l, am_cat_n, gd_i, gd_r, gd_n, gd_u, List.length_cons, List.length_nil, true_and, and_true, ↓reduceIte, Nat.zero_le, Nat.reduceLeDiff, Nat.reduceAdd, e_10, e_01, e_00, e_11, Int32.reduceLE, Int32.reduceLT, Int32.reduceAdd, Int32.reduceSub, b01, if_true, if_false, ite_self, rc_82, gf_82_0, gf_82_1, gf_82_2, gf_82_3, gf_82_4, gf_82_5, gf_82_6, pf_82_6, gf_82_7, pf_82_7, gf_82_8, pf_82_8, gf_82_9, pf_82_9, gf_82_10, pf_82_10, gf_82_11, pf_82_11, gf_82_12, pf_82_12, gf_82_13, gf_82_14, gf_82_15, gf_82_16, pf_82_16, gf_82_17, gf_82_18, gf_82_19, gf_82_20, gf_82_21, gf_82_22, gf_82_23, gf_82_24, gf_82_25, pf_82_25, ga_83, wi_83, ga_84, wi_84, ga_85, wb_85, ga_86, wi_86, ga_87, wb_87, ga_88, wi_88, ga_89, wi_89, ga_90, wi_90, ga_91, wi_91, ga_92, wi_92, ga_93, wi_93, ga_94, wi_94, ga_95, wi_95, ga_96, wb_96, ga_97, wi_97, ga_98, wi_98, ga_99, wi_99, nl_add, nl_add', nl_mul, nI_add, in_t, cl_n, le_nn, lt_nn, le_ln, le_nl, lt_nl, lt_ln, eq_nn, eq_nl, in_lit, cl_lit, Nat.le_refl, Nat.add_zero, h25, hne, hl, M_of1, hw, ed]
        · have h2' : ¬ (ac one1 a (tI (M 83) i) = 0 ∨ lk one1 sz (M 83 2) (a, tI (M 83) i, M 83 (26 + 6 * i + 3)) ≤ 0) := not_or.mpr ⟨by rw [ac_1]; omega, h2⟩
          rw [ua_s, gr1, if_pos hc', if_neg h2', ac_1]
          exact (dlX_ext (by omega) (fun _ _ => rfl) hG).2 c hc2
    · refine ⟨M', ?_, hf, fun c hc2 => ?_⟩
      · conv => lhs; rw [iX9_findRows_39]
        simp (disch := omega) only [iX9_findRows_40, iX9_findRows_41, iX9_findRows_44, iX9_findRows_46, iX9_findRows_47, iX9_findRows_50, iX9_findRows_51, iX9_findRows_54, iX9_findRows_55, iX9_findRows_56, iX9_findRows_58, iX9_findRows_61, iX9_findRows_62, iX9_findRows_63, iX9_findRows_64, iX9_findRows_67, iX9_findRows_68, iX9_findRows_71, iX9_findRows_72, iX9_findRows_73, iX9_findRows_76, iX9_findRows_79, true_or, or_true, Option.bind_some, Option.bind_none, kk_hp, kn_hp, el_i, el_b, el_z, am_cat_nil, am_cat_i, am_cat_r, am_cat_l, am_cat_n, gd_i, gd_r, gd_n, gd_u, List.length_cons, List.length_nil, true_and, and_true, ↓reduceIte, Nat.zero_le, Nat.reduceLeDiff, Nat.reduceAdd, e_10, e_01, e_00, e_11, Int32.reduceLE, Int32.reduceLT, Int32.reduceAdd, Int32.reduceSub, b01, if_true, if_false, ite_self, rc_82, gf_82_0, gf_82_1, gf_82_2, gf_82_3, gf_82_4, gf_82_5, gf_82_6, pf_82_6, gf_82_7, pf_82_7, gf_82_8, pf_82_8, gf_82_9, pf_82_9, gf_82_10, pf_82_10, gf_82_11, pf_82_11, gf_82_12, pf_82_12, gf_82_13, gf_82_14, gf_82_15, gf_82_16, pf_82_16, gf_82_17, gf_82_18, gf_82_19, gf_82_20, gf_82_21, gf_82_22, gf_82_23, gf_82_24, gf_82_25, pf_82_25, ga_83, wi_83, ga_84, wi_84, ga_85, wb_85, ga_86, wi_86, ga_87, wb_87, ga_88, wi_88, ga_89, wi_89, ga_90, wi_90, ga_91, wi_91, ga_92, wi_92, ga_93, wi_93, ga_94, wi_94, ga_95, wi_95, ga_96, wb_96, ga_97, wi_97, ga_98, wi_98, ga_99, wi_99, nl_add, nl_add', nl_mul, nI_add, in_t, cl_n, le_nn, lt_nn, le_ln, le_nl, lt_nl, lt_ln, eq_nn, eq_nl, in_lit, cl_lit, Nat.le_refl, Nat.add_zero, h25, hne, hl, M_of1, hw, hc]
      · rw [gr1, if_neg (fun z => hc z.1)]; exact hG c hc2
end S48
