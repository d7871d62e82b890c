/-! the reference's columns grow -/
/-- where the items of the first m stand across -/
def stX (s C : Nat → Int32) : Prop := ∀ i, i < mI s → C i = -4 ∨ ∃ c, C i = nI c ∧ c + wI s i ≤ nC s
def kdX (s : Nat → Int32) : Nat → Int32 := fun c => s (5 + c)
def glX (s C : Nat → Int32) (i : Nat) : List (Nat × Nat × Int32) := gst C C (wI s) (fun i => s (26 + 6 * i + 2)) i
section S46
variable {X : am_X} {M : Nat → Nat → Int32}
theorem findAutos_i {v : Nat} {sz : Nat → Int32} (hwf : wf (M 83)) (hC : stX (M 83) (M 90)) (hv : v ≤ 12) (hs : ∀ c, c < nC (M 83) → M 92 c = sz c) (h0 : ∀ c, c < 12 → M 94 c = 0) :
    ∃ M', am_ev X kX9_findAutos 62 [.ref 82, .int (nI v), .int (nI 0)] [] (hp M) = am_ev X kX9_findAutos 62 [.ref 82, .int (nI v), .int (nI (mI (M 83)))] [] (hp M') ∧ (∀ a, a ≠ 94 → M' a = M a) ∧ ∀ c, c < 12 → M' 94 c = (glX (M 83) (M 90) (mI (M 83))).foldl (gr1 (kdX (M 83)) sz (M 83 1) v) (fun _ => 0) c := by
  have hn := hwf.1.2
  have hm := hwf.2.1.2
  refine loop_inv (fun i M' => am_ev X kX9_findAutos 62 [.ref 82, .int (nI v), .int (nI i)] [] (hp M')) (fun i M' => (∀ a, a ≠ 94 → M' a = M a) ∧ ∀ c, c < 12 → M' 94 c = (glX (M 83) (M 90) i).foldl (gr1 (kdX (M 83)) sz (M 83 1) v) (fun _ => 0) c) 0 (mI (M 83)) (by omega) M ⟨fun _ _ => rfl, fun c hc => h0 c hc⟩ ?_
  intro i M' _ hi ⟨hf, hG⟩
  have a83 : M' 83 = M 83 := hf 83 (by decide)
  have a90 : M' 90 = M 90 := hf 90 (by decide)
  have a92 : M' 92 = M 92 := hf 92 (by decide)
  have h25 : M' 83 25 = nI (mI (M 83)) := by rw [a83]; exact hwf.2.1.1
  have hw : M' 83 (26 + 6 * i) = nI (wI (M 83) i) := by rw [a83]; exact (hwf.2.2.1 i hi).1.1
  have hl : ¬ mI (M 83) ≤ i := by omega
  rcases hC i hi with hz | ⟨a, ha, haw⟩
  · have hz' : M' 90 i = -4 := by rw [a90]; exact hz
    refine ⟨M', ?_, hf, ?_⟩
    · conv => lhs; rw [iX9_findAutos_62]
      simp (disch := omega) only [iX9_findAutos_63, iX9_findAutos_64, iX9_findAutos_67, iX9_findAutos_69, iX9_findAutos_70, iX9_findAutos_73, iX9_findAutos_74, iX9_findAutos_77, iX9_findAutos_78, iX9_findAutos_79, iX9_findAutos_81, iX9_findAutos_84, iX9_findAutos_85, iX9_findAutos_86, iX9_findAutos_87, iX9_findAutos_90, iX9_findAutos_91, iX9_findAutos_94, iX9_findAutos_95, iX9_findAutos_96, iX9_findAutos_97, iX9_findAutos_98, iX9_findAutos_101, iX9_findAutos_104, iX9_findAutos_105, iX9_findAutos_106, iX9_findAutos_109, iX9_findAutos_112, true_or, or_true, Option.bind_some, Option.bind_none, kk_hp, kn_hp, el_i, el_b, el_z, am_cat_nil, am_cat_i, am_cat_r, am_cat_l, am_cat_n, gd_i, gd_r, gd_n, gd_u, List.length_cons, List.length_nil, true_and, and_true, ↓reduceIte, Nat.zero_le, Nat.reduceLeDiff, Nat.reduceAdd, e_10, e_01, e_00, e_11, Int32.reduceLE, Int32.reduceLT, Int32.reduceAdd, Int32.reduceSub, b01, if_true, if_false, ite_self, rc_82, gf_82_0, gf_82_1, gf_82_2, gf_82_3, gf_82_4, gf_82_5, gf_82_6, pf_82_6, gf_82_7, pf_82_7, gf_82_8, pf_82_8, gf_82_9, pf_82_9, gf_82_10, pf_82_10, gf_82_11, pf_82_11, gf_82_12, pf_82_12, gf_82_13, gf_82_14, gf_82_15, gf_82_16, pf_82_16, gf_82_17, gf_82_18, gf_82_19, gf_82_20, gf_82_21, gf_82_22, gf_82_23, gf_82_24, gf_82_25, pf_82_25, ga_83, wi_83, ga_84, wi_84, ga_85, wb_85, ga_86, wi_86, ga_87, wb_87, ga_88, wi_88, ga_89, wi_89, ga_90, wi_90, ga_91, wi_91, ga_92, wi_92, ga_93, wi_93, ga_94, wi_94, ga_95, wi_95, ga_96, wb_96, ga_97, wi_97, ga_98, wi_98, ga_99, wi_99, nl_add, nl_add', nl_mul, nI_add, in_t, cl_n, le_nn, lt_nn, le_ln, le_nl, lt_nl, lt_ln, eq_nn, eq_nl, in_lit, cl_lit, Nat.le_refl, Nat.add_zero, h25, hz', hl]
    · unfold glX at hG ⊢
      rw [gst, if_pos hz]; exact hG
  · have ha' : M' 90 i = nI a := by rw [a90]; exact ha
    have hne : ¬ M' 90 i = -4 := by rw [ha']; exact nI_ne (by omega)
    have eg : glX (M 83) (M 90) (i + 1) = glX (M 83) (M 90) i ++ [(a, wI (M 83) i, M 83 (26 + 6 * i + 2))] := by
      unfold glX
      rw [gst, if_neg (by rw [ha]; exact nI_ne (by omega)), ha, nI_clamp (by omega)]
    rw [eg, List.foldl_append]
    generalize (glX (M 83) (M 90) i).foldl (gr1 (kdX (M 83)) sz (M 83 1) v) (fun _ => 0) = G at *
    show ∃ s' : Nat → Nat → Int32, _ ∧ _ ∧ ∀ c, c < 12 → s' 94 c = gr1 (kdX (M 83)) sz (M 83 1) v G (a, wI (M 83) i, M 83 (26 + 6 * i + 2)) c
    have ec := @M_columnsOf X M' i a (wI (M 83) i) 2 0 (by omega) ha' hw (by omega)
    have ec2 : cOf (M' 83) a 2 0 (wI (M 83) i) = nI (fc (kdX (M 83)) a (wI (M 83) i)) := by
      rw [← fc_sm, a83]
      unfold cOf kdX
      refine sm_ext (fun j _ => ?_)
      rw [if_pos rfl, Nat.add_assoc]
    rw [ec2] at ec
    have hfl := fc_le (kdX (M 83)) a (wI (M 83) i)
    have elk : (M' 83 (26 + 6 * i + 2) - if wI (M 83) i ≤ 0 then 0 else (nI (wI (M 83) i) - 1) * M' 83 1) - sm (fun d => if M' 83 (5 + a + d) = 2 then 0 else M' 92 (a + d)) (wI (M 83) i) = lk (kdX (M 83)) sz (M 83 1) (a, wI (M 83) i, M 83 (26 + 6 * i + 2)) := by
      rw [a83, a92]
      unfold lk kdX
      dsimp only
      congr 1
      refine sm_ext (fun d hd => ?_)
      rw [Nat.add_assoc, hs (a + d) (by omega)]
    have ed := @M_dealsX X M' i a (wI (M 83) i) _ (by omega) ha' hw (by omega) elk
    rw [a83, show (fun c => M 83 (5 + c)) = kdX (M 83) from rfl] at ed
    by_cases hc : wI (M 83) i = v ∧ fc (kdX (M 83)) a (wI (M 83) i) = 0
    · have hc1 := hc.1
      subst hc1
      by_cases h2 : ac (kdX (M 83)) a (wI (M 83) i) = 0 ∨ lk (kdX (M 83)) sz (M 83 1) (a, wI (M 83) i, M 83 (26 + 6 * i + 2)) ≤ 0
      · rw [if_pos h2] at ed
        refine ⟨M', ?_, hf, fun c hc2 => ?_⟩
        · conv => lhs; rw [iX9_findAutos_62]
          simp (disch := omega) only [iX9_findAutos_63, iX9_findAutos_64, iX9_findAutos_67, iX9_findAutos_69, iX9_findAutos_70, iX9_findAutos_73, iX9_findAutos_74, iX9_findAutos_77, iX9_findAutos_78, iX9_findAutos_79, iX9_findAutos_81, iX9_findAutos_84, iX9_findAutos_85, iX9_findAutos_86, iX9_findAutos_87, iX9_findAutos_90, iX9_findAutos_91, iX9_findAutos_94, iX9_findAutos_95, iX9_findAutos_96, iX9_findAutos_97, iX9_findAutos_98, iX9_findAutos_101, iX9_findAutos_104, iX9_findAutos_105, iX9_findAutos_106, iX9_findAutos_109, iX9_findAutos_112, true_or, or_true, Option.bind_some, Option.bind_none, kk_hp, kn_hp, el_i, el_b, el_z, am_cat_nil, am_cat_i, am_cat_r, am_cat_l, am_cat_n, gd_i, gd_r, gd_n, gd_u, List.length_cons, List.length_nil, true_and, and_true, ↓reduceIte, Nat.zero_le, Nat.reduceLeDiff, Nat.reduceAdd, e_10, e_01, e_00, e_11, Int32.reduceLE, Int32.reduceLT, Int32.reduceAdd, Int32.reduceSub, b01, if_true, if_false, ite_self, rc_82, gf_82_0, gf_82_1, gf_82_2, gf_82_3, gf_82_4, gf_82_5, gf_82_6, pf_82_6, gf_82_7, pf_82_7, gf_82_8, pf_82_8, gf_82_9, pf_82_9, gf_82_10, pf_82_10, gf_82_11, pf_82_11, gf_82_12, pf_82_12, gf_82_13, gf_82_14, gf_82_15, gf_82_16, pf_82_16, gf_82_17, gf_82_18, gf_82_19, gf_82_20, gf_82_21, gf_82_22, gf_82_23, gf_82_24, gf_82_25, pf_82_25, ga_83, wi_83, ga_84, wi_84, ga_85, wb_85, ga_86, wi_86, ga_87, wb_87, ga_88, wi_88, ga_89, wi_89, ga_90, wi_90, ga_91, wi_91, ga_92, wi_92, ga_93, wi_93, ga_94, wi_94, ga_95, wi_95, ga_96, wb_96, ga_97, wi_97, ga_98, wi_98, ga_99, wi_99, nl_add, nl_add', nl_mul, nI_add, in_t, cl_n, le_nn, lt_nn, le_ln, le_nl, lt_nl, lt_ln, eq_nn, eq_nl, in_lit, cl_lit, Nat.le_refl, Nat.add_zero, h25, hne, hl, M_of0, hw, ec, hc.2, nI_0, ed]
        · rw [gr1, if_pos hc, if_pos h2]; exact hG c hc2
      · rw [if_neg h2] at ed
        refine ⟨ua M' 94 (dlX (kdX (M 83)) (M' 94) a (lk (kdX (M 83)) sz (M 83 1) (a, wI (M 83) i, M 83 (26 + 6 * i + 2))) (nI (ac (kdX (M 83)) a (wI (M 83) i))) (wI (M 83) i)).1, ?_, fun b hb => by rw [ua_n _ _ hb]; exact hf b hb, fun c hc2 => ?_⟩
        · conv => lhs; rw [iX9_findAutos_62]
          simp (disch := omega) only [iX9_findAutos_63, iX9_findAutos_64, iX9_findAutos_67, iX9_findAutos_69, iX9_findAutos_70, iX9_findAutos_73, iX9_findAutos_74, iX9_findAutos_77, iX9_findAutos_78, iX9_findAutos_79, iX9_findAutos_81, iX9_findAutos_84, iX9_findAutos_85, iX9_findAutos_86, iX9_findAutos_87, iX9_findAutos_90, iX9_findAutos_91, iX9_findAutos_94, iX9_findAutos_95, iX9_findAutos_96, iX9_findAutos_97, iX9_findAutos_98, iX9_findAutos_101, iX9_findAutos_104, iX9_findAutos_105, iX9_findAutos_106, iX9_findAutos_109, iX9_findAutos_112, true_or, or_true, Option.bind_some, Option.bind_none, kk_hp, kn_hp, el_i, el_b, el_z, am_cat_nil, am_cat_i, am_cat_r, am_cat_l, am_cat_n, gd_i, gd_r, gd_n, gd_u, List.length_cons, List.length_nil, true_and, and_true, ↓reduceIte, Nat.zero_le, Nat.reduceLeDiff, Nat.reduceAdd, e_10, e_01, e_00, e_11, Int32.reduceLE, Int32.reduceLT, Int32.reduceAdd, Int32.reduceSub, b01, if_true, if_false, ite_self, rc_82, gf_82_0, gf_82_1, gf_82_2, gf_82_3, gf_82_4, gf_82_5, gf_82_6, pf_82_6, gf_82_7, pf_82_7, gf_82_8, pf_82_8, gf_82_9, pf_82_9, gf_82_10, pf_82_10, gf_82_11, pf_82_11, gf_82_12, pf_82_12, gf_82_13, gf_82_14, gf_82_15, gf_82_16, pf_82_16, gf_82_17, gf_82_18, gf_82_19, gf_82_20, gf_82_21, gf_82_22, gf_82_23, gf_82_24, gf_82_25, pf_82_25, ga_83, wi_83, ga_84, wi_84, ga_85, wb_85, ga_86, wi_86, ga_87, wb_87, ga_88, wi_88, ga_89, wi_89, ga_90, wi_90, ga_91, wi_91, ga_92, wi_92, ga_93, wi_93, ga_94, wi_94, ga_95, wi_95, ga_96, wb_96, ga_97, wi_97, ga_98, wi_98, ga_99, wi_99, nl_add, nl_add', nl_mul, nI_add, in_t, cl_n, le_nn, lt_nn, le_ln, le_nl, lt_nl, lt_ln, eq_nn, eq_nl, in_lit, cl_lit, Nat.le_refl, Nat.add_zero, h25, hne, hl, M_of0, hw, ec, hc.2, nI_0, ed]
        · rw [ua_s, gr1, if_pos hc, if_neg h2]
          exact (dlX_ext (by omega) (fun _ _ => rfl) hG).2 c hc2
    · refine ⟨M', ?_, hf, fun c hc2 => ?_⟩
      · conv => lhs; rw [iX9_findAutos_62]
        by_cases hv1 : wI (M 83) i = v
        · have hS0 : 0 < fc (kdX (M 83)) a (wI (M 83) i) := by
            have : fc (kdX (M 83)) a (wI (M 83) i) ≠ 0 := fun z => hc ⟨hv1, z⟩
            omega
          subst hv1
          simp (disch := omega) only [iX9_findAutos_63, iX9_findAutos_64, iX9_findAutos_67, iX9_findAutos_69, iX9_findAutos_70, iX9_findAutos_73, iX9_findAutos_74, iX9_findAutos_77, iX9_findAutos_78, iX9_findAutos_79, iX9_findAutos_81, iX9_findAutos_84, iX9_findAutos_85, iX9_findAutos_86, iX9_findAutos_87, iX9_findAutos_90, iX9_findAutos_91, iX9_findAutos_94, iX9_findAutos_95, iX9_findAutos_96, iX9_findAutos_97, iX9_findAutos_98, iX9_findAutos_101, iX9_findAutos_104, iX9_findAutos_105, iX9_findAutos_106, iX9_findAutos_109, iX9_findAutos_112, true_or, or_true, Option.bind_some, Option.bind_none, kk_hp, kn_hp, el_i, el_b, el_z, am_cat_nil, am_cat_i, am_cat_r, am_cat_l, am_cat_n, gd_i, gd_r, gd_n, gd_u, List.length_cons, List.length_nil, true_and, and_true, ↓reduceIte, Nat.zero_le, Nat.reduceLeDiff, Nat.reduceAdd, e_10, e_01, e_00, e_11, Int32.reduceLE, Int32.reduceLT, Int32.reduceAdd, Int32.reduceSub, b01, if_true, if_false, ite_self, rc_82, gf_82_0, gf_82_1, gf_82_2, gf_82_3, gf_82_4, gf_82_5, gf_82_6, pf_82_6, gf_82_7, pf_82_7, gf_82_8, pf_82_8, gf_82_9, pf_82_9, gf_82_10, pf_82_10, gf_82_11, pf_82_11, gf_82_12, pf_82_12, gf_82_13, gf_82_14, gf_82_15, gf_82_16, pf_82_16, gf_82_17, gf_82_18, gf_82_19, gf_82_20, gf_82_21, gf_82_22, gf_82_23, gf_82_24, gf_82_25, pf_82_25, ga_83, wi_83, ga_84, wi_84, ga_85, wb_85, ga_86, wi_86, ga_87, wb_87, ga_88, wi_88, ga_89, wi_89, ga_90, wi_90, ga_91, wi_91, ga_92, wi_92, ga_93, wi_93, ga_94, wi_94, ga_95, wi_95, ga_96, wb_96, ga_97, wi_97, ga_98, wi_98, ga_99, wi_99, nl_add, nl_add', nl_mul, nI_add, in_t, cl_n, le_nn, lt_nn, le_ln, le_nl, lt_nl, lt_ln, eq_nn, eq_nl, in_lit, cl_lit, Nat.le_refl, Nat.add_zero, h25, hne, hl, M_of0, hw, ec, nI_ne0 hS0 (show fc (kdX (M 83)) a (wI (M 83) i) < 2 ^ 31 by omega)]
        · simp (disch := omega) only [iX9_findAutos_63, iX9_findAutos_64, iX9_findAutos_67, iX9_findAutos_69, iX9_findAutos_70, iX9_findAutos_73, iX9_findAutos_74, iX9_findAutos_77, iX9_findAutos_78, iX9_findAutos_79, iX9_findAutos_81, iX9_findAutos_84, iX9_findAutos_85, iX9_findAutos_86, iX9_findAutos_87, iX9_findAutos_90, iX9_findAutos_91, iX9_findAutos_94, iX9_findAutos_95, iX9_findAutos_96, iX9_findAutos_97, iX9_findAutos_98, iX9_findAutos_101, iX9_findAutos_104, iX9_findAutos_105, iX9_findAutos_106, iX9_findAutos_109, iX9_findAutos_112, true_or, or_true, Option.bind_some, Option.bind_none, kk_hp, kn_hp, el_i, el_b, el_z, am_cat_nil, am_cat_i, am_cat_r, am_cat_l, am_cat_n, gd_i, gd_r, gd_n, gd_u, List.length_cons, List.length_nil, true_and, and_true, ↓reduceIte, Nat.zero_le, Nat.reduceLeDiff, Nat.reduceAdd, e_10, e_01, e_00, e_11, Int32.reduceLE, Int32.reduceLT, Int32.reduceAdd, Int32.reduceSub, b01, if_true, if_false, ite_self, rc_82, gf_82_0, gf_82_1, gf_82_2, gf_82_3, gf_82_4, gf_82_5, gf_82_6, pf_82_6, gf_82_7, pf_82_7, gf_82_8, pf_82_8, gf_82_9, pf_82_9, gf_82_10, pf_82_10, gf_82_11, pf_82_11, gf_82_12, pf_82_12, gf_82_13, gf_82_14, gf_82_15, gf_82_16, pf_82_16, gf_82_17, gf_82_18, gf_82_19, gf_82_20, gf_82_21, gf_82_22, gf_82_23, gf_82_24, gf_82_25, pf_82_25, ga_83, wi_83, ga_84, wi_84, ga_85, wb_85, ga_86, wi_86, ga_87, wb_87, ga_88, wi_88, ga_89, wi_89, ga_90, wi_90, ga_91, wi_91, ga_92, wi_92, ga_93, wi_93, ga_94, wi_94, ga_95, wi_95, ga_96, wb_96, ga_97, wi_97, ga_98, wi_98, ga_99, wi_99, nl_add, nl_add', nl_mul, nI_add, in_t, cl_n, le_nn, lt_nn, le_ln, le_nl, lt_nl, lt_ln, eq_nn, eq_nl, in_lit, cl_lit, Nat.le_refl, Nat.add_zero, h25, hne, hl, M_of0, hw, hv1]
      · rw [gr1, if_neg hc]; exact hG c hc2
end S46
