/-! changes, vii: scatter -/
theorem ush (x : Int32) : ((x.toUInt32 >>> ((16 : Int32).toUInt32 &&& Int32.toUInt32 31)).toInt32) &&& 32767 = (x >>> ((16 : Int32) &&& 31)) &&& 32767 := by
  apply Int32.toBitVec_inj.mp
  have e1 : ((16 : Int32).toUInt32 &&& Int32.toUInt32 31) = 16 := by decide
  have e2 : ((16 : Int32) &&& 31) = 16 := by decide
  rw [e1, e2]
  apply BitVec.eq_of_getLsbD_eq
  intro i hi
  have h3 : ((32767 : Int32).toBitVec).getLsbD i = decide (i < 15) := by
    have : ∀ i, i < 32 → ((32767 : Int32).toBitVec).getLsbD i = decide (i < 15) := by decide +kernel
    exact this i hi
  rw [Int32.toBitVec_and, Int32.toBitVec_and, BitVec.getLsbD_and, BitVec.getLsbD_and, h3]
  by_cases h15 : i < 15
  · have e4 : ((x.toUInt32 >>> (16 : UInt32)).toInt32).toBitVec = x.toBitVec >>> 16 := rfl
    have e5 : (x >>> (16 : Int32)).toBitVec = x.toBitVec.sshiftRight 16 := rfl
    rw [e4, e5, BitVec.getLsbD_ushiftRight, BitVec.getLsbD_sshiftRight]
    have h6 : decide (32 ≤ i) = false := decide_eq_false (by omega)
    rw [h6, if_pos (by omega)]
    simp
  · rw [decide_eq_false h15, Bool.and_false, Bool.and_false]
theorem and_n (y : Int32) : ∃ g, g < 32768 ∧ y &&& 32767 = nI g := by
  refine ⟨(y &&& 32767).toBitVec.toNat, ?_, ?_⟩
  · rw [Int32.toBitVec_and, BitVec.toNat_and]
    have : (32767 : Int32).toBitVec.toNat = 32767 := by decide
    rw [this]
    exact Nat.lt_of_le_of_lt Nat.and_le_right (by decide)
  · apply Int32.toBitVec_inj.mp
    show _ = BitVec.ofNat 32 _
    rw [BitVec.ofNat_toNat, BitVec.setWidth_eq]
def nxt (v : Int32) : Int32 := v * 1103515245 + 12345
def gotI (v : Int32) : Int32 := (v >>> ((16 : Int32) &&& 31)) &&& 32767
def scA (s : Nat → Int32) (v : Int32) : Nat → Int32 := app s (gotI v - gotI v / s 0 * s 0 + 1) (gotI v / 8 - gotI v / 8 / 3 * 3 + 1) (gotI v / 32 - gotI v / 32 / 50 * 50) (gotI v / 2048 - gotI v / 2048 / 15 * 15)
def scr : Nat → (Nat → Int32) → Int32 → (Nat → Int32) × Nat
  | 0, s, _ => (s, 0)
  | k + 1, s, v => if mI s < 10 then ((scr k (scA s (nxt v)) (nxt v)).1, (scr k (scA s (nxt v)) (nxt v)).2 + 1) else (s, 0)
theorem scA_wf {s : Nat → Int32} {v : Int32} (h : wf s) (hm : mI s < 10) (hn : 0 < nC s) : wf (scA s v) := by
  obtain ⟨g, hg, eg⟩ := and_n (v >>> ((16 : Int32) &&& 31))
  have eg' : gotI v = nI g := eg
  unfold scA
  have hn6 := h.1.2
  refine app_wf h hm (x := g % nC s + 1) (y := g / 8 % 3 + 1) ?_ ?_ ?_ ?_
  · rw [eg', h.1.1, nI_rem (by omega) hn (by omega), ← nI_add]; rfl
  · have := Nat.mod_lt g hn; omega
  · rw [eg', show (8 : Int32) = nI 8 from rfl, show (3 : Int32) = nI 3 from rfl, nI_div (by omega) (by omega) (by omega), nI_rem (by omega) (by omega) (by omega), ← nI_add]; rfl
  · omega
theorem scA_n {s : Nat → Int32} {v : Int32} (hm : mI s < 10) : nC (scA s v) = nC s := app_n hm
theorem scr_wf (k : Nat) : ∀ (s : Nat → Int32) (v : Int32), wf s → 0 < nC s → wf (scr k s v).1 := by
  induction k with
  | zero => intro s v h _; exact h
  | succ k ih =>
    intro s v h hn
    rw [scr]
    by_cases hm : mI s < 10
    · rw [if_pos hm]; exact ih _ _ (scA_wf h hm hn) (by rw [scA_n hm]; exact hn)
    · rw [if_neg hm]; exact h
theorem scr_2 (k : Nat) : ∀ (s : Nat → Int32) (v : Int32), (scr k s v).2 ≤ k := by
  induction k with
  | zero => intro s v; exact Nat.le_refl 0
  | succ k ih =>
    intro s v
    rw [scr]
    split
    · exact Nat.succ_le_succ (ih _ _)
    · exact Nat.zero_le _
section S80
variable {X : am_X} {M : Nat → Nat → Int32}
theorem scatter_C {n : Nat} {seed : Int32} (hn : n ≤ 10) (k : Nat) : ∀ (M : Nat → Nat → Int32) (s : Nat → Int32) (v : Int32) (c j : Nat) (u : Value), j + k = n → c ≤ j → RG M 1 s → wf s → 0 < nC s →
    ∃ M' l4 l5 l6 l7, am_ev X kX8_scatter 36 [.ref 0, .int seed, .int (nI n), .int (nI c), .int v, .int 1, .int (nI j), u] [] (hp M) = am_ev X kX8_scatter 135 [.ref 0, .int seed, .int (nI n), .int (nI (c + (scr k s v).2)), l4, l5, l6, l7] [] (hp M') ∧ (∀ x, ¬ (1 ≤ x ∧ x ≤ 11) → M' x = M x) ∧ RG M' 1 (scr k s v).1 := by
  induction k with
  | zero =>
    intro M s v c j u hj hc hR hwf h0
    refine ⟨M, .int v, .int 1, .int (nI j), u, ?_, fun _ _ => rfl, hR⟩
    rw [scr, Nat.add_zero]
    simp (disch := omega) only [iX8_scatter_36, iX8_scatter_38, iX8_scatter_39, true_or, or_true, Option.bind_some, Option.bind_none, kk_hp, kn_hp, el_i, el_b, el_z, am_cat_nil, am_cat_i, am_cat_r, am_cat_l, am_cat_n, gd_i, gd_r, gd_n, gd_u, List.length_cons, List.length_nil, true_and, and_true, ↓reduceIte, Nat.zero_le, Nat.reduceLeDiff, Nat.reduceAdd, e_10, e_01, e_00, e_11, Int32.reduceLE, Int32.reduceLT, Int32.reduceAdd, Int32.reduceSub, b01, if_true, if_false, ite_self, nl_add, nl_add', nl_mul, nI_add, in_t, cl_n, le_nn, lt_nn, le_ln, le_nl, lt_nl, lt_ln, eq_nn, eq_nl, in_lit, cl_lit, Nat.le_refl, Nat.add_zero, show n ≤ j by omega]
  | succ k ih =>
    intro M s v c j u hj hc hR hwf h0
    have hn6 := hwf.1.2
    have q0 : M 1 0 = s 0 := hR.1.1
    have sz : ¬ s 0 = 0 := by rw [hwf.1.1]; exact nI_ne0 h0 (by omega)
    have d3 : ¬ (3 : Int32) = 0 := by decide
    have d8 : ¬ (8 : Int32) = 0 := by decide
    have d32 : ¬ (32 : Int32) = 0 := by decide
    have d50 : ¬ (50 : Int32) = 0 := by decide
    have d2048 : ¬ (2048 : Int32) = 0 := by decide
    have d15 : ¬ (15 : Int32) = 0 := by decide
    by_cases hm : mI s < 10
    · obtain ⟨K, e1, f1, g1⟩ := @C_append X M 1 s (gotI (nxt v) - gotI (nxt v) / s 0 * s 0 + 1) (gotI (nxt v) / 8 - gotI (nxt v) / 8 / 3 * 3 + 1) (gotI (nxt v) / 32 - gotI (nxt v) / 32 / 50 * 50) (gotI (nxt v) / 2048 - gotI (nxt v) / 2048 / 15 * 15) (Or.inl rfl) hR hwf.2.1.1 hm hwf.1.2
      obtain ⟨M', l4, l5, l6, l7, e2, f2, g2⟩ := ih K (scA s (nxt v)) (nxt v) (c + 1) (j + 1) (.int (gotI (nxt v))) (by omega) (by omega) g1 (scA_wf hwf hm h0) (by rw [scA_n hm]; exact h0)
      refine ⟨M', l4, l5, l6, l7, ?_, fun x hx => by rw [f2 x hx, f1 x (by omega)], ?_⟩
      · rw [scr, if_pos hm]
        dsimp only
        rw [show c + ((scr k (scA s (nxt v)) (nxt v)).2 + 1) = c + 1 + (scr k (scA s (nxt v)) (nxt v)).2 by omega, ← e2]
        unfold nxt gotI at *
        conv => lhs; rw [iX8_scatter_36]
        simp (disch := omega) only [iX8_scatter_38, iX8_scatter_39, iX8_scatter_42, iX8_scatter_44, iX8_scatter_47, iX8_scatter_49, iX8_scatter_51, iX8_scatter_52, iX8_scatter_55, iX8_scatter_56, iX8_scatter_58, iX8_scatter_60, iX8_scatter_62, iX8_scatter_63, iX8_scatter_66, iX8_scatter_67, iX8_scatter_69, iX8_scatter_70, iX8_scatter_73, iX8_scatter_75, iX8_scatter_76, iX8_scatter_79, iX8_scatter_82, iX8_scatter_83, iX8_scatter_84, iX8_scatter_85, iX8_scatter_87, iX8_scatter_89, iX8_scatter_90, iX8_scatter_91, iX8_scatter_92, iX8_scatter_93, iX8_scatter_94, iX8_scatter_96, iX8_scatter_98, iX8_scatter_99, iX8_scatter_101, iX8_scatter_102, iX8_scatter_104, iX8_scatter_107, iX8_scatter_108, iX8_scatter_110, iX8_scatter_111, iX8_scatter_114, iX8_scatter_116, iX8_scatter_117, iX8_scatter_119, iX8_scatter_122, iX8_scatter_123, iX8_scatter_126, iX8_scatter_127, iX8_scatter_128, iX8_scatter_129, iX8_scatter_132, true_or, or_true, Option.bind_some, Option.bind_none, kk_hp, kn_hp, el_i, el_b, el_z, am_cat_nil, am_cat_i, am_cat_r, am_cat_l, am_cat_n, gd_i, gd_r, gd_n, gd_u, List.length_cons, List.length_nil, true_and, and_true, ↓reduceIte, Nat.zero_le, Nat.reduceLeDiff, Nat.reduceAdd, e_10, e_01, e_00, e_11, Int32.reduceLE, Int32.reduceLT, Int32.reduceAdd, Int32.reduceSub, b01, if_true, if_false, ite_self, rc_0, gf_0_0, gf_0_1, gf_0_2, gf_0_3, gf_0_4, gf_0_5, gf_0_6, gf_0_7, gf_0_8, pf_0_8, gf_0_9, pf_0_9, rc_1, gf_1_0, pf_1_0, gf_1_1, gf_1_2, gf_1_3, pf_1_3, gf_1_4, pf_1_4, gf_1_5, pf_1_5, gf_1_6, pf_1_6, gf_1_7, pf_1_7, gf_1_8, gf_1_9, nl_add, nl_add', nl_mul, nI_add, in_t, cl_n, le_nn, lt_nn, le_ln, le_nl, lt_nl, lt_ln, eq_nn, eq_nl, in_lit, cl_lit, Nat.le_refl, Nat.add_zero, show ¬ n ≤ j by omega, ush, q0, sz, d3, d8, d32, d50, d2048, d15, e1]
      · rw [scr, if_pos hm]; exact g2
    · have e1 := fun w t a b => @C_appendF X M 1 w t a b (mI s) (Or.inl rfl) (hR.1.2.2.2.2.2.trans hwf.2.1.1) (by omega) (by have := hwf.2.1.2; omega)
      refine ⟨M, .int (nxt v), .int 0, .int (nI (j + 1)), .int (gotI (nxt v)), ?_, fun _ _ => rfl, ?_⟩
      · rw [scr, if_neg hm]
        dsimp only
        unfold nxt gotI
        conv => lhs; rw [iX8_scatter_36]
        simp (disch := omega) only [iX8_scatter_38, iX8_scatter_39, iX8_scatter_42, iX8_scatter_44, iX8_scatter_47, iX8_scatter_49, iX8_scatter_51, iX8_scatter_52, iX8_scatter_55, iX8_scatter_56, iX8_scatter_58, iX8_scatter_60, iX8_scatter_62, iX8_scatter_63, iX8_scatter_66, iX8_scatter_67, iX8_scatter_69, iX8_scatter_70, iX8_scatter_73, iX8_scatter_75, iX8_scatter_76, iX8_scatter_79, iX8_scatter_82, iX8_scatter_83, iX8_scatter_84, iX8_scatter_85, iX8_scatter_87, iX8_scatter_89, iX8_scatter_90, iX8_scatter_91, iX8_scatter_92, iX8_scatter_93, iX8_scatter_94, iX8_scatter_96, iX8_scatter_98, iX8_scatter_99, iX8_scatter_101, iX8_scatter_102, iX8_scatter_104, iX8_scatter_107, iX8_scatter_108, iX8_scatter_110, iX8_scatter_111, iX8_scatter_114, iX8_scatter_116, iX8_scatter_117, iX8_scatter_119, iX8_scatter_122, iX8_scatter_123, iX8_scatter_126, iX8_scatter_127, iX8_scatter_128, iX8_scatter_129, iX8_scatter_132, true_or, or_true, Option.bind_some, Option.bind_none, kk_hp, kn_hp, el_i, el_b, el_z, am_cat_nil, am_cat_i, am_cat_r, am_cat_l, am_cat_n, gd_i, gd_r, gd_n, gd_u, List.length_cons, List.length_nil, true_and, and_true, ↓reduceIte, Nat.zero_le, Nat.reduceLeDiff, Nat.reduceAdd, e_10, e_01, e_00, e_11, Int32.reduceLE, Int32.reduceLT, Int32.reduceAdd, Int32.reduceSub, b01, if_true, if_false, ite_self, rc_0, gf_0_0, gf_0_1, gf_0_2, gf_0_3, gf_0_4, gf_0_5, gf_0_6, gf_0_7, gf_0_8, pf_0_8, gf_0_9, pf_0_9, rc_1, gf_1_0, pf_1_0, gf_1_1, gf_1_2, gf_1_3, pf_1_3, gf_1_4, pf_1_4, gf_1_5, pf_1_5, gf_1_6, pf_1_6, gf_1_7, pf_1_7, gf_1_8, gf_1_9, nl_add, nl_add', nl_mul, nI_add, in_t, cl_n, le_nn, lt_nn, le_ln, le_nl, lt_nl, lt_ln, eq_nn, eq_nl, in_lit, cl_lit, Nat.le_refl, Nat.add_zero, show ¬ n ≤ j by omega, ush, q0, sz, d3, d8, d32, d50, d2048, d15, e1, Int32.add_zero]
        rw [iX8_scatter_36]
        by_cases hjn : n ≤ j + 1
        · simp (disch := omega) only [iX8_scatter_38, iX8_scatter_39, iX8_scatter_42, iX8_scatter_44, true_or, or_true, Option.bind_some, Option.bind_none, kk_hp, kn_hp, el_i, el_b, el_z, am_cat_nil, am_cat_i, am_cat_r, am_cat_l, am_cat_n, gd_i, gd_r, gd_n, gd_u, List.length_cons, List.length_nil, true_and, and_true, ↓reduceIte, Nat.zero_le, Nat.reduceLeDiff, Nat.reduceAdd, e_10, e_01, e_00, e_11, Int32.reduceLE, Int32.reduceLT, Int32.reduceAdd, Int32.reduceSub, b01, if_true, if_false, ite_self, nl_add, nl_add', nl_mul, nI_add, in_t, cl_n, le_nn, lt_nn, le_ln, le_nl, lt_nl, lt_ln, eq_nn, eq_nl, in_lit, cl_lit, Nat.le_refl, Nat.add_zero, hjn]
        · simp (disch := omega) only [iX8_scatter_38, iX8_scatter_39, iX8_scatter_42, iX8_scatter_44, true_or, or_true, Option.bind_some, Option.bind_none, kk_hp, kn_hp, el_i, el_b, el_z, am_cat_nil, am_cat_i, am_cat_r, am_cat_l, am_cat_n, gd_i, gd_r, gd_n, gd_u, List.length_cons, List.length_nil, true_and, and_true, ↓reduceIte, Nat.zero_le, Nat.reduceLeDiff, Nat.reduceAdd, e_10, e_01, e_00, e_11, Int32.reduceLE, Int32.reduceLT, Int32.reduceAdd, Int32.reduceSub, b01, if_true, if_false, ite_self, nl_add, nl_add', nl_mul, nI_add, in_t, cl_n, le_nn, lt_nn, le_ln, le_nl, lt_nl, lt_ln, eq_nn, eq_nl, in_lit, cl_lit, Nat.le_refl, Nat.add_zero, hjn]
      · rw [scr, if_neg hm]; exact hR
theorem scatter_M {n : Nat} {seed : Int32} (hn : n ≤ 10) (k : Nat) : ∀ (M : Nat → Nat → Int32) (v : Int32) (c : Nat) (u : Value), c + k = n → wf (M 83) → 0 < nC (M 83) →
    ∃ l3 l5, am_ev X kX9_scatter 31 [.ref 82, .int seed, .int (nI n), .int v, .int (nI c), u] [] (hp M) = am_ev X kX9_scatter 116 [.ref 82, .int seed, .int (nI n), l3, .int (nI (c + (scr k (M 83) v).2)), l5] [] (hp (ua M 83 (scr k (M 83) v).1)) := by
  induction k with
  | zero =>
    intro M v c u hc hwf h0
    refine ⟨.int v, u, ?_⟩
    rw [scr, Nat.add_zero, ua_self]
    simp (disch := omega) only [iX9_scatter_31, iX9_scatter_33, iX9_scatter_34, true_or, or_true, Option.bind_some, Option.bind_none, kk_hp, kn_hp, el_i, el_b, el_z, am_cat_nil, am_cat_i, am_cat_r, am_cat_l, am_cat_n, gd_i, gd_r, gd_n, gd_u, List.length_cons, List.length_nil, true_and, and_true, ↓reduceIte, Nat.zero_le, Nat.reduceLeDiff, Nat.reduceAdd, e_10, e_01, e_00, e_11, Int32.reduceLE, Int32.reduceLT, Int32.reduceAdd, Int32.reduceSub, b01, if_true, if_false, ite_self, nl_add, nl_add', nl_mul, nI_add, in_t, cl_n, le_nn, lt_nn, le_ln, le_nl, lt_nl, lt_ln, eq_nn, eq_nl, in_lit, cl_lit, Nat.le_refl, Nat.add_zero, show n ≤ c by omega]
  | succ k ih =>
    intro M v c u hc hwf h0
    have hn6 := hwf.1.2
    have hm10 := hwf.2.1.2
    have h25 := hwf.2.1.1
    have sz : ¬ M 83 0 = 0 := by rw [hwf.1.1]; exact nI_ne0 h0 (by omega)
    have d3 : ¬ (3 : Int32) = 0 := by decide
    have d8 : ¬ (8 : Int32) = 0 := by decide
    have d32 : ¬ (32 : Int32) = 0 := by decide
    have d50 : ¬ (50 : Int32) = 0 := by decide
    have d2048 : ¬ (2048 : Int32) = 0 := by decide
    have d15 : ¬ (15 : Int32) = 0 := by decide
    by_cases hm : mI (M 83) < 10
    · have e1 := @M_comes X M (gotI (nxt v) - gotI (nxt v) / M 83 0 * M 83 0 + 1) (gotI (nxt v) / 8 - gotI (nxt v) / 8 / 3 * 3 + 1) (gotI (nxt v) / 32 - gotI (nxt v) / 32 / 50 * 50) (gotI (nxt v) / 2048 - gotI (nxt v) / 2048 / 15 * 15) h25 hm
      obtain ⟨l3, l5, e2⟩ := ih (ua M 83 (scA (M 83) (nxt v))) (nxt v) (c + 1) (.int (gotI (nxt v))) (by omega) (by rw [ua_s]; exact scA_wf hwf hm h0) (by rw [ua_s, scA_n hm]; exact h0)
      rw [ua_s, up_up] at e2
      refine ⟨l3, l5, ?_⟩
      rw [scr, if_pos hm]
      dsimp only
      rw [show c + ((scr k (scA (M 83) (nxt v)) (nxt v)).2 + 1) = c + 1 + (scr k (scA (M 83) (nxt v)) (nxt v)).2 by omega, ← e2]
      unfold scA
      unfold nxt gotI at *
      conv => lhs; rw [iX9_scatter_31]
      simp (disch := omega) only [iX9_scatter_33, iX9_scatter_34, iX9_scatter_37, iX9_scatter_38, iX9_scatter_41, iX9_scatter_43, iX9_scatter_44, iX9_scatter_46, iX9_scatter_49, iX9_scatter_50, iX9_scatter_53, iX9_scatter_54, iX9_scatter_57, iX9_scatter_58, iX9_scatter_59, iX9_scatter_60, iX9_scatter_62, iX9_scatter_63, iX9_scatter_66, iX9_scatter_67, iX9_scatter_69, iX9_scatter_70, iX9_scatter_72, iX9_scatter_73, iX9_scatter_76, iX9_scatter_77, iX9_scatter_78, iX9_scatter_79, iX9_scatter_80, iX9_scatter_81, iX9_scatter_83, iX9_scatter_85, iX9_scatter_86, iX9_scatter_87, iX9_scatter_88, iX9_scatter_89, iX9_scatter_90, iX9_scatter_92, iX9_scatter_94, iX9_scatter_95, iX9_scatter_97, iX9_scatter_98, iX9_scatter_100, iX9_scatter_103, iX9_scatter_104, iX9_scatter_106, iX9_scatter_107, iX9_scatter_110, iX9_scatter_113, true_or, or_true, Option.bind_some, Option.bind_none, kk_hp, kn_hp, el_i, el_b, el_z, am_cat_nil, am_cat_i, am_cat_r, am_cat_l, am_cat_n, gd_i, gd_r, gd_n, gd_u, List.length_cons, List.length_nil, true_and, and_true, ↓reduceIte, Nat.zero_le, Nat.reduceLeDiff, Nat.reduceAdd, e_10, e_01, e_00, e_11, Int32.reduceLE, Int32.reduceLT, Int32.reduceAdd, Int32.reduceSub, b01, if_true, if_false, ite_self, rc_82, gf_82_0, gf_82_1, gf_82_2, gf_82_3, gf_82_4, gf_82_5, gf_82_6, pf_82_6, gf_82_7, pf_82_7, gf_82_8, pf_82_8, gf_82_9, pf_82_9, gf_82_10, pf_82_10, gf_82_11, pf_82_11, gf_82_12, pf_82_12, gf_82_13, gf_82_14, gf_82_15, gf_82_16, pf_82_16, gf_82_17, gf_82_18, gf_82_19, gf_82_20, gf_82_21, gf_82_22, gf_82_23, gf_82_24, gf_82_25, pf_82_25, ga_83, wi_83, ga_84, wi_84, ga_85, wb_85, ga_86, wi_86, ga_87, wb_87, ga_88, wi_88, ga_89, wi_89, ga_90, wi_90, ga_91, wi_91, ga_92, wi_92, ga_93, wi_93, ga_94, wi_94, ga_95, wi_95, ga_96, wb_96, ga_97, wi_97, ga_98, wi_98, ga_99, wi_99, nl_add, nl_add', nl_mul, nI_add, in_t, cl_n, le_nn, lt_nn, le_ln, le_nl, lt_nl, lt_ln, eq_nn, eq_nl, in_lit, cl_lit, Nat.le_refl, Nat.add_zero, show ¬ n ≤ c by omega, h25, show ¬ 10 ≤ mI (M 83) by omega, sz, d3, d8, d32, d50, d2048, d15, e1]
    · refine ⟨.int v, u, ?_⟩
      rw [scr, if_neg hm, Nat.add_zero, ua_self]
      conv => lhs; rw [iX9_scatter_31]
      simp (disch := omega) only [iX9_scatter_33, iX9_scatter_34, iX9_scatter_37, iX9_scatter_38, iX9_scatter_41, iX9_scatter_43, iX9_scatter_44, iX9_scatter_46, true_or, or_true, Option.bind_some, Option.bind_none, kk_hp, kn_hp, el_i, el_b, el_z, am_cat_nil, am_cat_i, am_cat_r, am_cat_l, am_cat_n, gd_i, gd_r, gd_n, gd_u, List.length_cons, List.length_nil, true_and, and_true, ↓reduceIte, Nat.zero_le, Nat.reduceLeDiff, Nat.reduceAdd, e_10, e_01, e_00, e_11, Int32.reduceLE, Int32.reduceLT, Int32.reduceAdd, Int32.reduceSub, b01, if_true, if_false, ite_self, rc_82, gf_82_0, gf_82_1, gf_82_2, gf_82_3, gf_82_4, gf_82_5, gf_82_6, pf_82_6, gf_82_7, pf_82_7, gf_82_8, pf_82_8, gf_82_9, pf_82_9, gf_82_10, pf_82_10, gf_82_11, pf_82_11, gf_82_12, pf_82_12, gf_82_13, gf_82_14, gf_82_15, gf_82_16, pf_82_16, gf_82_17, gf_82_18, gf_82_19, gf_82_20, gf_82_21, gf_82_22, gf_82_23, gf_82_24, gf_82_25, pf_82_25, ga_83, wi_83, ga_84, wi_84, ga_85, wb_85, ga_86, wi_86, ga_87, wb_87, ga_88, wi_88, ga_89, wi_89, ga_90, wi_90, ga_91, wi_91, ga_92, wi_92, ga_93, wi_93, ga_94, wi_94, ga_95, wi_95, ga_96, wb_96, ga_97, wi_97, ga_98, wi_98, ga_99, wi_99, nl_add, nl_add', nl_mul, nI_add, in_t, cl_n, le_nn, lt_nn, le_ln, le_nl, lt_nl, lt_ln, eq_nn, eq_nl, in_lit, cl_lit, Nat.le_refl, Nat.add_zero, show ¬ n ≤ c by omega, h25, show 10 ≤ mI (M 83) by omega]
theorem S_scatter (h : RR M) (seed n : Int32) : St X kX8_scatter [.ref 0, .int seed, .int n, am_u, am_u, am_u, am_u, am_u] kX9_scatter [.ref 82, .int seed, .int n, am_u, am_u, am_u] M := by
  have hwf := h.1
  have hn6 := hwf.1.2
  have q0 : M 1 0 = nI (nC (M 83)) := h.2.1.1.1.trans hwf.1.1
  have eb := @C_isBetween X M n 1 10
  have er := fun K : Nat → Nat → Int32 => @M_in X K n.toInt64 1 10
  simp (disch := decide) only [wl, wl_l, wl_r] at er
  by_cases hn : 1 ≤ n ∧ n ≤ 10
  · rw [if_pos hn] at eb
    have er' := fun K => (er K).trans (by rw [if_pos hn])
    obtain ⟨a, ha1, ha2, rfl⟩ := (btw1 (n := 10) (by decide)).mp hn
    rcases Nat.eq_zero_or_pos (nC (M 83)) with hz | hz
    · have er0 := er' M
      have z83 : M 83 0 = 0 := by rw [hwf.1.1, hz]; rfl
      have z1 : M 1 0 = 0 := by rw [q0, hz]; rfl
      refine ⟨-2, M, M, ?_, ?_, h⟩
      · simp (disch := omega) only [iX8_scatter_0, iX8_scatter_1, iX8_scatter_2, iX8_scatter_4, iX8_scatter_7, iX8_scatter_10, iX8_scatter_11, iX8_scatter_12, iX8_scatter_13, iX8_scatter_16, iX8_scatter_19, iX8_scatter_22, iX8_scatter_24, iX8_scatter_25, iX8_scatter_26, iX8_scatter_27, iX8_scatter_28, iX8_scatter_30, iX8_scatter_31, iX8_scatter_33, iX8_scatter_34, true_or, or_true, Option.bind_some, Option.bind_none, kk_hp, kn_hp, el_i, el_b, el_z, am_cat_nil, am_cat_i, am_cat_r, am_cat_l, am_cat_n, gd_i, gd_r, gd_n, gd_u, List.length_cons, List.length_nil, true_and, and_true, ↓reduceIte, Nat.zero_le, Nat.reduceLeDiff, Nat.reduceAdd, e_10, e_01, e_00, e_11, Int32.reduceLE, Int32.reduceLT, Int32.reduceAdd, Int32.reduceSub, b01, if_true, if_false, ite_self, rc_0, gf_0_0, gf_0_1, gf_0_2, gf_0_3, gf_0_4, gf_0_5, gf_0_6, gf_0_7, gf_0_8, pf_0_8, gf_0_9, pf_0_9, rc_1, gf_1_0, pf_1_0, gf_1_1, gf_1_2, gf_1_3, pf_1_3, gf_1_4, pf_1_4, gf_1_5, pf_1_5, gf_1_6, pf_1_6, gf_1_7, pf_1_7, gf_1_8, gf_1_9, nl_add, nl_add', nl_mul, nI_add, in_t, cl_n, le_nn, lt_nn, le_ln, le_nl, lt_nl, lt_ln, eq_nn, eq_nl, in_lit, cl_lit, Nat.le_refl, Nat.add_zero, eb, z1, Int32.reduceLT]
      · simp (disch := omega) only [iX9_scatter_0, iX9_scatter_1, iX9_scatter_2, iX9_scatter_3, iX9_scatter_6, iX9_scatter_9, iX9_scatter_12, iX9_scatter_13, iX9_scatter_14, iX9_scatter_15, iX9_scatter_18, iX9_scatter_19, iX9_scatter_20, iX9_scatter_23, iX9_scatter_25, iX9_scatter_26, iX9_scatter_27, iX9_scatter_28, iX9_scatter_29, true_or, or_true, Option.bind_some, Option.bind_none, kk_hp, kn_hp, el_i, el_b, el_z, am_cat_nil, am_cat_i, am_cat_r, am_cat_l, am_cat_n, gd_i, gd_r, gd_n, gd_u, List.length_cons, List.length_nil, true_and, and_true, ↓reduceIte, Nat.zero_le, Nat.reduceLeDiff, Nat.reduceAdd, e_10, e_01, e_00, e_11, Int32.reduceLE, Int32.reduceLT, Int32.reduceAdd, Int32.reduceSub, b01, if_true, if_false, ite_self, rc_82, gf_82_0, gf_82_1, gf_82_2, gf_82_3, gf_82_4, gf_82_5, gf_82_6, pf_82_6, gf_82_7, pf_82_7, gf_82_8, pf_82_8, gf_82_9, pf_82_9, gf_82_10, pf_82_10, gf_82_11, pf_82_11, gf_82_12, pf_82_12, gf_82_13, gf_82_14, gf_82_15, gf_82_16, pf_82_16, gf_82_17, gf_82_18, gf_82_19, gf_82_20, gf_82_21, gf_82_22, gf_82_23, gf_82_24, gf_82_25, pf_82_25, ga_83, wi_83, ga_84, wi_84, ga_85, wb_85, ga_86, wi_86, ga_87, wb_87, ga_88, wi_88, ga_89, wi_89, ga_90, wi_90, ga_91, wi_91, ga_92, wi_92, ga_93, wi_93, ga_94, wi_94, ga_95, wi_95, ga_96, wb_96, ga_97, wi_97, ga_98, wi_98, ga_99, wi_99, nl_add, nl_add', nl_mul, nI_add, in_t, cl_n, le_nn, lt_nn, le_ln, le_nl, lt_nl, lt_ln, eq_nn, eq_nl, in_lit, cl_lit, Nat.le_refl, Nat.add_zero, er0, z83]
    · obtain ⟨K, l4, l5, l6, l7, e1, f1, g1⟩ := @scatter_C X a seed ha2 a M (M 83) seed 0 0 am_u (by omega) (by omega) h.2.1 hwf hz
      have k83 : (up K 0 8 1) 83 = M 83 := f1 83 (by decide)
      obtain ⟨m3, m5, e2⟩ := @scatter_M X a seed ha2 a (up K 0 8 1) seed 0 am_u (by omega) (by rw [k83]; exact hwf) (by rw [k83]; exact hz)
      rw [k83] at e2
      rw [nI_0, Nat.zero_add] at e1 e2
      have er1 := er' (up K 0 8 1)
      have z83 : ¬ (up K 0 8 1) 83 0 = 0 := by rw [k83, hwf.1.1]; exact nI_ne0 hz (by omega)
      refine ⟨nI (scr a (M 83) seed).2, up K 0 8 1, ua (up K 0 8 1) 83 (scr a (M 83) seed).1, ?_, ?_, ?_⟩
      · simp (disch := omega) only [iX8_scatter_0, iX8_scatter_1, iX8_scatter_2, iX8_scatter_4, iX8_scatter_7, iX8_scatter_10, iX8_scatter_11, iX8_scatter_12, iX8_scatter_13, iX8_scatter_16, iX8_scatter_19, iX8_scatter_22, iX8_scatter_24, iX8_scatter_25, iX8_scatter_26, iX8_scatter_27, iX8_scatter_28, iX8_scatter_30, iX8_scatter_31, iX8_scatter_33, iX8_scatter_34, true_or, or_true, Option.bind_some, Option.bind_none, kk_hp, kn_hp, el_i, el_b, el_z, am_cat_nil, am_cat_i, am_cat_r, am_cat_l, am_cat_n, gd_i, gd_r, gd_n, gd_u, List.length_cons, List.length_nil, true_and, and_true, ↓reduceIte, Nat.zero_le, Nat.reduceLeDiff, Nat.reduceAdd, e_10, e_01, e_00, e_11, Int32.reduceLE, Int32.reduceLT, Int32.reduceAdd, Int32.reduceSub, b01, if_true, if_false, ite_self, rc_0, gf_0_0, gf_0_1, gf_0_2, gf_0_3, gf_0_4, gf_0_5, gf_0_6, gf_0_7, gf_0_8, pf_0_8, gf_0_9, pf_0_9, rc_1, gf_1_0, pf_1_0, gf_1_1, gf_1_2, gf_1_3, pf_1_3, gf_1_4, pf_1_4, gf_1_5, pf_1_5, gf_1_6, pf_1_6, gf_1_7, pf_1_7, gf_1_8, gf_1_9, nl_add, nl_add', nl_mul, nI_add, in_t, cl_n, le_nn, lt_nn, le_ln, le_nl, lt_nl, lt_ln, eq_nn, eq_nl, in_lit, cl_lit, Nat.le_refl, Nat.add_zero, eb, q0, show 0 < nC (M 83) by omega]
        rw [e1]
        simp (disch := omega) only [iX8_scatter_135, iX8_scatter_136, iX8_scatter_137, iX8_scatter_140, iX8_scatter_141, true_or, or_true, Option.bind_some, Option.bind_none, kk_hp, kn_hp, el_i, el_b, el_z, am_cat_nil, am_cat_i, am_cat_r, am_cat_l, am_cat_n, gd_i, gd_r, gd_n, gd_u, List.length_cons, List.length_nil, true_and, and_true, ↓reduceIte, Nat.zero_le, Nat.reduceLeDiff, Nat.reduceAdd, e_10, e_01, e_00, e_11, Int32.reduceLE, Int32.reduceLT, Int32.reduceAdd, Int32.reduceSub, b01, if_true, if_false, ite_self, rc_0, gf_0_0, gf_0_1, gf_0_2, gf_0_3, gf_0_4, gf_0_5, gf_0_6, gf_0_7, gf_0_8, pf_0_8, gf_0_9, pf_0_9, rc_1, gf_1_0, pf_1_0, gf_1_1, gf_1_2, gf_1_3, pf_1_3, gf_1_4, pf_1_4, gf_1_5, pf_1_5, gf_1_6, pf_1_6, gf_1_7, pf_1_7, gf_1_8, gf_1_9, nl_add, nl_add', nl_mul, nI_add, in_t, cl_n, le_nn, lt_nn, le_ln, le_nl, lt_nl, lt_ln, eq_nn, eq_nl, in_lit, cl_lit, Nat.le_refl, Nat.add_zero]
      · simp (disch := omega) only [iX9_scatter_0, iX9_scatter_1, iX9_scatter_2, iX9_scatter_3, iX9_scatter_6, iX9_scatter_9, iX9_scatter_12, iX9_scatter_13, iX9_scatter_14, iX9_scatter_15, iX9_scatter_18, iX9_scatter_19, iX9_scatter_20, iX9_scatter_23, iX9_scatter_25, iX9_scatter_26, iX9_scatter_27, iX9_scatter_28, iX9_scatter_29, true_or, or_true, Option.bind_some, Option.bind_none, kk_hp, kn_hp, el_i, el_b, el_z, am_cat_nil, am_cat_i, am_cat_r, am_cat_l, am_cat_n, gd_i, gd_r, gd_n, gd_u, List.length_cons, List.length_nil, true_and, and_true, ↓reduceIte, Nat.zero_le, Nat.reduceLeDiff, Nat.reduceAdd, e_10, e_01, e_00, e_11, Int32.reduceLE, Int32.reduceLT, Int32.reduceAdd, Int32.reduceSub, b01, if_true, if_false, ite_self, rc_82, gf_82_0, gf_82_1, gf_82_2, gf_82_3, gf_82_4, gf_82_5, gf_82_6, pf_82_6, gf_82_7, pf_82_7, gf_82_8, pf_82_8, gf_82_9, pf_82_9, gf_82_10, pf_82_10, gf_82_11, pf_82_11, gf_82_12, pf_82_12, gf_82_13, gf_82_14, gf_82_15, gf_82_16, pf_82_16, gf_82_17, gf_82_18, gf_82_19, gf_82_20, gf_82_21, gf_82_22, gf_82_23, gf_82_24, gf_82_25, pf_82_25, ga_83, wi_83, ga_84, wi_84, ga_85, wb_85, ga_86, wi_86, ga_87, wb_87, ga_88, wi_88, ga_89, wi_89, ga_90, wi_90, ga_91, wi_91, ga_92, wi_92, ga_93, wi_93, ga_94, wi_94, ga_95, wi_95, ga_96, wb_96, ga_97, wi_97, ga_98, wi_98, ga_99, wi_99, nl_add, nl_add', nl_mul, nI_add, in_t, cl_n, le_nn, lt_nn, le_ln, le_nl, lt_nl, lt_ln, eq_nn, eq_nl, in_lit, cl_lit, Nat.le_refl, Nat.add_zero, er1, z83]
        rw [e2]
        simp (disch := omega) only [iX9_scatter_116, iX9_scatter_118, true_or, or_true, Option.bind_some, Option.bind_none, kk_hp, kn_hp, el_i, el_b, el_z, am_cat_nil, am_cat_i, am_cat_r, am_cat_l, am_cat_n, gd_i, gd_r, gd_n, gd_u, List.length_cons, List.length_nil, true_and, and_true, ↓reduceIte, Nat.zero_le, Nat.reduceLeDiff, Nat.reduceAdd, e_10, e_01, e_00, e_11, Int32.reduceLE, Int32.reduceLT, Int32.reduceAdd, Int32.reduceSub, b01, if_true, if_false, ite_self, rc_82, gf_82_0, gf_82_1, gf_82_2, gf_82_3, gf_82_4, gf_82_5, gf_82_6, pf_82_6, gf_82_7, pf_82_7, gf_82_8, pf_82_8, gf_82_9, pf_82_9, gf_82_10, pf_82_10, gf_82_11, pf_82_11, gf_82_12, pf_82_12, gf_82_13, gf_82_14, gf_82_15, gf_82_16, pf_82_16, gf_82_17, gf_82_18, gf_82_19, gf_82_20, gf_82_21, gf_82_22, gf_82_23, gf_82_24, gf_82_25, pf_82_25, ga_83, wi_83, ga_84, wi_84, ga_85, wb_85, ga_86, wi_86, ga_87, wb_87, ga_88, wi_88, ga_89, wi_89, ga_90, wi_90, ga_91, wi_91, ga_92, wi_92, ga_93, wi_93, ga_94, wi_94, ga_95, wi_95, ga_96, wb_96, ga_97, wi_97, ga_98, wi_98, ga_99, wi_99, nl_add, nl_add', nl_mul, nI_add, in_t, cl_n, le_nn, lt_nn, le_ln, le_nl, lt_nl, lt_ln, eq_nn, eq_nl, in_lit, cl_lit, Nat.le_refl, Nat.add_zero]
      · refine RR_c h (fun x h1 h2 => by rw [ua_n _ _ h2, up_n _ _ _ (by omega)]; exact f1 x (by omega)) rfl ?_ ?_ ?_
        · show K 0 9 = M 0 9
          rw [f1 0 (by decide)]
        · rw [ua_s]; exact scr_wf a (M 83) seed hwf hz
        · rw [ua_s]; exact RG_fa (fun k hk => by rw [ua_n _ _ (by omega), up_n _ _ _ (by omega)]) g1
  · rw [if_neg hn] at eb
    have er0 := er M
    rw [if_neg hn] at er0
    refine ⟨-1, M, M, ?_, ?_, h⟩
    · simp (disch := omega) only [iX8_scatter_0, iX8_scatter_1, iX8_scatter_2, iX8_scatter_4, iX8_scatter_7, iX8_scatter_10, iX8_scatter_11, iX8_scatter_12, iX8_scatter_13, iX8_scatter_16, iX8_scatter_19, iX8_scatter_22, iX8_scatter_24, iX8_scatter_25, iX8_scatter_26, iX8_scatter_27, iX8_scatter_28, iX8_scatter_30, iX8_scatter_31, iX8_scatter_33, iX8_scatter_34, true_or, or_true, Option.bind_some, Option.bind_none, kk_hp, kn_hp, el_i, el_b, el_z, am_cat_nil, am_cat_i, am_cat_r, am_cat_l, am_cat_n, gd_i, gd_r, gd_n, gd_u, List.length_cons, List.length_nil, true_and, and_true, ↓reduceIte, Nat.zero_le, Nat.reduceLeDiff, Nat.reduceAdd, e_10, e_01, e_00, e_11, Int32.reduceLE, Int32.reduceLT, Int32.reduceAdd, Int32.reduceSub, b01, if_true, if_false, ite_self, rc_0, gf_0_0, gf_0_1, gf_0_2, gf_0_3, gf_0_4, gf_0_5, gf_0_6, gf_0_7, gf_0_8, pf_0_8, gf_0_9, pf_0_9, rc_1, gf_1_0, pf_1_0, gf_1_1, gf_1_2, gf_1_3, pf_1_3, gf_1_4, pf_1_4, gf_1_5, pf_1_5, gf_1_6, pf_1_6, gf_1_7, pf_1_7, gf_1_8, gf_1_9, nl_add, nl_add', nl_mul, nI_add, in_t, cl_n, le_nn, lt_nn, le_ln, le_nl, lt_nl, lt_ln, eq_nn, eq_nl, in_lit, cl_lit, Nat.le_refl, Nat.add_zero, eb]
    · simp (disch := omega) only [iX9_scatter_0, iX9_scatter_1, iX9_scatter_2, iX9_scatter_3, iX9_scatter_6, iX9_scatter_9, iX9_scatter_12, iX9_scatter_13, iX9_scatter_14, iX9_scatter_15, iX9_scatter_18, iX9_scatter_19, iX9_scatter_20, iX9_scatter_23, iX9_scatter_25, iX9_scatter_26, iX9_scatter_27, iX9_scatter_28, iX9_scatter_29, true_or, or_true, Option.bind_some, Option.bind_none, kk_hp, kn_hp, el_i, el_b, el_z, am_cat_nil, am_cat_i, am_cat_r, am_cat_l, am_cat_n, gd_i, gd_r, gd_n, gd_u, List.length_cons, List.length_nil, true_and, and_true, ↓reduceIte, Nat.zero_le, Nat.reduceLeDiff, Nat.reduceAdd, e_10, e_01, e_00, e_11, Int32.reduceLE, Int32.reduceLT, Int32.reduceAdd, Int32.reduceSub, b01, if_true, if_false, ite_self, rc_82, gf_82_0, gf_82_1, gf_82_2, gf_82_3, gf_82_4, gf_82_5, gf_82_6, pf_82_6, gf_82_7, pf_82_7, gf_82_8, pf_82_8, gf_82_9, pf_82_9, gf_82_10, pf_82_10, gf_82_11, pf_82_11, gf_82_12, pf_82_12, gf_82_13, gf_82_14, gf_82_15, gf_82_16, pf_82_16, gf_82_17, gf_82_18, gf_82_19, gf_82_20, gf_82_21, gf_82_22, gf_82_23, gf_82_24, gf_82_25, pf_82_25, ga_83, wi_83, ga_84, wi_84, ga_85, wb_85, ga_86, wi_86, ga_87, wb_87, ga_88, wi_88, ga_89, wi_89, ga_90, wi_90, ga_91, wi_91, ga_92, wi_92, ga_93, wi_93, ga_94, wi_94, ga_95, wi_95, ga_96, wb_96, ga_97, wi_97, ga_98, wi_98, ga_99, wi_99, nl_add, nl_add', nl_mul, nI_add, in_t, cl_n, le_nn, lt_nn, le_ln, le_nl, lt_nl, lt_ln, eq_nn, eq_nl, in_lit, cl_lit, Nat.le_refl, Nat.add_zero, er0]
end S80
