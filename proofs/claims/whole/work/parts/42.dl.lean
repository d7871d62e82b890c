/-! dealing -/
theorem nI_div {u p : Nat} (hu : u < 2147483648) (hp0 : 0 < p) (hp : p < 2147483648) : nI u / nI p = nI (u / p) := by
  apply Int32.toInt_inj.mp
  have h1 : nI p ≠ -1 := by
    intro z
    have := congrArg Int32.toInt z
    rw [nI_toInt hp] at this
    have e : (-1 : Int32).toInt = -1 := by decide
    omega
  rw [Int32.toInt_div_of_ne_right _ _ h1, nI_toInt hu, nI_toInt hp, nI_toInt (Nat.lt_of_le_of_lt (Nat.div_le_self u p) hu)]
  exact (Int.ofNat_tdiv u p).symm
theorem nI_rem {u p : Nat} (hu : u < 2147483648) (hp0 : 0 < p) (hp : p < 2147483648) : nI u - nI u / nI p * nI p = nI (u % p) := by
  rw [nI_div hu hp0 hp, pk_mul, nI_sub' (Nat.div_mul_le_self u p)]
  congr 1
  have := Nat.div_add_mod u p
  rw [Nat.mul_comm] at this
  omega
/-- what one item's lack gives to the tracks from a on, and how many of them had a part -/
def dlX (kd gr : Nat → Int32) (a : Nat) (much many : Int32) : Nat → (Nat → Int32) × Nat
  | 0 => (gr, 0)
  | d + 1 => if kd (a + d) = 1 then (upd (dlX kd gr a much many d).1 (a + d) (if dlt (nI (dlX kd gr a much many d).2) much many ≤ (dlX kd gr a much many d).1 (a + d) then (dlX kd gr a much many d).1 (a + d) else dlt (nI (dlX kd gr a much many d).2) much many), (dlX kd gr a much many d).2 + 1) else dlX kd gr a much many d
theorem dlX_k (kd gr : Nat → Int32) (a : Nat) (much many : Int32) (d : Nat) : (dlX kd gr a much many d).2 ≤ d := by
  induction d with
  | zero => exact Nat.le_refl 0
  | succ d ih =>
    rw [dlX]
    split
    · exact Nat.succ_le_succ ih
    · omega
section S42
variable {X : am_X} {M : Nat → Nat → Int32}
theorem C_deal {g i a w p : Nat} {much : Int32} (hg : isA g) (hi : i < 10) (h5 : M (g + 5) i = nI a) (h6 : M (g + 6) i = nI w) (h : a + w ≤ 12)
    (hap : sm (fun d => if M (g + 1) (a + d) = 1 then 1 else 0) w = nI p) (hp12 : p ≤ 12)
    (hm : M (g + 7) i - ((if w ≤ 1 then 0 else M g 1 * (nI w - 1)) + sm (fun d => M (g + 3) (a + d)) w) = much) :
    am_ev X kX0_deal 0 [.ref g, .int (nI i), am_u, am_u, am_u, am_u, am_u] [] (hp M) = some (none, hp (if p = 0 ∨ much ≤ 0 then M else ua M (g + 4) (dlX (M (g + 1)) (M (g + 4)) a much (nI p) w).1)) := by
  have e1 := @C_autosOf X M g i a w hg hi h5 h6 h
  have e2 := @C_lack X M g i a w hg hi h5 h6 h
  rw [hap] at e1
  rw [hm] at e2
  by_cases hz : p = 0
  · subst hz
    rw [if_pos (Or.inl rfl)]
    simp (disch := omega) only [iX0_deal_0, iX0_deal_1, iX0_deal_2, iX0_deal_5, iX0_deal_6, iX0_deal_7, iX0_deal_8, iX0_deal_11, iX0_deal_12, iX0_deal_13, iX0_deal_20, true_or, or_true, Option.bind_some, Option.bind_none, kk_hp, kn_hp, el_i, el_b, el_z, am_cat_nil, am_cat_i, am_cat_r, am_cat_l, am_cat_n, gd_i, gd_r, gd_n, gd_u, List.length_cons, List.length_nil, true_and, and_true, ↓reduceIte, Nat.zero_le, Nat.reduceLeDiff, Nat.reduceAdd, e_10, e_01, e_00, e_11, Int32.reduceLE, Int32.reduceLT, Int32.reduceAdd, Int32.reduceSub, b01, if_true, if_false, ite_self, nl_add, nl_add', nl_mul, nI_add, in_t, cl_n, le_nn, lt_nn, le_ln, le_nl, lt_nl, lt_ln, eq_nn, eq_nl, in_lit, cl_lit, Nat.le_refl, Nat.add_zero, rcA hg, e1, e2, nI_0]
  · by_cases hy : much ≤ 0
    · rw [if_pos (Or.inr hy)]
      simp (disch := omega) only [iX0_deal_0, iX0_deal_1, iX0_deal_2, iX0_deal_5, iX0_deal_6, iX0_deal_7, iX0_deal_8, iX0_deal_11, iX0_deal_12, iX0_deal_13, iX0_deal_16, iX0_deal_17, iX0_deal_20, true_or, or_true, Option.bind_some, Option.bind_none, kk_hp, kn_hp, el_i, el_b, el_z, am_cat_nil, am_cat_i, am_cat_r, am_cat_l, am_cat_n, gd_i, gd_r, gd_n, gd_u, List.length_cons, List.length_nil, true_and, and_true, ↓reduceIte, Nat.zero_le, Nat.reduceLeDiff, Nat.reduceAdd, e_10, e_01, e_00, e_11, Int32.reduceLE, Int32.reduceLT, Int32.reduceAdd, Int32.reduceSub, b01, if_true, if_false, ite_self, nl_add, nl_add', nl_mul, nI_add, in_t, cl_n, le_nn, lt_nn, le_ln, le_nl, lt_nl, lt_ln, eq_nn, eq_nl, in_lit, cl_lit, Nat.le_refl, Nat.add_zero, rcA hg, e1, e2, nI_ne0 (show 0 < p by omega) (show p < 2 ^ 31 by omega), Int32.not_lt.mpr hy]
    · rw [if_neg (not_or.mpr ⟨hz, hy⟩)]
      obtain ⟨u, hu, rfl⟩ := nI_of (fun z => hy (Int32.le_of_lt z))
      have hr := @nI_rem u p hu (by omega) (by omega)
      have hul : u % p < p := Nat.mod_lt _ (by omega)
      have hpz : ¬ nI p = 0 := nI_ne0 (show 0 < p by omega) (show p < 2 ^ 31 by omega)
      have key : ∀ d, d ≤ 12 → (if nI (u % p) - nI d ≤ 0 then nI u / nI p else nI u / nI p + 1) = dlt (nI d) (nI u) (nI p) := by
        intro d hd
        unfold dlt
        rw [hr]
        by_cases hq : u % p ≤ d
        · rw [if_pos ((nI_leI (by omega) (by omega)).mpr hq), Int32.add_zero, if_pos]
          obtain ⟨v, rfl⟩ : ∃ v, d = u % p + v := ⟨d - u % p, by omega⟩
          rw [← nI_add]
          have : nI (u % p) - (nI (u % p) + nI v) = - nI v := by rw [← Int32.sub_sub, Int32.sub_self, Int32.zero_sub]
          rw [this]
          have hv : v < 13 := by omega
          have : ∀ v, v < 13 → - nI v ≤ 0 := by decide +kernel
          exact this v hv
        · rw [if_neg (fun z => hq ((nI_leI (by omega) (by omega)).mp z)), if_neg]
          rw [nI_sub' (by omega), le_nl (by omega) (by omega)]
          omega
      have e := chain (fun d => am_ev X kX0_deal 39 [.ref g, .int (nI i), .int (nI p), .int (nI u), .int (nI u / nI p), .int (nI (u % p) - nI (dlX (M (g + 1)) (M (g + 4)) a (nI u) (nI p) d).2), .int (nI (a + d))] [] (hp (ua M (g + 4) (dlX (M (g + 1)) (M (g + 4)) a (nI u) (nI p) d).1))) 0 w (by omega) (fun d _ hd => by
        have b5 : ∀ f, (ua M (g + 4) f) (g + 5) i = nI a := fun f => by rw [ua_n _ _ (by omega)]; exact h5
        have b6 : ∀ f, (ua M (g + 4) f) (g + 6) i = nI w := fun f => by rw [ua_n _ _ (by omega)]; exact h6
        have b1 : ∀ f, (ua M (g + 4) f) (g + 1) = M (g + 1) := fun f => ua_n _ _ (by omega)
        have hk := dlX_k (M (g + 1)) (M (g + 4)) a (nI u) (nI p) d
        have hkey := key (dlX (M (g + 1)) (M (g + 4)) a (nI u) (nI p) d).2 (by omega)
        rw [dlX]
        conv => lhs; rw [iX0_deal_39]
        by_cases hkd : M (g + 1) (a + d) = 1
        · rw [if_pos hkd]
          dsimp only
          have hk1 : nI (u % p) - nI ((dlX (M (g + 1)) (M (g + 4)) a (nI u) (nI p) d).2 + 1) = nI (u % p) - nI (dlX (M (g + 1)) (M (g + 4)) a (nI u) (nI p) d).2 + (-1) := by
            rw [← nI_add, ← Int32.sub_sub]
            exact Int32.sub_eq_add_neg _ _
          rw [← hkey, hk1]
          by_cases hw : nI (u % p) - nI (dlX (M (g + 1)) (M (g + 4)) a (nI u) (nI p) d).2 ≤ 0
          · simp (disch := omega) only [iX0_deal_41, iX0_deal_42, iX0_deal_45, iX0_deal_46, iX0_deal_47, iX0_deal_48, iX0_deal_51, iX0_deal_52, iX0_deal_53, iX0_deal_54, iX0_deal_57, iX0_deal_58, iX0_deal_61, iX0_deal_63, iX0_deal_64, iX0_deal_65, iX0_deal_68, iX0_deal_69, iX0_deal_72, iX0_deal_74, iX0_deal_75, iX0_deal_78, iX0_deal_80, iX0_deal_81, iX0_deal_83, iX0_deal_86, iX0_deal_88, iX0_deal_89, iX0_deal_90, iX0_deal_93, iX0_deal_95, iX0_deal_98, iX0_deal_99, iX0_deal_102, iX0_deal_105, true_or, or_true, Option.bind_some, Option.bind_none, kk_hp, kn_hp, el_i, el_b, el_z, am_cat_nil, am_cat_i, am_cat_r, am_cat_l, am_cat_n, gd_i, gd_r, gd_n, gd_u, List.length_cons, List.length_nil, true_and, and_true, ↓reduceIte, Nat.zero_le, Nat.reduceLeDiff, Nat.reduceAdd, e_10, e_01, e_00, e_11, Int32.reduceLE, Int32.reduceLT, Int32.reduceAdd, Int32.reduceSub, b01, if_true, if_false, ite_self, nl_add, nl_add', nl_mul, nI_add, in_t, cl_n, le_nn, lt_nn, le_ln, le_nl, lt_nl, lt_ln, eq_nn, eq_nl, in_lit, cl_lit, Nat.le_refl, Nat.add_zero, gA2 hg, gA5 hg, gA7 hg, gA8 hg, aA1 hg, aA4 hg, aA5 hg, aA6 hg, wA4 hg, b1, b5, b6, hkd, hw, ua_s, up_of, mx_if, ← Nat.add_assoc, Nat.add_le_add_iff_left, show ¬ w ≤ d by omega]
          · simp (disch := omega) only [iX0_deal_41, iX0_deal_42, iX0_deal_45, iX0_deal_46, iX0_deal_47, iX0_deal_48, iX0_deal_51, iX0_deal_52, iX0_deal_53, iX0_deal_54, iX0_deal_57, iX0_deal_58, iX0_deal_61, iX0_deal_63, iX0_deal_64, iX0_deal_65, iX0_deal_68, iX0_deal_69, iX0_deal_72, iX0_deal_74, iX0_deal_75, iX0_deal_78, iX0_deal_80, iX0_deal_81, iX0_deal_83, iX0_deal_86, iX0_deal_88, iX0_deal_89, iX0_deal_90, iX0_deal_93, iX0_deal_95, iX0_deal_98, iX0_deal_99, iX0_deal_102, iX0_deal_105, true_or, or_true, Option.bind_some, Option.bind_none, kk_hp, kn_hp, el_i, el_b, el_z, am_cat_nil, am_cat_i, am_cat_r, am_cat_l, am_cat_n, gd_i, gd_r, gd_n, gd_u, List.length_cons, List.length_nil, true_and, and_true, ↓reduceIte, Nat.zero_le, Nat.reduceLeDiff, Nat.reduceAdd, e_10, e_01, e_00, e_11, Int32.reduceLE, Int32.reduceLT, Int32.reduceAdd, Int32.reduceSub, b01, if_true, if_false, ite_self, nl_add, nl_add', nl_mul, nI_add, in_t, cl_n, le_nn, lt_nn, le_ln, le_nl, lt_nl, lt_ln, eq_nn, eq_nl, in_lit, cl_lit, Nat.le_refl, Nat.add_zero, gA2 hg, gA5 hg, gA7 hg, gA8 hg, aA1 hg, aA4 hg, aA5 hg, aA6 hg, wA4 hg, b1, b5, b6, hkd, hw, ua_s, up_of, mx_if, ← Nat.add_assoc, Nat.add_le_add_iff_left, show ¬ w ≤ d by omega]
        · rw [if_neg hkd]
          simp (disch := omega) only [iX0_deal_41, iX0_deal_42, iX0_deal_45, iX0_deal_46, iX0_deal_47, iX0_deal_48, iX0_deal_51, iX0_deal_52, iX0_deal_53, iX0_deal_54, iX0_deal_57, iX0_deal_58, iX0_deal_61, iX0_deal_63, iX0_deal_64, iX0_deal_65, iX0_deal_68, iX0_deal_69, iX0_deal_72, iX0_deal_74, iX0_deal_75, iX0_deal_78, iX0_deal_80, iX0_deal_81, iX0_deal_83, iX0_deal_86, iX0_deal_88, iX0_deal_89, iX0_deal_90, iX0_deal_93, iX0_deal_95, iX0_deal_98, iX0_deal_99, iX0_deal_102, iX0_deal_105, true_or, or_true, Option.bind_some, Option.bind_none, kk_hp, kn_hp, el_i, el_b, el_z, am_cat_nil, am_cat_i, am_cat_r, am_cat_l, am_cat_n, gd_i, gd_r, gd_n, gd_u, List.length_cons, List.length_nil, true_and, and_true, ↓reduceIte, Nat.zero_le, Nat.reduceLeDiff, Nat.reduceAdd, e_10, e_01, e_00, e_11, Int32.reduceLE, Int32.reduceLT, Int32.reduceAdd, Int32.reduceSub, b01, if_true, if_false, ite_self, nl_add, nl_add', nl_mul, nI_add, in_t, cl_n, le_nn, lt_nn, le_ln, le_nl, lt_nl, lt_ln, eq_nn, eq_nl, in_lit, cl_lit, Nat.le_refl, Nat.add_zero, gA2 hg, gA5 hg, gA7 hg, gA8 hg, aA1 hg, aA4 hg, aA5 hg, aA6 hg, wA4 hg, b1, b5, b6, hkd, ← Nat.add_assoc, Nat.add_le_add_iff_left, show ¬ w ≤ d by omega])
      simp only [dlX, ua_self, Nat.add_zero, nI_0, Int32.sub_zero] at e
      have b5 : ∀ f, (ua M (g + 4) f) (g + 5) i = nI a := fun f => by rw [ua_n _ _ (by omega)]; exact h5
      have b6 : ∀ f, (ua M (g + 4) f) (g + 6) i = nI w := fun f => by rw [ua_n _ _ (by omega)]; exact h6
      simp (disch := omega) only [iX0_deal_0, iX0_deal_1, iX0_deal_2, iX0_deal_5, iX0_deal_6, iX0_deal_7, iX0_deal_8, iX0_deal_11, iX0_deal_12, iX0_deal_13, iX0_deal_16, iX0_deal_17, iX0_deal_21, iX0_deal_22, iX0_deal_23, iX0_deal_24, iX0_deal_26, iX0_deal_27, iX0_deal_28, iX0_deal_29, iX0_deal_31, iX0_deal_32, iX0_deal_35, iX0_deal_36, iX0_deal_37, true_or, or_true, Option.bind_some, Option.bind_none, kk_hp, kn_hp, el_i, el_b, el_z, am_cat_nil, am_cat_i, am_cat_r, am_cat_l, am_cat_n, gd_i, gd_r, gd_n, gd_u, List.length_cons, List.length_nil, true_and, and_true, ↓reduceIte, Nat.zero_le, Nat.reduceLeDiff, Nat.reduceAdd, e_10, e_01, e_00, e_11, Int32.reduceLE, Int32.reduceLT, Int32.reduceAdd, Int32.reduceSub, b01, if_true, if_false, ite_self, nl_add, nl_add', nl_mul, nI_add, in_t, cl_n, le_nn, lt_nn, le_ln, le_nl, lt_nl, lt_ln, eq_nn, eq_nl, in_lit, cl_lit, Nat.le_refl, Nat.add_zero, rcA hg, e1, e2, hpz, Int32.not_le.mp hy, gA7 hg, aA5 hg, h5, hr]
      rw [e]
      simp (disch := omega) only [iX0_deal_39, iX0_deal_41, iX0_deal_42, iX0_deal_45, iX0_deal_46, iX0_deal_47, iX0_deal_48, iX0_deal_51, iX0_deal_52, iX0_deal_53, iX0_deal_54, iX0_deal_108, true_or, or_true, Option.bind_some, Option.bind_none, kk_hp, kn_hp, el_i, el_b, el_z, am_cat_nil, am_cat_i, am_cat_r, am_cat_l, am_cat_n, gd_i, gd_r, gd_n, gd_u, List.length_cons, List.length_nil, true_and, and_true, ↓reduceIte, Nat.zero_le, Nat.reduceLeDiff, Nat.reduceAdd, e_10, e_01, e_00, e_11, Int32.reduceLE, Int32.reduceLT, Int32.reduceAdd, Int32.reduceSub, b01, if_true, if_false, ite_self, nl_add, nl_add', nl_mul, nI_add, in_t, cl_n, le_nn, lt_nn, le_ln, le_nl, lt_nl, lt_ln, eq_nn, eq_nl, in_lit, cl_lit, Nat.le_refl, Nat.add_zero, gA7 hg, gA8 hg, aA5 hg, aA6 hg, b5, b6, Nat.add_le_add_iff_left]
end S42
