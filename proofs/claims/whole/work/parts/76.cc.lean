/-! changes, iii: a track, pins -/
theorem wf_tr {s : Nat → Int32} (h : wf s) {k : Nat} {kd n : Int32} (hk : k < 6) (ht : trk kd n) : wf (upd (upd s (11 + k) n) (5 + k) kd) := by
  obtain ⟨h1, h2, h3, h4⟩ := h
  have e : ∀ j, j < 5 ∨ 17 ≤ j → upd (upd s (11 + k) n) (5 + k) kd j = s j := fun j hj => by rw [pk_un (by omega), pk_un (by omega)]
  have en : nC (upd (upd s (11 + k) n) (5 + k) kd) = nC s := by unfold nC; rw [e 0 (by omega)]
  have em : mI (upd (upd s (11 + k) n) (5 + k) kd) = mI s := by unfold mI; rw [e 25 (by omega)]
  refine ⟨by rw [e 0 (by omega), en]; exact h1, by rw [e 25 (by omega), em]; exact h2, fun i hi => ?_, fun c hc => ?_⟩
  · rw [em] at hi
    have := h3 i hi
    unfold itm wI tI pC pR at this ⊢
    rw [en, e (26 + 6 * i) (by omega), e (26 + 6 * i + 1) (by omega), e (26 + 6 * i + 4) (by omega), e (26 + 6 * i + 5) (by omega)]
    exact this
  · rw [en] at hc
    have := h1.2
    by_cases hck : c = k
    · subst hck
      rw [pk_us, pk_un (show 11 + c ≠ 5 + c by omega), pk_us]
      intro h2'
      rcases ht with z | z | z
      · rw [h2'] at z; exact absurd z.1 (by decide)
      · rw [h2'] at z; exact absurd z.1 (by decide)
      · obtain ⟨u, u1, u9, e⟩ := (btw1 (n := 9) (by decide)).mp z.2
        exact ⟨u, u1, u9, e⟩
    · rw [pk_un (show 5 + c ≠ 5 + k by omega), pk_un (show 5 + c ≠ 11 + k by omega), pk_un (show 11 + c ≠ 5 + k by omega), pk_un (show 11 + c ≠ 11 + k by omega)]
      exact h4 c hc
section S76
variable {X : am_X} {M : Nat → Nat → Int32}
theorem S_track (h : RR M) (c kd n : Int32) : St X kX8_track [.ref 0, .int c, .int kd, .int n, am_u] kX9_track [.ref 82, .int c, .int kd, .int n, am_u] M := by
  have hwf := h.1
  have hn := hwf.1.2
  have q0 : M 1 0 = nI (nC (M 83)) := h.2.1.1.1.trans hwf.1.1
  rcases Classical.em (∃ k, k < nC (M 83) ∧ c = nI k) with ⟨k, hk, rfl⟩ | hno
  · have hb := @C_bt1 X M k (nC (M 83)) hk (by omega)
    by_cases ht : trk kd n
    · have et := (@C_isTrack X M kd n).1 ht
      generalize hM1 : up (up (up M 2 k kd) 3 k n) 0 8 1 = M1
      have k83 : M1 83 = M 83 := by rw [← hM1]; rfl
      have hr := @M_col1 X M1 k (nC (M 83)) (by rw [k83]; exact hwf.1.1) hk (by omega)
      have em := @M_track X M1 (nI k) kd n
      rw [show bI (@decide (trk kd n) (Classical.propDecidable _)) = 1 by simp [ht, bI]] at em
      have eb := @M_becomes X (up M1 83 (11 + k) n) (5 + k) kd (by omega)
      have e5 : (up M1 83 (11 + k) n) 83 (5 + k) = M 83 (5 + k) := by rw [up_s, pk_un (by omega), k83]
      rw [e5] at eb
      have x2 : M 2 k = M 83 (5 + k) := (h.2.1.2.1 k hk).1
      refine ⟨M 83 (5 + k), M1, up (up M1 83 (11 + k) n) 83 (5 + k) kd, ?_, ?_, ?_⟩
      · simp (disch := omega) only [iX8_track_0, iX8_track_1, iX8_track_2, iX8_track_3, iX8_track_6, iX8_track_9, iX8_track_10, iX8_track_11, iX8_track_14, iX8_track_17, iX8_track_18, iX8_track_19, iX8_track_22, iX8_track_25, iX8_track_26, iX8_track_27, iX8_track_28, iX8_track_31, iX8_track_34, iX8_track_35, iX8_track_36, iX8_track_38, iX8_track_39, iX8_track_42, iX8_track_45, iX8_track_46, iX8_track_47, iX8_track_48, iX8_track_49, iX8_track_52, iX8_track_55, iX8_track_56, iX8_track_57, iX8_track_58, iX8_track_59, iX8_track_60, iX8_track_63, iX8_track_65, true_or, or_true, Option.bind_some, Option.bind_none, kk_hp, kn_hp, el_i, el_b, el_z, am_cat_nil, am_cat_i, am_cat_r, am_cat_l, am_cat_n, gd_i, gd_r, gd_n, gd_u, List.length_cons, List.length_nil, true_and, and_true, ↓reduceIte, Nat.zero_le, Nat.reduceLeDiff, Nat.reduceAdd, e_10, e_01, e_00, e_11, Int32.reduceLE, Int32.reduceLT, Int32.reduceAdd, Int32.reduceSub, b01, if_true, if_false, ite_self, rc_0, gf_0_0, gf_0_1, gf_0_2, gf_0_3, gf_0_4, gf_0_5, gf_0_6, gf_0_7, gf_0_8, pf_0_8, gf_0_9, pf_0_9, rc_1, gf_1_0, pf_1_0, gf_1_1, gf_1_2, gf_1_3, pf_1_3, gf_1_4, pf_1_4, gf_1_5, pf_1_5, gf_1_6, pf_1_6, gf_1_7, pf_1_7, gf_1_8, gf_1_9, ga_2, wi_2, ga_3, wi_3, nl_add, nl_add', nl_mul, nI_add, in_t, cl_n, le_nn, lt_nn, le_ln, le_nl, lt_nl, lt_ln, eq_nn, eq_nl, in_lit, cl_lit, Nat.le_refl, Nat.add_zero, q0, hb, et, x2, hM1]
      · rw [em]
        simp (disch := omega) only [iX9_track_52, iX9_track_53, iX9_track_54, iX9_track_57, iX9_track_60, iX9_track_62, iX9_track_65, iX9_track_66, iX9_track_67, iX9_track_68, iX9_track_71, iX9_track_73, iX9_track_74, iX9_track_75, iX9_track_76, iX9_track_77, iX9_track_78, iX9_track_79, iX9_track_80, iX9_track_81, iX9_track_82, iX9_track_85, true_or, or_true, Option.bind_some, Option.bind_none, kk_hp, kn_hp, el_i, el_b, el_z, am_cat_nil, am_cat_i, am_cat_r, am_cat_l, am_cat_n, gd_i, gd_r, gd_n, gd_u, List.length_cons, List.length_nil, true_and, and_true, ↓reduceIte, Nat.zero_le, Nat.reduceLeDiff, Nat.reduceAdd, e_10, e_01, e_00, e_11, Int32.reduceLE, Int32.reduceLT, Int32.reduceAdd, Int32.reduceSub, b01, if_true, if_false, ite_self, rc_82, gf_82_0, gf_82_1, gf_82_2, gf_82_3, gf_82_4, gf_82_5, gf_82_6, pf_82_6, gf_82_7, pf_82_7, gf_82_8, pf_82_8, gf_82_9, pf_82_9, gf_82_10, pf_82_10, gf_82_11, pf_82_11, gf_82_12, pf_82_12, gf_82_13, gf_82_14, gf_82_15, gf_82_16, pf_82_16, gf_82_17, gf_82_18, gf_82_19, gf_82_20, gf_82_21, gf_82_22, gf_82_23, gf_82_24, gf_82_25, pf_82_25, ga_83, wi_83, ga_84, wi_84, ga_85, wb_85, ga_86, wi_86, ga_87, wb_87, ga_88, wi_88, ga_89, wi_89, ga_90, wi_90, ga_91, wi_91, ga_92, wi_92, ga_93, wi_93, ga_94, wi_94, ga_95, wi_95, ga_96, wb_96, ga_97, wi_97, ga_98, wi_98, ga_99, wi_99, nl_add, nl_add', nl_mul, nI_add, in_t, cl_n, le_nn, lt_nn, le_ln, le_nl, lt_nl, lt_ln, eq_nn, eq_nl, in_lit, cl_lit, Nat.le_refl, Nat.add_zero, hr, eb]
      · have e83 : (up (up M1 83 (11 + k) n) 83 (5 + k) kd) 83 = upd (upd (M 83) (11 + k) n) (5 + k) kd := by rw [up_s, up_s, k83]
        refine RR_c h (fun a h1 h2 => by rw [up_n _ _ _ h2, up_n _ _ _ h2, ← hM1, up_n _ _ _ (by omega), up_n _ _ _ (by omega), up_n _ _ _ (by omega)]) (by rw [← hM1]; rfl) (by rw [← hM1]; rfl) ?_ ?_
        · rw [e83]; exact wf_tr hwf (by omega) ht
        · rw [e83]
          obtain ⟨r1, r2, r3, r4⟩ := h.2.1
          have ec : ∀ x, x ≠ 0 → x ≠ 2 → x ≠ 3 → x ≠ 83 → (up (up M1 83 (11 + k) n) 83 (5 + k) kd) x = M x := fun x i0 i2 i3 i8 => by rw [up_n _ _ _ i8, up_n _ _ _ i8, ← hM1, up_n _ _ _ i0, up_n _ _ _ i3, up_n _ _ _ i2]
          have e2 : (up (up M1 83 (11 + k) n) 83 (5 + k) kd) 2 = upd (M 2) k kd := by rw [up_n _ _ _ (by decide), up_n _ _ _ (by decide), ← hM1]; rfl
          have e3 : (up (up M1 83 (11 + k) n) 83 (5 + k) kd) 3 = upd (M 3) k n := by rw [up_n _ _ _ (by decide), up_n _ _ _ (by decide), ← hM1]; rfl
          have es : ∀ j, j < 5 ∨ 17 ≤ j → upd (upd (M 83) (11 + k) n) (5 + k) kd j = M 83 j := fun j hj => by rw [pk_un (by omega), pk_un (by omega)]
          have en : nC (upd (upd (M 83) (11 + k) n) (5 + k) kd) = nC (M 83) := by unfold nC; rw [es 0 (by omega)]
          have emm : mI (upd (upd (M 83) (11 + k) n) (5 + k) kd) = mI (M 83) := by unfold mI; rw [es 25 (by omega)]
          refine ⟨?_, fun c hc => ?_, fun v hv => ?_, fun i hi w hw => ?_⟩
          · rw [ec 1 (by decide) (by decide) (by decide) (by decide), es 0 (by omega), es 1 (by omega), es 2 (by omega), es 3 (by omega), es 4 (by omega), es 25 (by omega)]
            exact r1
          · rw [en] at hc
            show (up (up M1 83 (11 + k) n) 83 (5 + k) kd) 2 c = _ ∧ (up (up M1 83 (11 + k) n) 83 (5 + k) kd) 3 c = _
            rw [e2, e3]
            by_cases hck : c = k
            · rw [hck, pk_us, pk_us, pk_us, pk_un (show 11 + k ≠ 5 + k by omega), pk_us]; exact ⟨rfl, rfl⟩
            · rw [pk_un hck, pk_un hck, pk_un (show 5 + c ≠ 5 + k by omega), pk_un (show 5 + c ≠ 11 + k by omega), pk_un (show 11 + c ≠ 5 + k by omega), pk_un (show 11 + c ≠ 11 + k by omega)]
              exact r2 c hc
          · rw [ec (1 + 10) (by decide) (by decide) (by decide) (by decide), es (17 + v) (by omega)]
            exact r3 v hv
          · rw [emm] at hi
            rw [ec (1 + 4 + w) (by omega) (by omega) (by omega) (by omega), es (26 + 6 * i + w) (by omega)]
            exact r4 i hi w hw
    · have et := (@C_isTrack X M kd n).2 ht
      have hr := @M_col1 X M k (nC (M 83)) hwf.1.1 hk (by omega)
      have em := @M_track X M (nI k) kd n
      rw [show bI (@decide (trk kd n) (Classical.propDecidable _)) = 0 by simp [ht, bI]] at em
      refine ⟨-1, M, M, ?_, ?_, h⟩
      · simp (disch := omega) only [iX8_track_0, iX8_track_1, iX8_track_2, iX8_track_3, iX8_track_6, iX8_track_9, iX8_track_10, iX8_track_11, iX8_track_14, iX8_track_17, iX8_track_18, iX8_track_19, iX8_track_22, iX8_track_25, iX8_track_26, iX8_track_27, iX8_track_28, iX8_track_31, iX8_track_34, iX8_track_35, iX8_track_36, iX8_track_38, iX8_track_39, iX8_track_42, iX8_track_45, iX8_track_46, iX8_track_47, iX8_track_48, iX8_track_49, iX8_track_52, iX8_track_55, iX8_track_56, iX8_track_57, iX8_track_58, iX8_track_59, iX8_track_60, iX8_track_63, iX8_track_65, true_or, or_true, Option.bind_some, Option.bind_none, kk_hp, kn_hp, el_i, el_b, el_z, am_cat_nil, am_cat_i, am_cat_r, am_cat_l, am_cat_n, gd_i, gd_r, gd_n, gd_u, List.length_cons, List.length_nil, true_and, and_true, ↓reduceIte, Nat.zero_le, Nat.reduceLeDiff, Nat.reduceAdd, e_10, e_01, e_00, e_11, Int32.reduceLE, Int32.reduceLT, Int32.reduceAdd, Int32.reduceSub, b01, if_true, if_false, ite_self, rc_0, gf_0_0, gf_0_1, gf_0_2, gf_0_3, gf_0_4, gf_0_5, gf_0_6, gf_0_7, gf_0_8, pf_0_8, gf_0_9, pf_0_9, rc_1, gf_1_0, pf_1_0, gf_1_1, gf_1_2, gf_1_3, pf_1_3, gf_1_4, pf_1_4, gf_1_5, pf_1_5, gf_1_6, pf_1_6, gf_1_7, pf_1_7, gf_1_8, gf_1_9, ga_2, wi_2, ga_3, wi_3, nl_add, nl_add', nl_mul, nI_add, in_t, cl_n, le_nn, lt_nn, le_ln, le_nl, lt_nl, lt_ln, eq_nn, eq_nl, in_lit, cl_lit, Nat.le_refl, Nat.add_zero, q0, hb, et]
      · rw [em]
        simp (disch := omega) only [iX9_track_52, iX9_track_53, iX9_track_54, iX9_track_57, iX9_track_60, iX9_track_62, iX9_track_65, iX9_track_66, iX9_track_67, iX9_track_68, iX9_track_71, iX9_track_73, iX9_track_74, iX9_track_75, iX9_track_76, iX9_track_77, iX9_track_78, iX9_track_79, iX9_track_80, iX9_track_81, iX9_track_82, iX9_track_85, true_or, or_true, Option.bind_some, Option.bind_none, kk_hp, kn_hp, el_i, el_b, el_z, am_cat_nil, am_cat_i, am_cat_r, am_cat_l, am_cat_n, gd_i, gd_r, gd_n, gd_u, List.length_cons, List.length_nil, true_and, and_true, ↓reduceIte, Nat.zero_le, Nat.reduceLeDiff, Nat.reduceAdd, e_10, e_01, e_00, e_11, Int32.reduceLE, Int32.reduceLT, Int32.reduceAdd, Int32.reduceSub, b01, if_true, if_false, ite_self, rc_82, gf_82_0, gf_82_1, gf_82_2, gf_82_3, gf_82_4, gf_82_5, gf_82_6, pf_82_6, gf_82_7, pf_82_7, gf_82_8, pf_82_8, gf_82_9, pf_82_9, gf_82_10, pf_82_10, gf_82_11, pf_82_11, gf_82_12, pf_82_12, gf_82_13, gf_82_14, gf_82_15, gf_82_16, pf_82_16, gf_82_17, gf_82_18, gf_82_19, gf_82_20, gf_82_21, gf_82_22, gf_82_23, gf_82_24, gf_82_25, pf_82_25, ga_83, wi_83, ga_84, wi_84, ga_85, wb_85, ga_86, wi_86, ga_87, wb_87, ga_88, wi_88, ga_89, wi_89, ga_90, wi_90, ga_91, wi_91, ga_92, wi_92, ga_93, wi_93, ga_94, wi_94, ga_95, wi_95, ga_96, wb_96, ga_97, wi_97, ga_98, wi_98, ga_99, wi_99, nl_add, nl_add', nl_mul, nI_add, in_t, cl_n, le_nn, lt_nn, le_ln, le_nl, lt_nl, lt_ln, eq_nn, eq_nl, in_lit, cl_lit, Nat.le_refl, Nat.add_zero, hr]
  · have hb := @C_bt0 X M c (nC (M 83)) (by omega) hno
    have hr := @M_col0 X M c (nC (M 83)) hwf.1.1 (by omega) hno
    refine ⟨-1, M, M, ?_, ?_, h⟩
    · simp (disch := omega) only [iX8_track_0, iX8_track_1, iX8_track_2, iX8_track_3, iX8_track_6, iX8_track_9, iX8_track_10, iX8_track_11, iX8_track_14, iX8_track_17, iX8_track_18, iX8_track_19, iX8_track_22, iX8_track_25, iX8_track_26, iX8_track_27, iX8_track_28, iX8_track_31, iX8_track_34, iX8_track_35, iX8_track_36, iX8_track_38, iX8_track_39, iX8_track_42, iX8_track_45, iX8_track_46, iX8_track_47, iX8_track_48, iX8_track_49, iX8_track_52, iX8_track_55, iX8_track_56, iX8_track_57, iX8_track_58, iX8_track_59, iX8_track_60, iX8_track_63, iX8_track_65, true_or, or_true, Option.bind_some, Option.bind_none, kk_hp, kn_hp, el_i, el_b, el_z, am_cat_nil, am_cat_i, am_cat_r, am_cat_l, am_cat_n, gd_i, gd_r, gd_n, gd_u, List.length_cons, List.length_nil, true_and, and_true, ↓reduceIte, Nat.zero_le, Nat.reduceLeDiff, Nat.reduceAdd, e_10, e_01, e_00, e_11, Int32.reduceLE, Int32.reduceLT, Int32.reduceAdd, Int32.reduceSub, b01, if_true, if_false, ite_self, rc_0, gf_0_0, gf_0_1, gf_0_2, gf_0_3, gf_0_4, gf_0_5, gf_0_6, gf_0_7, gf_0_8, pf_0_8, gf_0_9, pf_0_9, rc_1, gf_1_0, pf_1_0, gf_1_1, gf_1_2, gf_1_3, pf_1_3, gf_1_4, pf_1_4, gf_1_5, pf_1_5, gf_1_6, pf_1_6, gf_1_7, pf_1_7, gf_1_8, gf_1_9, ga_2, wi_2, ga_3, wi_3, nl_add, nl_add', nl_mul, nI_add, in_t, cl_n, le_nn, lt_nn, le_ln, le_nl, lt_nl, lt_ln, eq_nn, eq_nl, in_lit, cl_lit, Nat.le_refl, Nat.add_zero, q0, hb]
    · rw [M_track]
      simp (disch := omega) only [iX9_track_52, iX9_track_53, iX9_track_54, iX9_track_57, iX9_track_60, iX9_track_62, iX9_track_65, iX9_track_66, iX9_track_67, iX9_track_68, iX9_track_71, iX9_track_73, iX9_track_74, iX9_track_75, iX9_track_76, iX9_track_77, iX9_track_78, iX9_track_79, iX9_track_80, iX9_track_81, iX9_track_82, iX9_track_85, true_or, or_true, Option.bind_some, Option.bind_none, kk_hp, kn_hp, el_i, el_b, el_z, am_cat_nil, am_cat_i, am_cat_r, am_cat_l, am_cat_n, gd_i, gd_r, gd_n, gd_u, List.length_cons, List.length_nil, true_and, and_true, ↓reduceIte, Nat.zero_le, Nat.reduceLeDiff, Nat.reduceAdd, e_10, e_01, e_00, e_11, Int32.reduceLE, Int32.reduceLT, Int32.reduceAdd, Int32.reduceSub, b01, if_true, if_false, ite_self, rc_82, gf_82_0, gf_82_1, gf_82_2, gf_82_3, gf_82_4, gf_82_5, gf_82_6, pf_82_6, gf_82_7, pf_82_7, gf_82_8, pf_82_8, gf_82_9, pf_82_9, gf_82_10, pf_82_10, gf_82_11, pf_82_11, gf_82_12, pf_82_12, gf_82_13, gf_82_14, gf_82_15, gf_82_16, pf_82_16, gf_82_17, gf_82_18, gf_82_19, gf_82_20, gf_82_21, gf_82_22, gf_82_23, gf_82_24, gf_82_25, pf_82_25, ga_83, wi_83, ga_84, wi_84, ga_85, wb_85, ga_86, wi_86, ga_87, wb_87, ga_88, wi_88, ga_89, wi_89, ga_90, wi_90, ga_91, wi_91, ga_92, wi_92, ga_93, wi_93, ga_94, wi_94, ga_95, wi_95, ga_96, wb_96, ga_97, wi_97, ga_98, wi_98, ga_99, wi_99, nl_add, nl_add', nl_mul, nI_add, in_t, cl_n, le_nn, lt_nn, le_ln, le_nl, lt_nl, lt_ln, eq_nn, eq_nl, in_lit, cl_lit, Nat.le_refl, Nat.add_zero, hr]
/-- a pin that stands in the grid -/
def pnC (n w c : Int32) : Prop := c = -4 ∨ (0 ≤ c ∧ c ≤ n - w)
theorem C_isPin {g i : Nat} {c r : Int32} (hg : isG g) (hi : i < 10) : (pnC (M g 0) (M (g + 4) i) c ∧ pnC 12 (M (g + 4 + 1) i) r → am_ev X kX1_isPin 0 [.ref g, .int (nI i), .int c, .int r] [] (hp M) = some (some (.int 1), hp M)) ∧
    (¬ (pnC (M g 0) (M (g + 4) i) c ∧ pnC 12 (M (g + 4 + 1) i) r) → am_ev X kX1_isPin 0 [.ref g, .int (nI i), .int c, .int r] [] (hp M) = some (some (.int 0), hp M)) := by
  have e1 := @C_isBetween X M c 0 (M g 0 - M (g + 4) i)
  have e2 := @C_isBetween X M r 0 (12 - M (g + 4 + 1) i)
  unfold pnC
  by_cases c4 : c = -4
  · by_cases r4 : r = -4
    · refine ⟨fun _ => ?_, fun z => absurd ⟨Or.inl c4, Or.inl r4⟩ z⟩
      simp (disch := omega) only [iX1_isPin_0, iX1_isPin_1, iX1_isPin_3, iX1_isPin_6, iX1_isPin_7, iX1_isPin_8, iX1_isPin_9, iX1_isPin_12, iX1_isPin_13, iX1_isPin_16, iX1_isPin_17, iX1_isPin_18, iX1_isPin_19, iX1_isPin_20, iX1_isPin_21, iX1_isPin_24, iX1_isPin_27, iX1_isPin_28, iX1_isPin_30, iX1_isPin_33, iX1_isPin_34, iX1_isPin_35, iX1_isPin_37, iX1_isPin_38, iX1_isPin_41, iX1_isPin_42, iX1_isPin_43, iX1_isPin_44, iX1_isPin_45, iX1_isPin_46, iX1_isPin_49, iX1_isPin_52, iX1_isPin_53, iX1_isPin_56, iX1_isPin_57, true_or, or_true, Option.bind_some, Option.bind_none, kk_hp, kn_hp, el_i, el_b, el_z, am_cat_nil, am_cat_i, am_cat_r, am_cat_l, am_cat_n, gd_i, gd_r, gd_n, gd_u, List.length_cons, List.length_nil, true_and, and_true, ↓reduceIte, Nat.zero_le, Nat.reduceLeDiff, Nat.reduceAdd, e_10, e_01, e_00, e_11, Int32.reduceLE, Int32.reduceLT, Int32.reduceAdd, Int32.reduceSub, b01, if_true, if_false, ite_self, nl_add, nl_add', nl_mul, nI_add, in_t, cl_n, le_nn, lt_nn, le_ln, le_nl, lt_nl, lt_ln, eq_nn, eq_nl, in_lit, cl_lit, Nat.le_refl, Nat.add_zero, c4, r4]
    · by_cases hr : 0 ≤ r ∧ r ≤ 12 - M (g + 4 + 1) i
      · rw [if_pos hr] at e2
        refine ⟨fun _ => ?_, fun z => absurd ⟨Or.inl c4, Or.inr hr⟩ z⟩
        simp (disch := omega) only [iX1_isPin_0, iX1_isPin_1, iX1_isPin_3, iX1_isPin_6, iX1_isPin_7, iX1_isPin_8, iX1_isPin_9, iX1_isPin_12, iX1_isPin_13, iX1_isPin_16, iX1_isPin_17, iX1_isPin_18, iX1_isPin_19, iX1_isPin_20, iX1_isPin_21, iX1_isPin_24, iX1_isPin_27, iX1_isPin_28, iX1_isPin_30, iX1_isPin_33, iX1_isPin_34, iX1_isPin_35, iX1_isPin_37, iX1_isPin_38, iX1_isPin_41, iX1_isPin_42, iX1_isPin_43, iX1_isPin_44, iX1_isPin_45, iX1_isPin_46, iX1_isPin_49, iX1_isPin_52, iX1_isPin_53, iX1_isPin_56, iX1_isPin_57, true_or, or_true, Option.bind_some, Option.bind_none, kk_hp, kn_hp, el_i, el_b, el_z, am_cat_nil, am_cat_i, am_cat_r, am_cat_l, am_cat_n, gd_i, gd_r, gd_n, gd_u, List.length_cons, List.length_nil, true_and, and_true, ↓reduceIte, Nat.zero_le, Nat.reduceLeDiff, Nat.reduceAdd, e_10, e_01, e_00, e_11, Int32.reduceLE, Int32.reduceLT, Int32.reduceAdd, Int32.reduceSub, b01, if_true, if_false, ite_self, nl_add, nl_add', nl_mul, nI_add, in_t, cl_n, le_nn, lt_nn, le_ln, le_nl, lt_nl, lt_ln, eq_nn, eq_nl, in_lit, cl_lit, Nat.le_refl, Nat.add_zero, gG0 hg, gG8 hg, fG0 hg, fG1 hg, aGr0 hg, aGr1 hg, c4, r4, e2]
      · rw [if_neg hr] at e2
        refine ⟨fun z => (z.2.elim (fun y => absurd y r4) (fun y => absurd y hr)), fun _ => ?_⟩
        simp (disch := omega) only [iX1_isPin_0, iX1_isPin_1, iX1_isPin_3, iX1_isPin_6, iX1_isPin_7, iX1_isPin_8, iX1_isPin_9, iX1_isPin_12, iX1_isPin_13, iX1_isPin_16, iX1_isPin_17, iX1_isPin_18, iX1_isPin_19, iX1_isPin_20, iX1_isPin_21, iX1_isPin_24, iX1_isPin_27, iX1_isPin_28, iX1_isPin_30, iX1_isPin_33, iX1_isPin_34, iX1_isPin_35, iX1_isPin_37, iX1_isPin_38, iX1_isPin_41, iX1_isPin_42, iX1_isPin_43, iX1_isPin_44, iX1_isPin_45, iX1_isPin_46, iX1_isPin_49, iX1_isPin_52, iX1_isPin_53, iX1_isPin_56, iX1_isPin_57, true_or, or_true, Option.bind_some, Option.bind_none, kk_hp, kn_hp, el_i, el_b, el_z, am_cat_nil, am_cat_i, am_cat_r, am_cat_l, am_cat_n, gd_i, gd_r, gd_n, gd_u, List.length_cons, List.length_nil, true_and, and_true, ↓reduceIte, Nat.zero_le, Nat.reduceLeDiff, Nat.reduceAdd, e_10, e_01, e_00, e_11, Int32.reduceLE, Int32.reduceLT, Int32.reduceAdd, Int32.reduceSub, b01, if_true, if_false, ite_self, nl_add, nl_add', nl_mul, nI_add, in_t, cl_n, le_nn, lt_nn, le_ln, le_nl, lt_nl, lt_ln, eq_nn, eq_nl, in_lit, cl_lit, Nat.le_refl, Nat.add_zero, gG0 hg, gG8 hg, fG0 hg, fG1 hg, aGr0 hg, aGr1 hg, c4, r4, e2]
  · by_cases hc : 0 ≤ c ∧ c ≤ M g 0 - M (g + 4) i
    · rw [if_pos hc] at e1
      by_cases r4 : r = -4
      · refine ⟨fun _ => ?_, fun z => absurd ⟨Or.inr hc, Or.inl r4⟩ z⟩
        simp (disch := omega) only [iX1_isPin_0, iX1_isPin_1, iX1_isPin_3, iX1_isPin_6, iX1_isPin_7, iX1_isPin_8, iX1_isPin_9, iX1_isPin_12, iX1_isPin_13, iX1_isPin_16, iX1_isPin_17, iX1_isPin_18, iX1_isPin_19, iX1_isPin_20, iX1_isPin_21, iX1_isPin_24, iX1_isPin_27, iX1_isPin_28, iX1_isPin_30, iX1_isPin_33, iX1_isPin_34, iX1_isPin_35, iX1_isPin_37, iX1_isPin_38, iX1_isPin_41, iX1_isPin_42, iX1_isPin_43, iX1_isPin_44, iX1_isPin_45, iX1_isPin_46, iX1_isPin_49, iX1_isPin_52, iX1_isPin_53, iX1_isPin_56, iX1_isPin_57, true_or, or_true, Option.bind_some, Option.bind_none, kk_hp, kn_hp, el_i, el_b, el_z, am_cat_nil, am_cat_i, am_cat_r, am_cat_l, am_cat_n, gd_i, gd_r, gd_n, gd_u, List.length_cons, List.length_nil, true_and, and_true, ↓reduceIte, Nat.zero_le, Nat.reduceLeDiff, Nat.reduceAdd, e_10, e_01, e_00, e_11, Int32.reduceLE, Int32.reduceLT, Int32.reduceAdd, Int32.reduceSub, b01, if_true, if_false, ite_self, nl_add, nl_add', nl_mul, nI_add, in_t, cl_n, le_nn, lt_nn, le_ln, le_nl, lt_nl, lt_ln, eq_nn, eq_nl, in_lit, cl_lit, Nat.le_refl, Nat.add_zero, gG0 hg, gG8 hg, fG0 hg, fG1 hg, aGr0 hg, aGr1 hg, c4, r4, e1]
      · by_cases hr : 0 ≤ r ∧ r ≤ 12 - M (g + 4 + 1) i
        · rw [if_pos hr] at e2
          refine ⟨fun _ => ?_, fun z => absurd ⟨Or.inr hc, Or.inr hr⟩ z⟩
          simp (disch := omega) only [iX1_isPin_0, iX1_isPin_1, iX1_isPin_3, iX1_isPin_6, iX1_isPin_7, iX1_isPin_8, iX1_isPin_9, iX1_isPin_12, iX1_isPin_13, iX1_isPin_16, iX1_isPin_17, iX1_isPin_18, iX1_isPin_19, iX1_isPin_20, iX1_isPin_21, iX1_isPin_24, iX1_isPin_27, iX1_isPin_28, iX1_isPin_30, iX1_isPin_33, iX1_isPin_34, iX1_isPin_35, iX1_isPin_37, iX1_isPin_38, iX1_isPin_41, iX1_isPin_42, iX1_isPin_43, iX1_isPin_44, iX1_isPin_45, iX1_isPin_46, iX1_isPin_49, iX1_isPin_52, iX1_isPin_53, iX1_isPin_56, iX1_isPin_57, true_or, or_true, Option.bind_some, Option.bind_none, kk_hp, kn_hp, el_i, el_b, el_z, am_cat_nil, am_cat_i, am_cat_r, am_cat_l, am_cat_n, gd_i, gd_r, gd_n, gd_u, List.length_cons, List.length_nil, true_and, and_true, ↓reduceIte, Nat.zero_le, Nat.reduceLeDiff, Nat.reduceAdd, e_10, e_01, e_00, e_11, Int32.reduceLE, Int32.reduceLT, Int32.reduceAdd, Int32.reduceSub, b01, if_true, if_false, ite_self, nl_add, nl_add', nl_mul, nI_add, in_t, cl_n, le_nn, lt_nn, le_ln, le_nl, lt_nl, lt_ln, eq_nn, eq_nl, in_lit, cl_lit, Nat.le_refl, Nat.add_zero, gG0 hg, gG8 hg, fG0 hg, fG1 hg, aGr0 hg, aGr1 hg, c4, r4, e1, e2]
        · rw [if_neg hr] at e2
          refine ⟨fun z => (z.2.elim (fun y => absurd y r4) (fun y => absurd y hr)), fun _ => ?_⟩
          simp (disch := omega) only [iX1_isPin_0, iX1_isPin_1, iX1_isPin_3, iX1_isPin_6, iX1_isPin_7, iX1_isPin_8, iX1_isPin_9, iX1_isPin_12, iX1_isPin_13, iX1_isPin_16, iX1_isPin_17, iX1_isPin_18, iX1_isPin_19, iX1_isPin_20, iX1_isPin_21, iX1_isPin_24, iX1_isPin_27, iX1_isPin_28, iX1_isPin_30, iX1_isPin_33, iX1_isPin_34, iX1_isPin_35, iX1_isPin_37, iX1_isPin_38, iX1_isPin_41, iX1_isPin_42, iX1_isPin_43, iX1_isPin_44, iX1_isPin_45, iX1_isPin_46, iX1_isPin_49, iX1_isPin_52, iX1_isPin_53, iX1_isPin_56, iX1_isPin_57, true_or, or_true, Option.bind_some, Option.bind_none, kk_hp, kn_hp, el_i, el_b, el_z, am_cat_nil, am_cat_i, am_cat_r, am_cat_l, am_cat_n, gd_i, gd_r, gd_n, gd_u, List.length_cons, List.length_nil, true_and, and_true, ↓reduceIte, Nat.zero_le, Nat.reduceLeDiff, Nat.reduceAdd, e_10, e_01, e_00, e_11, Int32.reduceLE, Int32.reduceLT, Int32.reduceAdd, Int32.reduceSub, b01, if_true, if_false, ite_self, nl_add, nl_add', nl_mul, nI_add, in_t, cl_n, le_nn, lt_nn, le_ln, le_nl, lt_nl, lt_ln, eq_nn, eq_nl, in_lit, cl_lit, Nat.le_refl, Nat.add_zero, gG0 hg, gG8 hg, fG0 hg, fG1 hg, aGr0 hg, aGr1 hg, c4, r4, e1, e2]
    · rw [if_neg hc] at e1
      refine ⟨fun z => (z.1.elim (fun y => absurd y c4) (fun y => absurd y hc)), fun _ => ?_⟩
      simp (disch := omega) only [iX1_isPin_0, iX1_isPin_1, iX1_isPin_3, iX1_isPin_6, iX1_isPin_7, iX1_isPin_8, iX1_isPin_9, iX1_isPin_12, iX1_isPin_13, iX1_isPin_16, iX1_isPin_17, iX1_isPin_18, iX1_isPin_19, iX1_isPin_20, iX1_isPin_21, iX1_isPin_24, iX1_isPin_27, iX1_isPin_28, iX1_isPin_30, iX1_isPin_33, iX1_isPin_34, iX1_isPin_35, iX1_isPin_37, iX1_isPin_38, iX1_isPin_41, iX1_isPin_42, iX1_isPin_43, iX1_isPin_44, iX1_isPin_45, iX1_isPin_46, iX1_isPin_49, iX1_isPin_52, iX1_isPin_53, iX1_isPin_56, iX1_isPin_57, true_or, or_true, Option.bind_some, Option.bind_none, kk_hp, kn_hp, el_i, el_b, el_z, am_cat_nil, am_cat_i, am_cat_r, am_cat_l, am_cat_n, gd_i, gd_r, gd_n, gd_u, List.length_cons, List.length_nil, true_and, and_true, ↓reduceIte, Nat.zero_le, Nat.reduceLeDiff, Nat.reduceAdd, e_10, e_01, e_00, e_11, Int32.reduceLE, Int32.reduceLT, Int32.reduceAdd, Int32.reduceSub, b01, if_true, if_false, ite_self, nl_add, nl_add', nl_mul, nI_add, in_t, cl_n, le_nn, lt_nn, le_ln, le_nl, lt_nl, lt_ln, eq_nn, eq_nl, in_lit, cl_lit, Nat.le_refl, Nat.add_zero, gG0 hg, gG8 hg, fG0 hg, fG1 hg, aGr0 hg, aGr1 hg, c4, e1]
end S76
