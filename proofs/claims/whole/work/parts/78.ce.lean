/-! changes, v: set -/
section S78
variable {X : am_X} {M : Nat → Nat → Int32}
theorem ga_s {a : Nat} (ha : 1000 ≤ a) : am_ga X (hp M) a = am_sp X a := by
  unfold am_ga
  rw [List.getElem?_eq_none (by rw [hp_len]; omega)]
  dsimp only
  rw [if_neg (by omega)]
theorem ga_2000 : am_ga X (hp M) 2000 = some (0, 4, fun j => ([1, 1, 0, 0] : List Int32).getD j 0) := ga_s (by decide)
theorem ga_2001 : am_ga X (hp M) 2001 = some (0, 4, fun j => ([6, 4, 99, 99] : List Int32).getD j 0) := ga_s (by decide)
theorem RR_set (h : RR M) {k u : Nat} {v : Int32} (hk : k < mI (M 83)) (hu : u < 4) (hit : itm (upd (M 83) (26 + 6 * k + u) v) k) : RR (up (up (up M (5 + u) k v) 0 8 1) 83 (26 + 6 * k + u) v) := by
  have hwf := h.1
  have hn := hwf.1.2
  have hm := hwf.2.1.2
  generalize hM2 : up (up (up M (5 + u) k v) 0 8 1) 83 (26 + 6 * k + u) v = M2
  have e83 : M2 83 = upd (M 83) (26 + 6 * k + u) v := by rw [← hM2, up_s, up_n _ _ _ (by omega), up_n _ _ _ (by omega)]
  have es : ∀ j, j ≠ 26 + 6 * k + u → upd (M 83) (26 + 6 * k + u) v j = M 83 j := fun j h1 => pk_un h1
  have ec : ∀ x, x ≠ 0 → x ≠ 5 + u → x ≠ 83 → M2 x = M x := fun x i0 i2 i8 => by rw [← hM2, up_n _ _ _ i8, up_n _ _ _ i0, up_n _ _ _ i2]
  have e5 : M2 (5 + u) = upd (M (5 + u)) k v := by rw [← hM2, up_n _ _ _ (by omega), up_n _ _ _ (by omega), up_s]
  refine RR_c h (fun a h1 h2 => ec a (by omega) (by omega) h2) (by rw [← hM2]; rfl) (by rw [← hM2, up_n _ _ _ (by decide), up_s, pk_un (by decide), up_n _ _ _ (by omega)]) ?_ ?_
  · rw [e83]
    refine wf_it hwf (fun j hj => es j (by omega)) (fun i hi => ?_)
    by_cases hik : i = k
    · rw [hik]; exact hit
    · exact itm_ext (hwf.2.2.1 i hi) (es 0 (by omega)) (fun w hw => es _ (by omega))
  · rw [e83]
    refine RG_it h.2.1 (fun x hx => ec x (by omega) (by omega) (by omega)) (fun j hj => es j (by omega)) hn (fun i hi w hw => ?_)
    by_cases hwu : w = u
    · subst hwu
      rw [show 1 + 4 + w = 5 + w by omega, e5]
      by_cases hik : i = k
      · rw [hik, pk_us, pk_us]
      · rw [pk_un hik, es _ (by omega)]
        have := h.2.1.2.2.2 i hi w hw
        rwa [show 1 + 4 + w = 5 + w by omega] at this
    · rw [ec (1 + 4 + w) (by omega) (by omega) (by omega), es _ (by omega)]
      exact h.2.1.2.2.2 i hi w hw
def pz (x : Int32) : Nat := if x = -4 then 0 else x.toNatClampNeg
theorem pz_4 {x : Int32} (h : x = -4) : pz x = 0 := if_pos h
theorem pz_n {x : Int32} (h : ¬ x = -4) : pz x = x.toNatClampNeg := if_neg h
theorem S_set (h : RR M) (i w v : Int32) : St X kX8_set [.ref 0, .int i, .int w, .int v, am_u] kX9_set [.ref 82, .int i, .int w, .int v, am_u, am_u, am_u] M := by
  have hwf := h.1
  have hm := hwf.2.1.2
  have hn := hwf.1.2
  have q7 : M 1 7 = nI (mI (M 83)) := h.2.1.1.2.2.2.2.2.trans h.1.2.1.1
  rcases Classical.em (∃ k, k < mI (M 83) ∧ i = nI k) with ⟨k, hk, rfl⟩ | hno
  · have hb := @C_itm1 X M k (mI (M 83)) q7 hk (by omega)
    have hbw := @C_isBetween X M w 0 3
    by_cases hw : 0 ≤ w ∧ w ≤ 3
    · rw [if_pos hw] at hbw
      obtain ⟨⟨ww, w1, wn⟩, ⟨tw, t1, t4⟩, hpc, hpr⟩ := hwf.2.2.1 k hk
      have r0 : M 1 0 = nI (nC (M 83)) := h.2.1.1.1.trans hwf.1.1
      have f0 : M 5 k = nI (wI (M 83) k) := (h.2.1.2.2.2 k hk 0 (by decide)).trans ww
      have f1 : M 6 k = nI (tI (M 83) k) := (h.2.1.2.2.2 k hk 1 (by decide)).trans tw
      have f2 : M 7 k = M 83 (26 + 6 * k + 2) := h.2.1.2.2.2 k hk 2 (by decide)
      have f3 : M 8 k = M 83 (26 + 6 * k + 3) := h.2.1.2.2.2 k hk 3 (by decide)
      have f4 : M 9 k = M 83 (26 + 6 * k + 4) := h.2.1.2.2.2 k hk 4 (by decide)
      have f5 : M 10 k = M 83 (26 + 6 * k + 5) := h.2.1.2.2.2 k hk 5 (by decide)
      -- the pins
      have hp0 : pz (M 83 (26 + 6 * k + 4)) + wI (M 83) k ≤ nC (M 83) := by
        rcases hpc with z | ⟨z, z2⟩
        · rw [pz_4 z]; omega
        · rw [pz_n (by rw [z]; exact nI_ne (by omega))]; exact z2
      have hr0 : pz (M 83 (26 + 6 * k + 5)) + tI (M 83) k ≤ 12 := by
        rcases hpr with z | ⟨z, z2⟩
        · rw [pz_4 z]; omega
        · rw [pz_n (by rw [z]; exact nI_ne (by omega))]; exact z2
      have pcn : M 83 (26 + 6 * k + 4) = -4 ∨ M 83 (26 + 6 * k + 4) = nI (pz (M 83 (26 + 6 * k + 4))) := by
        rcases hpc with z | ⟨z, z2⟩
        · exact Or.inl z
        · right; rw [pz_n (by rw [z]; exact nI_ne (by omega))]; exact z
      have prn : M 83 (26 + 6 * k + 5) = -4 ∨ M 83 (26 + 6 * k + 5) = nI (pz (M 83 (26 + 6 * k + 5))) := by
        rcases hpr with z | ⟨z, z2⟩
        · exact Or.inl z
        · right; rw [pz_n (by rw [z]; exact nI_ne (by omega))]; exact z
      have pokC : ∀ a, pz (M 83 (26 + 6 * k + 4)) + a ≤ nC (M 83) → pnC (nI (nC (M 83))) (nI a) (M 83 (26 + 6 * k + 4)) := fun a ha => by
        rcases pcn with z | z
        · exact Or.inl z
        · rw [z]; exact pn_to ha (by omega)
      have pokR : ∀ a, pz (M 83 (26 + 6 * k + 5)) + a ≤ 12 → pnC 12 (nI a) (M 83 (26 + 6 * k + 5)) := fun a ha => by
        rcases prn with z | z
        · exact Or.inl z
        · rw [z]; exact pn_to (n := 12) ha (by omega)
      have pre : ∀ K : Nat → Nat → Int32, K 83 = M 83 → am_ev X kX9_set 0 [.ref 82, .int (nI k), .int w, .int v, am_u, am_u, am_u] [] (hp K) = am_ev X kX9_set 68 [.ref 82, .int (nI k), .int w, .int v, .int (nI (pz (M 83 (26 + 6 * k + 4)))), .int (nI (pz (M 83 (26 + 6 * k + 5)))), am_u] [] (hp K) := by
        intro K hK
        have hr := @M_itm1 X K k (mI (M 83)) (by rw [hK]; exact hwf.2.1.1) hk (by omega)
        have hi := @M_in X K w.toInt64 0 3
        simp (disch := decide) only [wl, wl_l, wl_r] at hi
        rw [if_pos hw] at hi
        have o4 := @M_of4 X K k (by omega)
        have o5 := @M_of5 X K k (by omega)
        rw [hK] at o4 o5
        rcases pcn with z | z <;> rcases prn with y | y
        · rw [pz_4 z, pz_4 y, nI_0]
          rw [z] at o4
          rw [y] at o5
          simp (disch := omega) only [iX9_set_0, iX9_set_1, iX9_set_2, iX9_set_5, iX9_set_8, iX9_set_9, iX9_set_10, iX9_set_11, iX9_set_14, iX9_set_17, iX9_set_20, iX9_set_21, iX9_set_22, iX9_set_23, iX9_set_24, iX9_set_25, iX9_set_28, iX9_set_30, iX9_set_33, iX9_set_34, iX9_set_37, iX9_set_38, iX9_set_39, iX9_set_40, iX9_set_43, iX9_set_45, iX9_set_46, iX9_set_47, iX9_set_48, iX9_set_51, iX9_set_53, iX9_set_56, iX9_set_57, iX9_set_60, iX9_set_61, iX9_set_62, iX9_set_63, iX9_set_66, true_or, or_true, Option.bind_some, Option.bind_none, kk_hp, kn_hp, el_i, el_b, el_z, am_cat_nil, am_cat_i, am_cat_r, am_cat_l, am_cat_n, gd_i, gd_r, gd_n, gd_u, List.length_cons, List.length_nil, true_and, and_true, ↓reduceIte, Nat.zero_le, Nat.reduceLeDiff, Nat.reduceAdd, e_10, e_01, e_00, e_11, Int32.reduceLE, Int32.reduceLT, Int32.reduceAdd, Int32.reduceSub, b01, if_true, if_false, ite_self, rc_82, gf_82_0, gf_82_1, gf_82_2, gf_82_3, gf_82_4, gf_82_5, gf_82_6, pf_82_6, gf_82_7, pf_82_7, gf_82_8, pf_82_8, gf_82_9, pf_82_9, gf_82_10, pf_82_10, gf_82_11, pf_82_11, gf_82_12, pf_82_12, gf_82_13, gf_82_14, gf_82_15, gf_82_16, pf_82_16, gf_82_17, gf_82_18, gf_82_19, gf_82_20, gf_82_21, gf_82_22, gf_82_23, gf_82_24, gf_82_25, pf_82_25, ga_83, wi_83, ga_84, wi_84, ga_85, wb_85, ga_86, wi_86, ga_87, wb_87, ga_88, wi_88, ga_89, wi_89, ga_90, wi_90, ga_91, wi_91, ga_92, wi_92, ga_93, wi_93, ga_94, wi_94, ga_95, wi_95, ga_96, wb_96, ga_97, wi_97, ga_98, wi_98, ga_99, wi_99, nl_add, nl_add', nl_mul, nI_add, in_t, cl_n, le_nn, lt_nn, le_ln, le_nl, lt_nl, lt_ln, eq_nn, eq_nl, in_lit, cl_lit, Nat.le_refl, Nat.add_zero, hr, hi, o4, o5]
        · rw [pz_4 z, nI_0]
          rw [z] at o4
          have yn : ¬ M 83 (26 + 6 * k + 5) = -4 := by rw [y]; exact nI_ne (by omega)
          simp (disch := omega) only [iX9_set_0, iX9_set_1, iX9_set_2, iX9_set_5, iX9_set_8, iX9_set_9, iX9_set_10, iX9_set_11, iX9_set_14, iX9_set_17, iX9_set_20, iX9_set_21, iX9_set_22, iX9_set_23, iX9_set_24, iX9_set_25, iX9_set_28, iX9_set_30, iX9_set_33, iX9_set_34, iX9_set_37, iX9_set_38, iX9_set_39, iX9_set_40, iX9_set_43, iX9_set_45, iX9_set_46, iX9_set_47, iX9_set_48, iX9_set_51, iX9_set_53, iX9_set_56, iX9_set_57, iX9_set_60, iX9_set_61, iX9_set_62, iX9_set_63, iX9_set_66, true_or, or_true, Option.bind_some, Option.bind_none, kk_hp, kn_hp, el_i, el_b, el_z, am_cat_nil, am_cat_i, am_cat_r, am_cat_l, am_cat_n, gd_i, gd_r, gd_n, gd_u, List.length_cons, List.length_nil, true_and, and_true, ↓reduceIte, Nat.zero_le, Nat.reduceLeDiff, Nat.reduceAdd, e_10, e_01, e_00, e_11, Int32.reduceLE, Int32.reduceLT, Int32.reduceAdd, Int32.reduceSub, b01, if_true, if_false, ite_self, rc_82, gf_82_0, gf_82_1, gf_82_2, gf_82_3, gf_82_4, gf_82_5, gf_82_6, pf_82_6, gf_82_7, pf_82_7, gf_82_8, pf_82_8, gf_82_9, pf_82_9, gf_82_10, pf_82_10, gf_82_11, pf_82_11, gf_82_12, pf_82_12, gf_82_13, gf_82_14, gf_82_15, gf_82_16, pf_82_16, gf_82_17, gf_82_18, gf_82_19, gf_82_20, gf_82_21, gf_82_22, gf_82_23, gf_82_24, gf_82_25, pf_82_25, ga_83, wi_83, ga_84, wi_84, ga_85, wb_85, ga_86, wi_86, ga_87, wb_87, ga_88, wi_88, ga_89, wi_89, ga_90, wi_90, ga_91, wi_91, ga_92, wi_92, ga_93, wi_93, ga_94, wi_94, ga_95, wi_95, ga_96, wb_96, ga_97, wi_97, ga_98, wi_98, ga_99, wi_99, nl_add, nl_add', nl_mul, nI_add, in_t, cl_n, le_nn, lt_nn, le_ln, le_nl, lt_nl, lt_ln, eq_nn, eq_nl, in_lit, cl_lit, Nat.le_refl, Nat.add_zero, hr, hi, o4, o5, yn]
          rw [← y]
        · rw [pz_4 y, nI_0]
          rw [y] at o5
          have zn : ¬ M 83 (26 + 6 * k + 4) = -4 := by rw [z]; exact nI_ne (by omega)
          simp (disch := omega) only [iX9_set_0, iX9_set_1, iX9_set_2, iX9_set_5, iX9_set_8, iX9_set_9, iX9_set_10, iX9_set_11, iX9_set_14, iX9_set_17, iX9_set_20, iX9_set_21, iX9_set_22, iX9_set_23, iX9_set_24, iX9_set_25, iX9_set_28, iX9_set_30, iX9_set_33, iX9_set_34, iX9_set_37, iX9_set_38, iX9_set_39, iX9_set_40, iX9_set_43, iX9_set_45, iX9_set_46, iX9_set_47, iX9_set_48, iX9_set_51, iX9_set_53, iX9_set_56, iX9_set_57, iX9_set_60, iX9_set_61, iX9_set_62, iX9_set_63, iX9_set_66, true_or, or_true, Option.bind_some, Option.bind_none, kk_hp, kn_hp, el_i, el_b, el_z, am_cat_nil, am_cat_i, am_cat_r, am_cat_l, am_cat_n, gd_i, gd_r, gd_n, gd_u, List.length_cons, List.length_nil, true_and, and_true, ↓reduceIte, Nat.zero_le, Nat.reduceLeDiff, Nat.reduceAdd, e_10, e_01, e_00, e_11, Int32.reduceLE, Int32.reduceLT, Int32.reduceAdd, Int32.reduceSub, b01, if_true, if_false, ite_self, rc_82, gf_82_0, gf_82_1, gf_82_2, gf_82_3, gf_82_4, gf_82_5, gf_82_6, pf_82_6, gf_82_7, pf_82_7, gf_82_8, pf_82_8, gf_82_9, pf_82_9, gf_82_10, pf_82_10, gf_82_11, pf_82_11, gf_82_12, pf_82_12, gf_82_13, gf_82_14, gf_82_15, gf_82_16, pf_82_16, gf_82_17, gf_82_18, gf_82_19, gf_82_20, gf_82_21, gf_82_22, gf_82_23, gf_82_24, gf_82_25, pf_82_25, ga_83, wi_83, ga_84, wi_84, ga_85, wb_85, ga_86, wi_86, ga_87, wb_87, ga_88, wi_88, ga_89, wi_89, ga_90, wi_90, ga_91, wi_91, ga_92, wi_92, ga_93, wi_93, ga_94, wi_94, ga_95, wi_95, ga_96, wb_96, ga_97, wi_97, ga_98, wi_98, ga_99, wi_99, nl_add, nl_add', nl_mul, nI_add, in_t, cl_n, le_nn, lt_nn, le_ln, le_nl, lt_nl, lt_ln, eq_nn, eq_nl, in_lit, cl_lit, Nat.le_refl, Nat.add_zero, hr, hi, o4, o5, zn]
          rw [← z]
        · have yn : ¬ M 83 (26 + 6 * k + 5) = -4 := by rw [y]; exact nI_ne (by omega)
          have zn : ¬ M 83 (26 + 6 * k + 4) = -4 := by rw [z]; exact nI_ne (by omega)
          simp (disch := omega) only [iX9_set_0, iX9_set_1, iX9_set_2, iX9_set_5, iX9_set_8, iX9_set_9, iX9_set_10, iX9_set_11, iX9_set_14, iX9_set_17, iX9_set_20, iX9_set_21, iX9_set_22, iX9_set_23, iX9_set_24, iX9_set_25, iX9_set_28, iX9_set_30, iX9_set_33, iX9_set_34, iX9_set_37, iX9_set_38, iX9_set_39, iX9_set_40, iX9_set_43, iX9_set_45, iX9_set_46, iX9_set_47, iX9_set_48, iX9_set_51, iX9_set_53, iX9_set_56, iX9_set_57, iX9_set_60, iX9_set_61, iX9_set_62, iX9_set_63, iX9_set_66, true_or, or_true, Option.bind_some, Option.bind_none, kk_hp, kn_hp, el_i, el_b, el_z, am_cat_nil, am_cat_i, am_cat_r, am_cat_l, am_cat_n, gd_i, gd_r, gd_n, gd_u, List.length_cons, List.length_nil, true_and, and_true, ↓reduceIte, Nat.zero_le, Nat.reduceLeDiff, Nat.reduceAdd, e_10, e_01, e_00, e_11, Int32.reduceLE, Int32.reduceLT, Int32.reduceAdd, Int32.reduceSub, b01, if_true, if_false, ite_self, rc_82, gf_82_0, gf_82_1, gf_82_2, gf_82_3, gf_82_4, gf_82_5, gf_82_6, pf_82_6, gf_82_7, pf_82_7, gf_82_8, pf_82_8, gf_82_9, pf_82_9, gf_82_10, pf_82_10, gf_82_11, pf_82_11, gf_82_12, pf_82_12, gf_82_13, gf_82_14, gf_82_15, gf_82_16, pf_82_16, gf_82_17, gf_82_18, gf_82_19, gf_82_20, gf_82_21, gf_82_22, gf_82_23, gf_82_24, gf_82_25, pf_82_25, ga_83, wi_83, ga_84, wi_84, ga_85, wb_85, ga_86, wi_86, ga_87, wb_87, ga_88, wi_88, ga_89, wi_89, ga_90, wi_90, ga_91, wi_91, ga_92, wi_92, ga_93, wi_93, ga_94, wi_94, ga_95, wi_95, ga_96, wb_96, ga_97, wi_97, ga_98, wi_98, ga_99, wi_99, nl_add, nl_add', nl_mul, nI_add, in_t, cl_n, le_nn, lt_nn, le_ln, le_nl, lt_nl, lt_ln, eq_nn, eq_nl, in_lit, cl_lit, Nat.le_refl, Nat.add_zero, hr, hi, o4, o5, zn, yn]
          rw [← z, ← y]
      generalize hP : pz (M 83 (26 + 6 * k + 4)) = p0 at *
      generalize hQ : pz (M 83 (26 + 6 * k + 5)) = q0 at *
      have ins := fun K : Nat → Nat → Int32 => @C_isInside X K 1 k (Or.inl rfl) (by omega)
      by_cases a0 : w = 0
      · subst a0
        have pre1 := pre (up (up M 5 k v) 0 8 1) rfl
        have pre0 := pre M rfl
        have ebw := @C_isBetween X M v 1 6
        have er := fun K : Nat → Nat → Int32 => @M_in X K v.toInt64 1 (nI (nC (M 83)) - nI p0).toInt64
        simp (disch := decide) only [wl, wl_l, wl_r] at er
        by_cases hv : 1 ≤ v ∧ v ≤ nI (nC (M 83)) - nI p0
        · have er1 := er (up (up M 5 k v) 0 8 1)
          rw [if_pos hv] at er1
          rw [nI_sub' (by omega)] at hv
          obtain ⟨a, ha1, ha2, rfl⟩ := (btw1 (by omega)).mp hv
          rw [if_pos (show 1 ≤ nI a ∧ nI a ≤ 6 from (btw1 (n := 6) (by decide)).mpr ⟨a, ha1, by omega, rfl⟩)] at ebw
          have ei := (ins (up M 5 k (nI a))).1 ⟨by
            show upd (M 5) k (nI a) k ≤ M 1 0
            rw [pk_us, r0, le_nn (by omega) (by omega)]; omega, by
            show pnC (M 1 0) (upd (M 5) k (nI a) k) (M 9 k)
            rw [pk_us, r0, f4]; exact pokC a (by omega), by
            show pnC 12 (M 6 k) (M 10 k)
            rw [f1, f5]; exact pokR _ hr0⟩
          have eb := @M_becomes X (up (up M 5 k (nI a)) 0 8 1) (26 + 6 * k) (nI a) (by omega)
          rw [show (up (up M 5 k (nI a)) 0 8 1) 83 = M 83 from rfl] at eb
          refine ⟨M 83 (26 + 6 * k), up (up M 5 k (nI a)) 0 8 1, up (up (up M 5 k (nI a)) 0 8 1) 83 (26 + 6 * k) (nI a), ?_, ?_, ?_⟩
          · rw [ww, ← f0]
            simp (disch := omega) only [iX8_set_0, iX8_set_1, iX8_set_2, iX8_set_5, iX8_set_8, iX8_set_9, iX8_set_10, iX8_set_11, iX8_set_14, iX8_set_17, iX8_set_18, iX8_set_19, iX8_set_20, iX8_set_23, iX8_set_24, iX8_set_25, iX8_set_28, iX8_set_29, iX8_set_30, iX8_set_33, iX8_set_36, iX8_set_37, iX8_set_38, iX8_set_39, iX8_set_42, iX8_set_45, iX8_set_46, iX8_set_47, iX8_set_48, iX8_set_49, iX8_set_51, iX8_set_52, iX8_set_55, iX8_set_58, iX8_set_59, iX8_set_60, iX8_set_61, iX8_set_62, iX8_set_63, iX8_set_64, iX8_set_67, iX8_set_68, iX8_set_71, iX8_set_74, iX8_set_75, iX8_set_78, iX8_set_81, iX8_set_82, iX8_set_83, iX8_set_84, iX8_set_86, iX8_set_87, iX8_set_88, iX8_set_89, iX8_set_90, iX8_set_91, iX8_set_94, iX8_set_96, true_or, or_true, Option.bind_some, Option.bind_none, kk_hp, kn_hp, el_i, el_b, el_z, am_cat_nil, am_cat_i, am_cat_r, am_cat_l, am_cat_n, gd_i, gd_r, gd_n, gd_u, List.length_cons, List.length_nil, true_and, and_true, ↓reduceIte, Nat.zero_le, Nat.reduceLeDiff, Nat.reduceAdd, e_10, e_01, e_00, e_11, Int32.reduceLE, Int32.reduceLT, Int32.reduceAdd, Int32.reduceSub, b01, if_true, if_false, ite_self, rc_0, gf_0_0, gf_0_1, gf_0_2, gf_0_3, gf_0_4, gf_0_5, gf_0_6, gf_0_7, gf_0_8, pf_0_8, gf_0_9, pf_0_9, rc_1, gf_1_0, pf_1_0, gf_1_1, gf_1_2, gf_1_3, pf_1_3, gf_1_4, pf_1_4, gf_1_5, pf_1_5, gf_1_6, pf_1_6, gf_1_7, pf_1_7, gf_1_8, gf_1_9, ga_5, wi_5, nl_add, nl_add', nl_mul, nI_add, in_t, cl_n, le_nn, lt_nn, le_ln, le_nl, lt_nl, lt_ln, eq_nn, eq_nl, in_lit, cl_lit, Nat.le_refl, Nat.add_zero, ga_2000, ga_2001, f1_0, hb, hbw, List.getD_cons_zero, ebw, ei]
          · rw [pre1]
            simp (disch := omega) only [iX9_set_68, iX9_set_69, iX9_set_72, iX9_set_73, iX9_set_74, iX9_set_75, iX9_set_76, iX9_set_79, iX9_set_80, iX9_set_81, iX9_set_83, iX9_set_84, iX9_set_85, iX9_set_88, iX9_set_91, iX9_set_92, iX9_set_93, iX9_set_96, iX9_set_97, iX9_set_98, iX9_set_99, iX9_set_102, iX9_set_105, iX9_set_108, iX9_set_110, iX9_set_111, iX9_set_112, iX9_set_114, iX9_set_117, iX9_set_118, iX9_set_121, iX9_set_122, iX9_set_125, iX9_set_126, iX9_set_129, iX9_set_131, iX9_set_133, iX9_set_136, iX9_set_137, iX9_set_139, iX9_set_141, iX9_set_142, iX9_set_143, iX9_set_144, iX9_set_145, iX9_set_146, iX9_set_147, iX9_set_150, iX9_set_153, iX9_set_154, true_or, or_true, Option.bind_some, Option.bind_none, kk_hp, kn_hp, el_i, el_b, el_z, am_cat_nil, am_cat_i, am_cat_r, am_cat_l, am_cat_n, gd_i, gd_r, gd_n, gd_u, List.length_cons, List.length_nil, true_and, and_true, ↓reduceIte, Nat.zero_le, Nat.reduceLeDiff, Nat.reduceAdd, e_10, e_01, e_00, e_11, Int32.reduceLE, Int32.reduceLT, Int32.reduceAdd, Int32.reduceSub, b01, if_true, if_false, ite_self, rc_82, gf_82_0, gf_82_1, gf_82_2, gf_82_3, gf_82_4, gf_82_5, gf_82_6, pf_82_6, gf_82_7, pf_82_7, gf_82_8, pf_82_8, gf_82_9, pf_82_9, gf_82_10, pf_82_10, gf_82_11, pf_82_11, gf_82_12, pf_82_12, gf_82_13, gf_82_14, gf_82_15, gf_82_16, pf_82_16, gf_82_17, gf_82_18, gf_82_19, gf_82_20, gf_82_21, gf_82_22, gf_82_23, gf_82_24, gf_82_25, pf_82_25, ga_83, wi_83, ga_84, wi_84, ga_85, wb_85, ga_86, wi_86, ga_87, wb_87, ga_88, wi_88, ga_89, wi_89, ga_90, wi_90, ga_91, wi_91, ga_92, wi_92, ga_93, wi_93, ga_94, wi_94, ga_95, wi_95, ga_96, wb_96, ga_97, wi_97, ga_98, wi_98, ga_99, wi_99, nl_add, nl_add', nl_mul, nI_add, in_t, cl_n, le_nn, lt_nn, le_ln, le_nl, lt_nl, lt_ln, eq_nn, eq_nl, in_lit, cl_lit, Nat.le_refl, Nat.add_zero, show (up (up M 5 k (nI a)) 0 8 1) 83 = M 83 from rfl, hwf.1.1, er1, Int32.add_zero, eb]
          · refine RR_set h (u := 0) hk (by decide) ?_
            unfold itm wI tI pC pR nC
            rw [show 26 + 6 * k + 0 = 26 + 6 * k from rfl, pk_us, pk_un (show 0 ≠ 26 + 6 * k by omega), pk_un (show 26 + 6 * k + 1 ≠ 26 + 6 * k by omega), pk_un (show 26 + 6 * k + 4 ≠ 26 + 6 * k by omega), pk_un (show 26 + 6 * k + 5 ≠ 26 + 6 * k by omega), nI_clamp (by omega)]
            refine ⟨⟨rfl, ha1, show a ≤ nC (M 83) by omega⟩, ⟨tw, t1, t4⟩, ?_, hpr⟩
            rcases pcn with z | z
            · exact Or.inl z
            · right
              rw [z, nI_clamp (by omega)]
              exact ⟨rfl, show p0 + a ≤ nC (M 83) by omega⟩
        · have er0 := er M
          rw [if_neg hv] at er0
          have hrf : am_ev X kX9_set 0 [.ref 82, .int (nI k), .int 0, .int v, am_u, am_u, am_u] [] (hp M) = some (some (.int (-1)), hp M) := by
            rw [pre0]
            simp (disch := omega) only [iX9_set_68, iX9_set_69, iX9_set_72, iX9_set_73, iX9_set_74, iX9_set_75, iX9_set_76, iX9_set_79, iX9_set_80, iX9_set_81, iX9_set_83, iX9_set_84, iX9_set_85, iX9_set_88, iX9_set_91, iX9_set_92, iX9_set_93, iX9_set_96, iX9_set_97, iX9_set_98, iX9_set_99, iX9_set_102, iX9_set_105, iX9_set_108, iX9_set_110, iX9_set_111, iX9_set_112, iX9_set_114, iX9_set_117, iX9_set_118, iX9_set_121, iX9_set_122, iX9_set_125, iX9_set_126, iX9_set_129, iX9_set_131, iX9_set_133, iX9_set_136, iX9_set_137, iX9_set_139, iX9_set_141, iX9_set_142, iX9_set_143, iX9_set_144, iX9_set_145, iX9_set_146, iX9_set_147, iX9_set_150, iX9_set_153, iX9_set_154, true_or, or_true, Option.bind_some, Option.bind_none, kk_hp, kn_hp, el_i, el_b, el_z, am_cat_nil, am_cat_i, am_cat_r, am_cat_l, am_cat_n, gd_i, gd_r, gd_n, gd_u, List.length_cons, List.length_nil, true_and, and_true, ↓reduceIte, Nat.zero_le, Nat.reduceLeDiff, Nat.reduceAdd, e_10, e_01, e_00, e_11, Int32.reduceLE, Int32.reduceLT, Int32.reduceAdd, Int32.reduceSub, b01, if_true, if_false, ite_self, rc_82, gf_82_0, gf_82_1, gf_82_2, gf_82_3, gf_82_4, gf_82_5, gf_82_6, pf_82_6, gf_82_7, pf_82_7, gf_82_8, pf_82_8, gf_82_9, pf_82_9, gf_82_10, pf_82_10, gf_82_11, pf_82_11, gf_82_12, pf_82_12, gf_82_13, gf_82_14, gf_82_15, gf_82_16, pf_82_16, gf_82_17, gf_82_18, gf_82_19, gf_82_20, gf_82_21, gf_82_22, gf_82_23, gf_82_24, gf_82_25, pf_82_25, ga_83, wi_83, ga_84, wi_84, ga_85, wb_85, ga_86, wi_86, ga_87, wb_87, ga_88, wi_88, ga_89, wi_89, ga_90, wi_90, ga_91, wi_91, ga_92, wi_92, ga_93, wi_93, ga_94, wi_94, ga_95, wi_95, ga_96, wb_96, ga_97, wi_97, ga_98, wi_98, ga_99, wi_99, nl_add, nl_add', nl_mul, nI_add, in_t, cl_n, le_nn, lt_nn, le_ln, le_nl, lt_nl, lt_ln, eq_nn, eq_nl, in_lit, cl_lit, Nat.le_refl, Nat.add_zero, hwf.1.1, er0]
          refine ⟨-1, M, M, ?_, hrf, h⟩
          by_cases hv6 : 1 ≤ v ∧ v ≤ 6
          · rw [if_pos hv6] at ebw
            obtain ⟨a, ha1, ha2, rfl⟩ := (btw1 (n := 6) (by decide)).mp hv6
            have hlt : nC (M 83) < p0 + a := by
              refine Decidable.byContradiction (fun z => hv ?_)
              rw [nI_sub' (by omega)]
              exact (btw1 (by omega)).mpr ⟨a, ha1, by omega, rfl⟩
            have ei := (ins (up M 5 k (nI a))).2 (fun z => by
              have z1 : upd (M 5) k (nI a) k ≤ M 1 0 := z.1
              rw [pk_us, r0, le_nn (by omega) (by omega)] at z1
              have z2 : pnC (M 1 0) (upd (M 5) k (nI a) k) (M 9 k) := z.2.1
              rw [pk_us, r0, f4] at z2
              rcases pcn with y | y
              · rw [pz_4 y] at hP; omega
              · rw [y] at z2
                have := pn_no z1 (by omega) (by omega) z2
                omega)
            have er2 : up (up M 5 k (nI a)) 5 k (M 5 k) = M := by rw [up_up2, up_self]
            simp (disch := omega) only [iX8_set_0, iX8_set_1, iX8_set_2, iX8_set_5, iX8_set_8, iX8_set_9, iX8_set_10, iX8_set_11, iX8_set_14, iX8_set_17, iX8_set_18, iX8_set_19, iX8_set_20, iX8_set_23, iX8_set_24, iX8_set_25, iX8_set_28, iX8_set_29, iX8_set_30, iX8_set_33, iX8_set_36, iX8_set_37, iX8_set_38, iX8_set_39, iX8_set_42, iX8_set_45, iX8_set_46, iX8_set_47, iX8_set_48, iX8_set_49, iX8_set_51, iX8_set_52, iX8_set_55, iX8_set_58, iX8_set_59, iX8_set_60, iX8_set_61, iX8_set_62, iX8_set_63, iX8_set_64, iX8_set_67, iX8_set_68, iX8_set_71, iX8_set_74, iX8_set_75, iX8_set_78, iX8_set_81, iX8_set_82, iX8_set_83, iX8_set_84, iX8_set_86, iX8_set_87, iX8_set_88, iX8_set_89, iX8_set_90, iX8_set_91, iX8_set_94, iX8_set_96, true_or, or_true, Option.bind_some, Option.bind_none, kk_hp, kn_hp, el_i, el_b, el_z, am_cat_nil, am_cat_i, am_cat_r, am_cat_l, am_cat_n, gd_i, gd_r, gd_n, gd_u, List.length_cons, List.length_nil, true_and, and_true, ↓reduceIte, Nat.zero_le, Nat.reduceLeDiff, Nat.reduceAdd, e_10, e_01, e_00, e_11, Int32.reduceLE, Int32.reduceLT, Int32.reduceAdd, Int32.reduceSub, b01, if_true, if_false, ite_self, rc_0, gf_0_0, gf_0_1, gf_0_2, gf_0_3, gf_0_4, gf_0_5, gf_0_6, gf_0_7, gf_0_8, pf_0_8, gf_0_9, pf_0_9, rc_1, gf_1_0, pf_1_0, gf_1_1, gf_1_2, gf_1_3, pf_1_3, gf_1_4, pf_1_4, gf_1_5, pf_1_5, gf_1_6, pf_1_6, gf_1_7, pf_1_7, gf_1_8, gf_1_9, ga_5, wi_5, nl_add, nl_add', nl_mul, nI_add, in_t, cl_n, le_nn, lt_nn, le_ln, le_nl, lt_nl, lt_ln, eq_nn, eq_nl, in_lit, cl_lit, Nat.le_refl, Nat.add_zero, ga_2000, ga_2001, f1_0, hb, hbw, List.getD_cons_zero, ebw, ei, er2]
          · rw [if_neg hv6] at ebw
            simp (disch := omega) only [iX8_set_0, iX8_set_1, iX8_set_2, iX8_set_5, iX8_set_8, iX8_set_9, iX8_set_10, iX8_set_11, iX8_set_14, iX8_set_17, iX8_set_18, iX8_set_19, iX8_set_20, iX8_set_23, iX8_set_24, iX8_set_25, iX8_set_28, iX8_set_29, iX8_set_30, iX8_set_33, iX8_set_36, iX8_set_37, iX8_set_38, iX8_set_39, iX8_set_42, iX8_set_45, iX8_set_46, iX8_set_47, iX8_set_48, iX8_set_49, iX8_set_51, iX8_set_52, iX8_set_55, iX8_set_58, iX8_set_59, iX8_set_60, iX8_set_61, iX8_set_62, iX8_set_63, iX8_set_64, iX8_set_67, iX8_set_68, iX8_set_71, iX8_set_74, iX8_set_75, iX8_set_78, iX8_set_81, iX8_set_82, iX8_set_83, iX8_set_84, iX8_set_86, iX8_set_87, iX8_set_88, iX8_set_89, iX8_set_90, iX8_set_91, iX8_set_94, iX8_set_96, true_or, or_true, Option.bind_some, Option.bind_none, kk_hp, kn_hp, el_i, el_b, el_z, am_cat_nil, am_cat_i, am_cat_r, am_cat_l, am_cat_n, gd_i, gd_r, gd_n, gd_u, List.length_cons, List.length_nil, true_and, and_true, ↓reduceIte, Nat.zero_le, Nat.reduceLeDiff, Nat.reduceAdd, e_10, e_01, e_00, e_11, Int32.reduceLE, Int32.reduceLT, Int32.reduceAdd, Int32.reduceSub, b01, if_true, if_false, ite_self, rc_0, gf_0_0, gf_0_1, gf_0_2, gf_0_3, gf_0_4, gf_0_5, gf_0_6, gf_0_7, gf_0_8, pf_0_8, gf_0_9, pf_0_9, rc_1, gf_1_0, pf_1_0, gf_1_1, gf_1_2, gf_1_3, pf_1_3, gf_1_4, pf_1_4, gf_1_5, pf_1_5, gf_1_6, pf_1_6, gf_1_7, pf_1_7, gf_1_8, gf_1_9, ga_5, wi_5, nl_add, nl_add', nl_mul, nI_add, in_t, cl_n, le_nn, lt_nn, le_ln, le_nl, lt_nl, lt_ln, eq_nn, eq_nl, in_lit, cl_lit, Nat.le_refl, Nat.add_zero, ga_2000, ga_2001, f1_0, hb, hbw, List.getD_cons_zero, ebw]
      by_cases a1 : w = 1
      · subst a1
        have pre1 := pre (up (up M 6 k v) 0 8 1) rfl
        have pre0 := pre M rfl
        have ebw := @C_isBetween X M v 1 4
        have er := fun K : Nat → Nat → Int32 => @M_in X K v.toInt64 1 4
        simp (disch := decide) only [wl, wl_l, wl_r] at er
        by_cases hv : 1 ≤ v ∧ v ≤ 4
        · rw [if_pos hv] at ebw
          obtain ⟨a, ha1, ha2, rfl⟩ := (btw1 (n := 4) (by decide)).mp hv
          by_cases hq : q0 + a ≤ 12
          · have er1 := er (up (up M 6 k (nI a)) 0 8 1)
            rw [if_pos hv] at er1
            have ei := (ins (up M 6 k (nI a))).1 ⟨by
              show M 5 k ≤ M 1 0
              rw [r0, f0, le_nn (by omega) (by omega)]; omega, by
              show pnC (M 1 0) (M 5 k) (M 9 k)
              rw [r0, f0, f4]; exact pokC _ hp0, by
              show pnC 12 (upd (M 6) k (nI a) k) (M 10 k)
              rw [pk_us, f5]; exact pokR a hq⟩
            have eb := @M_becomes X (up (up M 6 k (nI a)) 0 8 1) (26 + 6 * k + 1) (nI a) (by omega)
            rw [show (up (up M 6 k (nI a)) 0 8 1) 83 = M 83 from rfl] at eb
            refine ⟨M 83 (26 + 6 * k + 1), up (up M 6 k (nI a)) 0 8 1, up (up (up M 6 k (nI a)) 0 8 1) 83 (26 + 6 * k + 1) (nI a), ?_, ?_, ?_⟩
            · rw [tw, ← f1]
              simp (disch := omega) only [iX8_set_0, iX8_set_1, iX8_set_2, iX8_set_5, iX8_set_8, iX8_set_9, iX8_set_10, iX8_set_11, iX8_set_14, iX8_set_17, iX8_set_18, iX8_set_19, iX8_set_20, iX8_set_23, iX8_set_24, iX8_set_25, iX8_set_28, iX8_set_29, iX8_set_30, iX8_set_33, iX8_set_36, iX8_set_37, iX8_set_38, iX8_set_39, iX8_set_42, iX8_set_45, iX8_set_46, iX8_set_47, iX8_set_48, iX8_set_49, iX8_set_51, iX8_set_52, iX8_set_55, iX8_set_58, iX8_set_59, iX8_set_60, iX8_set_61, iX8_set_62, iX8_set_63, iX8_set_64, iX8_set_67, iX8_set_68, iX8_set_71, iX8_set_74, iX8_set_75, iX8_set_78, iX8_set_81, iX8_set_82, iX8_set_83, iX8_set_84, iX8_set_86, iX8_set_87, iX8_set_88, iX8_set_89, iX8_set_90, iX8_set_91, iX8_set_94, iX8_set_96, true_or, or_true, Option.bind_some, Option.bind_none, kk_hp, kn_hp, el_i, el_b, el_z, am_cat_nil, am_cat_i, am_cat_r, am_cat_l, am_cat_n, gd_i, gd_r, gd_n, gd_u, List.length_cons, List.length_nil, true_and, and_true, ↓reduceIte, Nat.zero_le, Nat.reduceLeDiff, Nat.reduceAdd, e_10, e_01, e_00, e_11, Int32.reduceLE, Int32.reduceLT, Int32.reduceAdd, Int32.reduceSub, b01, if_true, if_false, ite_self, rc_0, gf_0_0, gf_0_1, gf_0_2, gf_0_3, gf_0_4, gf_0_5, gf_0_6, gf_0_7, gf_0_8, pf_0_8, gf_0_9, pf_0_9, rc_1, gf_1_0, pf_1_0, gf_1_1, gf_1_2, gf_1_3, pf_1_3, gf_1_4, pf_1_4, gf_1_5, pf_1_5, gf_1_6, pf_1_6, gf_1_7, pf_1_7, gf_1_8, gf_1_9, ga_6, wi_6, nl_add, nl_add', nl_mul, nI_add, in_t, cl_n, le_nn, lt_nn, le_ln, le_nl, lt_nl, lt_ln, eq_nn, eq_nl, in_lit, cl_lit, Nat.le_refl, Nat.add_zero, ga_2000, ga_2001, f1_1, hb, hbw, List.getD_cons_succ, List.getD_cons_zero, ebw, ei]
            · rw [pre1]
              simp (disch := omega) only [iX9_set_68, iX9_set_69, iX9_set_72, iX9_set_73, iX9_set_74, iX9_set_75, iX9_set_76, iX9_set_79, iX9_set_80, iX9_set_81, iX9_set_83, iX9_set_84, iX9_set_85, iX9_set_88, iX9_set_91, iX9_set_92, iX9_set_93, iX9_set_96, iX9_set_97, iX9_set_98, iX9_set_99, iX9_set_102, iX9_set_105, iX9_set_108, iX9_set_110, iX9_set_111, iX9_set_112, iX9_set_114, iX9_set_117, iX9_set_118, iX9_set_121, iX9_set_122, iX9_set_125, iX9_set_126, iX9_set_129, iX9_set_131, iX9_set_133, iX9_set_136, iX9_set_137, iX9_set_139, iX9_set_141, iX9_set_142, iX9_set_143, iX9_set_144, iX9_set_145, iX9_set_146, iX9_set_147, iX9_set_150, iX9_set_153, iX9_set_154, true_or, or_true, Option.bind_some, Option.bind_none, kk_hp, kn_hp, el_i, el_b, el_z, am_cat_nil, am_cat_i, am_cat_r, am_cat_l, am_cat_n, gd_i, gd_r, gd_n, gd_u, List.length_cons, List.length_nil, true_and, and_true, ↓reduceIte, Nat.zero_le, Nat.reduceLeDiff, Nat.reduceAdd, e_10, e_01, e_00, e_11, Int32.reduceLE, Int32.reduceLT, Int32.reduceAdd, Int32.reduceSub, b01, if_true, if_false, ite_self, rc_82, gf_82_0, gf_82_1, gf_82_2, gf_82_3, gf_82_4, gf_82_5, gf_82_6, pf_82_6, gf_82_7, pf_82_7, gf_82_8, pf_82_8, gf_82_9, pf_82_9, gf_82_10, pf_82_10, gf_82_11, pf_82_11, gf_82_12, pf_82_12, gf_82_13, gf_82_14, gf_82_15, gf_82_16, pf_82_16, gf_82_17, gf_82_18, gf_82_19, gf_82_20, gf_82_21, gf_82_22, gf_82_23, gf_82_24, gf_82_25, pf_82_25, ga_83, wi_83, ga_84, wi_84, ga_85, wb_85, ga_86, wi_86, ga_87, wb_87, ga_88, wi_88, ga_89, wi_89, ga_90, wi_90, ga_91, wi_91, ga_92, wi_92, ga_93, wi_93, ga_94, wi_94, ga_95, wi_95, ga_96, wb_96, ga_97, wi_97, ga_98, wi_98, ga_99, wi_99, nl_add, nl_add', nl_mul, nI_add, in_t, cl_n, le_nn, lt_nn, le_ln, le_nl, lt_nl, lt_ln, eq_nn, eq_nl, in_lit, cl_lit, Nat.le_refl, Nat.add_zero, eq_ll, Nat.reduceEqDiff, show (up (up M 6 k (nI a)) 0 8 1) 83 = M 83 from rfl, er1, show ¬ 12 < q0 + a by omega, eb]
            · refine RR_set h (u := 1) hk (by decide) ?_
              unfold itm wI tI pC pR nC
              rw [pk_us, pk_un (show 0 ≠ 26 + 6 * k + 1 by omega), pk_un (show 26 + 6 * k ≠ 26 + 6 * k + 1 by omega), pk_un (show 26 + 6 * k + 4 ≠ 26 + 6 * k + 1 by omega), pk_un (show 26 + 6 * k + 5 ≠ 26 + 6 * k + 1 by omega), nI_clamp (by omega)]
              refine ⟨⟨ww, w1, wn⟩, ⟨rfl, ha1, ha2⟩, hpc, ?_⟩
              rcases prn with z | z
              · exact Or.inl z
              · right
                rw [z, nI_clamp (by omega)]
                exact ⟨rfl, hq⟩
          · have er0 := er M
            rw [if_pos hv] at er0
            have ei := (ins (up M 6 k (nI a))).2 (fun z => by
              have z2 : pnC 12 (upd (M 6) k (nI a) k) (M 10 k) := z.2.2
              rw [pk_us, f5] at z2
              rcases prn with y | y
              · rw [pz_4 y] at hQ; omega
              · rw [y] at z2
                have := pn_no (n := 12) (by omega) (by omega) (by omega) z2
                omega)
            have er2 : up (up M 6 k (nI a)) 6 k (M 6 k) = M := by rw [up_up2, up_self]
            refine ⟨-1, M, M, ?_, ?_, h⟩
            · simp (disch := omega) only [iX8_set_0, iX8_set_1, iX8_set_2, iX8_set_5, iX8_set_8, iX8_set_9, iX8_set_10, iX8_set_11, iX8_set_14, iX8_set_17, iX8_set_18, iX8_set_19, iX8_set_20, iX8_set_23, iX8_set_24, iX8_set_25, iX8_set_28, iX8_set_29, iX8_set_30, iX8_set_33, iX8_set_36, iX8_set_37, iX8_set_38, iX8_set_39, iX8_set_42, iX8_set_45, iX8_set_46, iX8_set_47, iX8_set_48, iX8_set_49, iX8_set_51, iX8_set_52, iX8_set_55, iX8_set_58, iX8_set_59, iX8_set_60, iX8_set_61, iX8_set_62, iX8_set_63, iX8_set_64, iX8_set_67, iX8_set_68, iX8_set_71, iX8_set_74, iX8_set_75, iX8_set_78, iX8_set_81, iX8_set_82, iX8_set_83, iX8_set_84, iX8_set_86, iX8_set_87, iX8_set_88, iX8_set_89, iX8_set_90, iX8_set_91, iX8_set_94, iX8_set_96, true_or, or_true, Option.bind_some, Option.bind_none, kk_hp, kn_hp, el_i, el_b, el_z, am_cat_nil, am_cat_i, am_cat_r, am_cat_l, am_cat_n, gd_i, gd_r, gd_n, gd_u, List.length_cons, List.length_nil, true_and, and_true, ↓reduceIte, Nat.zero_le, Nat.reduceLeDiff, Nat.reduceAdd, e_10, e_01, e_00, e_11, Int32.reduceLE, Int32.reduceLT, Int32.reduceAdd, Int32.reduceSub, b01, if_true, if_false, ite_self, rc_0, gf_0_0, gf_0_1, gf_0_2, gf_0_3, gf_0_4, gf_0_5, gf_0_6, gf_0_7, gf_0_8, pf_0_8, gf_0_9, pf_0_9, rc_1, gf_1_0, pf_1_0, gf_1_1, gf_1_2, gf_1_3, pf_1_3, gf_1_4, pf_1_4, gf_1_5, pf_1_5, gf_1_6, pf_1_6, gf_1_7, pf_1_7, gf_1_8, gf_1_9, ga_6, wi_6, nl_add, nl_add', nl_mul, nI_add, in_t, cl_n, le_nn, lt_nn, le_ln, le_nl, lt_nl, lt_ln, eq_nn, eq_nl, in_lit, cl_lit, Nat.le_refl, Nat.add_zero, ga_2000, ga_2001, f1_1, hb, hbw, List.getD_cons_succ, List.getD_cons_zero, ebw, ei, er2]
            · rw [pre0]
              simp (disch := omega) only [iX9_set_68, iX9_set_69, iX9_set_72, iX9_set_73, iX9_set_74, iX9_set_75, iX9_set_76, iX9_set_79, iX9_set_80, iX9_set_81, iX9_set_83, iX9_set_84, iX9_set_85, iX9_set_88, iX9_set_91, iX9_set_92, iX9_set_93, iX9_set_96, iX9_set_97, iX9_set_98, iX9_set_99, iX9_set_102, iX9_set_105, iX9_set_108, iX9_set_110, iX9_set_111, iX9_set_112, iX9_set_114, iX9_set_117, iX9_set_118, iX9_set_121, iX9_set_122, iX9_set_125, iX9_set_126, iX9_set_129, iX9_set_131, iX9_set_133, iX9_set_136, iX9_set_137, iX9_set_139, iX9_set_141, iX9_set_142, iX9_set_143, iX9_set_144, iX9_set_145, iX9_set_146, iX9_set_147, iX9_set_150, iX9_set_153, iX9_set_154, true_or, or_true, Option.bind_some, Option.bind_none, kk_hp, kn_hp, el_i, el_b, el_z, am_cat_nil, am_cat_i, am_cat_r, am_cat_l, am_cat_n, gd_i, gd_r, gd_n, gd_u, List.length_cons, List.length_nil, true_and, and_true, ↓reduceIte, Nat.zero_le, Nat.reduceLeDiff, Nat.reduceAdd, e_10, e_01, e_00, e_11, Int32.reduceLE, Int32.reduceLT, Int32.reduceAdd, Int32.reduceSub, b01, if_true, if_false, ite_self, rc_82, gf_82_0, gf_82_1, gf_82_2, gf_82_3, gf_82_4, gf_82_5, gf_82_6, pf_82_6, gf_82_7, pf_82_7, gf_82_8, pf_82_8, gf_82_9, pf_82_9, gf_82_10, pf_82_10, gf_82_11, pf_82_11, gf_82_12, pf_82_12, gf_82_13, gf_82_14, gf_82_15, gf_82_16, pf_82_16, gf_82_17, gf_82_18, gf_82_19, gf_82_20, gf_82_21, gf_82_22, gf_82_23, gf_82_24, gf_82_25, pf_82_25, ga_83, wi_83, ga_84, wi_84, ga_85, wb_85, ga_86, wi_86, ga_87, wb_87, ga_88, wi_88, ga_89, wi_89, ga_90, wi_90, ga_91, wi_91, ga_92, wi_92, ga_93, wi_93, ga_94, wi_94, ga_95, wi_95, ga_96, wb_96, ga_97, wi_97, ga_98, wi_98, ga_99, wi_99, nl_add, nl_add', nl_mul, nI_add, in_t, cl_n, le_nn, lt_nn, le_ln, le_nl, lt_nl, lt_ln, eq_nn, eq_nl, in_lit, cl_lit, Nat.le_refl, Nat.add_zero, eq_ll, Nat.reduceEqDiff, er0, show 12 < q0 + a by omega]
        · have er0 := er M
          rw [if_neg hv] at er0 ebw
          refine ⟨-1, M, M, ?_, ?_, h⟩
          · simp (disch := omega) only [iX8_set_0, iX8_set_1, iX8_set_2, iX8_set_5, iX8_set_8, iX8_set_9, iX8_set_10, iX8_set_11, iX8_set_14, iX8_set_17, iX8_set_18, iX8_set_19, iX8_set_20, iX8_set_23, iX8_set_24, iX8_set_25, iX8_set_28, iX8_set_29, iX8_set_30, iX8_set_33, iX8_set_36, iX8_set_37, iX8_set_38, iX8_set_39, iX8_set_42, iX8_set_45, iX8_set_46, iX8_set_47, iX8_set_48, iX8_set_49, iX8_set_51, iX8_set_52, iX8_set_55, iX8_set_58, iX8_set_59, iX8_set_60, iX8_set_61, iX8_set_62, iX8_set_63, iX8_set_64, iX8_set_67, iX8_set_68, iX8_set_71, iX8_set_74, iX8_set_75, iX8_set_78, iX8_set_81, iX8_set_82, iX8_set_83, iX8_set_84, iX8_set_86, iX8_set_87, iX8_set_88, iX8_set_89, iX8_set_90, iX8_set_91, iX8_set_94, iX8_set_96, true_or, or_true, Option.bind_some, Option.bind_none, kk_hp, kn_hp, el_i, el_b, el_z, am_cat_nil, am_cat_i, am_cat_r, am_cat_l, am_cat_n, gd_i, gd_r, gd_n, gd_u, List.length_cons, List.length_nil, true_and, and_true, ↓reduceIte, Nat.zero_le, Nat.reduceLeDiff, Nat.reduceAdd, e_10, e_01, e_00, e_11, Int32.reduceLE, Int32.reduceLT, Int32.reduceAdd, Int32.reduceSub, b01, if_true, if_false, ite_self, rc_0, gf_0_0, gf_0_1, gf_0_2, gf_0_3, gf_0_4, gf_0_5, gf_0_6, gf_0_7, gf_0_8, pf_0_8, gf_0_9, pf_0_9, rc_1, gf_1_0, pf_1_0, gf_1_1, gf_1_2, gf_1_3, pf_1_3, gf_1_4, pf_1_4, gf_1_5, pf_1_5, gf_1_6, pf_1_6, gf_1_7, pf_1_7, gf_1_8, gf_1_9, ga_6, wi_6, nl_add, nl_add', nl_mul, nI_add, in_t, cl_n, le_nn, lt_nn, le_ln, le_nl, lt_nl, lt_ln, eq_nn, eq_nl, in_lit, cl_lit, Nat.le_refl, Nat.add_zero, ga_2000, ga_2001, f1_1, hb, hbw, List.getD_cons_succ, List.getD_cons_zero, ebw]
          · rw [pre0]
            simp (disch := omega) only [iX9_set_68, iX9_set_69, iX9_set_72, iX9_set_73, iX9_set_74, iX9_set_75, iX9_set_76, iX9_set_79, iX9_set_80, iX9_set_81, iX9_set_83, iX9_set_84, iX9_set_85, iX9_set_88, iX9_set_91, iX9_set_92, iX9_set_93, iX9_set_96, iX9_set_97, iX9_set_98, iX9_set_99, iX9_set_102, iX9_set_105, iX9_set_108, iX9_set_110, iX9_set_111, iX9_set_112, iX9_set_114, iX9_set_117, iX9_set_118, iX9_set_121, iX9_set_122, iX9_set_125, iX9_set_126, iX9_set_129, iX9_set_131, iX9_set_133, iX9_set_136, iX9_set_137, iX9_set_139, iX9_set_141, iX9_set_142, iX9_set_143, iX9_set_144, iX9_set_145, iX9_set_146, iX9_set_147, iX9_set_150, iX9_set_153, iX9_set_154, true_or, or_true, Option.bind_some, Option.bind_none, kk_hp, kn_hp, el_i, el_b, el_z, am_cat_nil, am_cat_i, am_cat_r, am_cat_l, am_cat_n, gd_i, gd_r, gd_n, gd_u, List.length_cons, List.length_nil, true_and, and_true, ↓reduceIte, Nat.zero_le, Nat.reduceLeDiff, Nat.reduceAdd, e_10, e_01, e_00, e_11, Int32.reduceLE, Int32.reduceLT, Int32.reduceAdd, Int32.reduceSub, b01, if_true, if_false, ite_self, rc_82, gf_82_0, gf_82_1, gf_82_2, gf_82_3, gf_82_4, gf_82_5, gf_82_6, pf_82_6, gf_82_7, pf_82_7, gf_82_8, pf_82_8, gf_82_9, pf_82_9, gf_82_10, pf_82_10, gf_82_11, pf_82_11, gf_82_12, pf_82_12, gf_82_13, gf_82_14, gf_82_15, gf_82_16, pf_82_16, gf_82_17, gf_82_18, gf_82_19, gf_82_20, gf_82_21, gf_82_22, gf_82_23, gf_82_24, gf_82_25, pf_82_25, ga_83, wi_83, ga_84, wi_84, ga_85, wb_85, ga_86, wi_86, ga_87, wb_87, ga_88, wi_88, ga_89, wi_89, ga_90, wi_90, ga_91, wi_91, ga_92, wi_92, ga_93, wi_93, ga_94, wi_94, ga_95, wi_95, ga_96, wb_96, ga_97, wi_97, ga_98, wi_98, ga_99, wi_99, nl_add, nl_add', nl_mul, nI_add, in_t, cl_n, le_nn, lt_nn, le_ln, le_nl, lt_nl, lt_ln, eq_nn, eq_nl, in_lit, cl_lit, Nat.le_refl, Nat.add_zero, eq_ll, Nat.reduceEqDiff, er0]
      have ebw := @C_isBetween X M v 0 99
      have er := fun K : Nat → Nat → Int32 => @M_isNeed X K v
      have hit : ∀ u, u = 2 ∨ u = 3 → itm (upd (M 83) (26 + 6 * k + u) v) k := by
        intro u hu
        unfold itm wI tI pC pR nC
        rw [pk_un (show 0 ≠ 26 + 6 * k + u by omega), pk_un (show 26 + 6 * k ≠ 26 + 6 * k + u by omega), pk_un (show 26 + 6 * k + 1 ≠ 26 + 6 * k + u by omega), pk_un (show 26 + 6 * k + 4 ≠ 26 + 6 * k + u by omega), pk_un (show 26 + 6 * k + 5 ≠ 26 + 6 * k + u by omega)]
        exact ⟨⟨ww, w1, wn⟩, ⟨tw, t1, t4⟩, hpc, hpr⟩
      by_cases a2 : w = 2
      · subst a2
        have pre1 := pre (up (up M 7 k v) 0 8 1) rfl
        have pre0 := pre M rfl
        by_cases hv : 0 ≤ v ∧ v ≤ 99
        · have er1 := er (up (up M 7 k v) 0 8 1)
          rw [if_pos hv] at er1 ebw
          have ei := (ins (up M 7 k v)).1 ⟨by
              show M 5 k ≤ M 1 0
              rw [r0, f0, le_nn (by omega) (by omega)]; omega, by
              show pnC (M 1 0) (M 5 k) (M 9 k)
              rw [r0, f0, f4]; exact pokC _ hp0, by
              show pnC 12 (M 6 k) (M 10 k)
              rw [f1, f5]; exact pokR _ hr0⟩
          have eb := @M_becomes X (up (up M 7 k v) 0 8 1) (26 + 6 * k + 2) v (by omega)
          rw [show (up (up M 7 k v) 0 8 1) 83 = M 83 from rfl] at eb
          refine ⟨M 83 (26 + 6 * k + 2), up (up M 7 k v) 0 8 1, up (up (up M 7 k v) 0 8 1) 83 (26 + 6 * k + 2) v, ?_, ?_, RR_set h (u := 2) hk (by decide) (hit 2 (by omega))⟩
          · rw [← f2]
            simp (disch := omega) only [iX8_set_0, iX8_set_1, iX8_set_2, iX8_set_5, iX8_set_8, iX8_set_9, iX8_set_10, iX8_set_11, iX8_set_14, iX8_set_17, iX8_set_18, iX8_set_19, iX8_set_20, iX8_set_23, iX8_set_24, iX8_set_25, iX8_set_28, iX8_set_29, iX8_set_30, iX8_set_33, iX8_set_36, iX8_set_37, iX8_set_38, iX8_set_39, iX8_set_42, iX8_set_45, iX8_set_46, iX8_set_47, iX8_set_48, iX8_set_49, iX8_set_51, iX8_set_52, iX8_set_55, iX8_set_58, iX8_set_59, iX8_set_60, iX8_set_61, iX8_set_62, iX8_set_63, iX8_set_64, iX8_set_67, iX8_set_68, iX8_set_71, iX8_set_74, iX8_set_75, iX8_set_78, iX8_set_81, iX8_set_82, iX8_set_83, iX8_set_84, iX8_set_86, iX8_set_87, iX8_set_88, iX8_set_89, iX8_set_90, iX8_set_91, iX8_set_94, iX8_set_96, true_or, or_true, Option.bind_some, Option.bind_none, kk_hp, kn_hp, el_i, el_b, el_z, am_cat_nil, am_cat_i, am_cat_r, am_cat_l, am_cat_n, gd_i, gd_r, gd_n, gd_u, List.length_cons, List.length_nil, true_and, and_true, ↓reduceIte, Nat.zero_le, Nat.reduceLeDiff, Nat.reduceAdd, e_10, e_01, e_00, e_11, Int32.reduceLE, Int32.reduceLT, Int32.reduceAdd, Int32.reduceSub, b01, if_true, if_false, ite_self, rc_0, gf_0_0, gf_0_1, gf_0_2, gf_0_3, gf_0_4, gf_0_5, gf_0_6, gf_0_7, gf_0_8, pf_0_8, gf_0_9, pf_0_9, rc_1, gf_1_0, pf_1_0, gf_1_1, gf_1_2, gf_1_3, pf_1_3, gf_1_4, pf_1_4, gf_1_5, pf_1_5, gf_1_6, pf_1_6, gf_1_7, pf_1_7, gf_1_8, gf_1_9, ga_7, wi_7, nl_add, nl_add', nl_mul, nI_add, in_t, cl_n, le_nn, lt_nn, le_ln, le_nl, lt_nl, lt_ln, eq_nn, eq_nl, in_lit, cl_lit, Nat.le_refl, Nat.add_zero, ga_2000, ga_2001, f1_2, hb, hbw, List.getD_cons_succ, List.getD_cons_zero, ebw, ei]
          · rw [pre1]
            simp (disch := omega) only [iX9_set_68, iX9_set_69, iX9_set_72, iX9_set_73, iX9_set_74, iX9_set_75, iX9_set_76, iX9_set_79, iX9_set_80, iX9_set_81, iX9_set_83, iX9_set_84, iX9_set_85, iX9_set_88, iX9_set_91, iX9_set_92, iX9_set_93, iX9_set_96, iX9_set_97, iX9_set_98, iX9_set_99, iX9_set_102, iX9_set_105, iX9_set_108, iX9_set_110, iX9_set_111, iX9_set_112, iX9_set_114, iX9_set_117, iX9_set_118, iX9_set_121, iX9_set_122, iX9_set_125, iX9_set_126, iX9_set_129, iX9_set_131, iX9_set_133, iX9_set_136, iX9_set_137, iX9_set_139, iX9_set_141, iX9_set_142, iX9_set_143, iX9_set_144, iX9_set_145, iX9_set_146, iX9_set_147, iX9_set_150, iX9_set_153, iX9_set_154, true_or, or_true, Option.bind_some, Option.bind_none, kk_hp, kn_hp, el_i, el_b, el_z, am_cat_nil, am_cat_i, am_cat_r, am_cat_l, am_cat_n, gd_i, gd_r, gd_n, gd_u, List.length_cons, List.length_nil, true_and, and_true, ↓reduceIte, Nat.zero_le, Nat.reduceLeDiff, Nat.reduceAdd, e_10, e_01, e_00, e_11, Int32.reduceLE, Int32.reduceLT, Int32.reduceAdd, Int32.reduceSub, b01, if_true, if_false, ite_self, rc_82, gf_82_0, gf_82_1, gf_82_2, gf_82_3, gf_82_4, gf_82_5, gf_82_6, pf_82_6, gf_82_7, pf_82_7, gf_82_8, pf_82_8, gf_82_9, pf_82_9, gf_82_10, pf_82_10, gf_82_11, pf_82_11, gf_82_12, pf_82_12, gf_82_13, gf_82_14, gf_82_15, gf_82_16, pf_82_16, gf_82_17, gf_82_18, gf_82_19, gf_82_20, gf_82_21, gf_82_22, gf_82_23, gf_82_24, gf_82_25, pf_82_25, ga_83, wi_83, ga_84, wi_84, ga_85, wb_85, ga_86, wi_86, ga_87, wb_87, ga_88, wi_88, ga_89, wi_89, ga_90, wi_90, ga_91, wi_91, ga_92, wi_92, ga_93, wi_93, ga_94, wi_94, ga_95, wi_95, ga_96, wb_96, ga_97, wi_97, ga_98, wi_98, ga_99, wi_99, nl_add, nl_add', nl_mul, nI_add, in_t, cl_n, le_nn, lt_nn, le_ln, le_nl, lt_nl, lt_ln, eq_nn, eq_nl, in_lit, cl_lit, Nat.le_refl, Nat.add_zero, eq_ll, Nat.reduceEqDiff, er1, eb]
        · have er0 := er M
          rw [if_neg hv] at er0 ebw
          refine ⟨-1, M, M, ?_, ?_, h⟩
          · simp (disch := omega) only [iX8_set_0, iX8_set_1, iX8_set_2, iX8_set_5, iX8_set_8, iX8_set_9, iX8_set_10, iX8_set_11, iX8_set_14, iX8_set_17, iX8_set_18, iX8_set_19, iX8_set_20, iX8_set_23, iX8_set_24, iX8_set_25, iX8_set_28, iX8_set_29, iX8_set_30, iX8_set_33, iX8_set_36, iX8_set_37, iX8_set_38, iX8_set_39, iX8_set_42, iX8_set_45, iX8_set_46, iX8_set_47, iX8_set_48, iX8_set_49, iX8_set_51, iX8_set_52, iX8_set_55, iX8_set_58, iX8_set_59, iX8_set_60, iX8_set_61, iX8_set_62, iX8_set_63, iX8_set_64, iX8_set_67, iX8_set_68, iX8_set_71, iX8_set_74, iX8_set_75, iX8_set_78, iX8_set_81, iX8_set_82, iX8_set_83, iX8_set_84, iX8_set_86, iX8_set_87, iX8_set_88, iX8_set_89, iX8_set_90, iX8_set_91, iX8_set_94, iX8_set_96, true_or, or_true, Option.bind_some, Option.bind_none, kk_hp, kn_hp, el_i, el_b, el_z, am_cat_nil, am_cat_i, am_cat_r, am_cat_l, am_cat_n, gd_i, gd_r, gd_n, gd_u, List.length_cons, List.length_nil, true_and, and_true, ↓reduceIte, Nat.zero_le, Nat.reduceLeDiff, Nat.reduceAdd, e_10, e_01, e_00, e_11, Int32.reduceLE, Int32.reduceLT, Int32.reduceAdd, Int32.reduceSub, b01, if_true, if_false, ite_self, rc_0, gf_0_0, gf_0_1, gf_0_2, gf_0_3, gf_0_4, gf_0_5, gf_0_6, gf_0_7, gf_0_8, pf_0_8, gf_0_9, pf_0_9, rc_1, gf_1_0, pf_1_0, gf_1_1, gf_1_2, gf_1_3, pf_1_3, gf_1_4, pf_1_4, gf_1_5, pf_1_5, gf_1_6, pf_1_6, gf_1_7, pf_1_7, gf_1_8, gf_1_9, ga_7, wi_7, nl_add, nl_add', nl_mul, nI_add, in_t, cl_n, le_nn, lt_nn, le_ln, le_nl, lt_nl, lt_ln, eq_nn, eq_nl, in_lit, cl_lit, Nat.le_refl, Nat.add_zero, ga_2000, ga_2001, f1_2, hb, hbw, List.getD_cons_succ, List.getD_cons_zero, ebw]
          · rw [pre0]
            simp (disch := omega) only [iX9_set_68, iX9_set_69, iX9_set_72, iX9_set_73, iX9_set_74, iX9_set_75, iX9_set_76, iX9_set_79, iX9_set_80, iX9_set_81, iX9_set_83, iX9_set_84, iX9_set_85, iX9_set_88, iX9_set_91, iX9_set_92, iX9_set_93, iX9_set_96, iX9_set_97, iX9_set_98, iX9_set_99, iX9_set_102, iX9_set_105, iX9_set_108, iX9_set_110, iX9_set_111, iX9_set_112, iX9_set_114, iX9_set_117, iX9_set_118, iX9_set_121, iX9_set_122, iX9_set_125, iX9_set_126, iX9_set_129, iX9_set_131, iX9_set_133, iX9_set_136, iX9_set_137, iX9_set_139, iX9_set_141, iX9_set_142, iX9_set_143, iX9_set_144, iX9_set_145, iX9_set_146, iX9_set_147, iX9_set_150, iX9_set_153, iX9_set_154, true_or, or_true, Option.bind_some, Option.bind_none, kk_hp, kn_hp, el_i, el_b, el_z, am_cat_nil, am_cat_i, am_cat_r, am_cat_l, am_cat_n, gd_i, gd_r, gd_n, gd_u, List.length_cons, List.length_nil, true_and, and_true, ↓reduceIte, Nat.zero_le, Nat.reduceLeDiff, Nat.reduceAdd, e_10, e_01, e_00, e_11, Int32.reduceLE, Int32.reduceLT, Int32.reduceAdd, Int32.reduceSub, b01, if_true, if_false, ite_self, rc_82, gf_82_0, gf_82_1, gf_82_2, gf_82_3, gf_82_4, gf_82_5, gf_82_6, pf_82_6, gf_82_7, pf_82_7, gf_82_8, pf_82_8, gf_82_9, pf_82_9, gf_82_10, pf_82_10, gf_82_11, pf_82_11, gf_82_12, pf_82_12, gf_82_13, gf_82_14, gf_82_15, gf_82_16, pf_82_16, gf_82_17, gf_82_18, gf_82_19, gf_82_20, gf_82_21, gf_82_22, gf_82_23, gf_82_24, gf_82_25, pf_82_25, ga_83, wi_83, ga_84, wi_84, ga_85, wb_85, ga_86, wi_86, ga_87, wb_87, ga_88, wi_88, ga_89, wi_89, ga_90, wi_90, ga_91, wi_91, ga_92, wi_92, ga_93, wi_93, ga_94, wi_94, ga_95, wi_95, ga_96, wb_96, ga_97, wi_97, ga_98, wi_98, ga_99, wi_99, nl_add, nl_add', nl_mul, nI_add, in_t, cl_n, le_nn, lt_nn, le_ln, le_nl, lt_nl, lt_ln, eq_nn, eq_nl, in_lit, cl_lit, Nat.le_refl, Nat.add_zero, eq_ll, Nat.reduceEqDiff, er0]
      have a3 : w = 3 := by
        obtain ⟨u, hu, e⟩ := b3.mp hw
        match u, hu with
        | 0, _ => exact absurd e a0
        | 1, _ => exact absurd e a1
        | 2, _ => exact absurd e a2
        | 3, _ => exact e
      subst a3
      have pre1 := pre (up (up M 8 k v) 0 8 1) rfl
      have pre0 := pre M rfl
      by_cases hv : 0 ≤ v ∧ v ≤ 99
      · have er1 := er (up (up M 8 k v) 0 8 1)
        rw [if_pos hv] at er1 ebw
        have ei := (ins (up M 8 k v)).1 ⟨by
            show M 5 k ≤ M 1 0
            rw [r0, f0, le_nn (by omega) (by omega)]; omega, by
            show pnC (M 1 0) (M 5 k) (M 9 k)
            rw [r0, f0, f4]; exact pokC _ hp0, by
            show pnC 12 (M 6 k) (M 10 k)
            rw [f1, f5]; exact pokR _ hr0⟩
        have eb := @M_becomes X (up (up M 8 k v) 0 8 1) (26 + 6 * k + 3) v (by omega)
        rw [show (up (up M 8 k v) 0 8 1) 83 = M 83 from rfl] at eb
        refine ⟨M 83 (26 + 6 * k + 3), up (up M 8 k v) 0 8 1, up (up (up M 8 k v) 0 8 1) 83 (26 + 6 * k + 3) v, ?_, ?_, RR_set h (u := 3) hk (by decide) (hit 3 (by omega))⟩
        · rw [← f3]
          simp (disch := omega) only [iX8_set_0, iX8_set_1, iX8_set_2, iX8_set_5, iX8_set_8, iX8_set_9, iX8_set_10, iX8_set_11, iX8_set_14, iX8_set_17, iX8_set_18, iX8_set_19, iX8_set_20, iX8_set_23, iX8_set_24, iX8_set_25, iX8_set_28, iX8_set_29, iX8_set_30, iX8_set_33, iX8_set_36, iX8_set_37, iX8_set_38, iX8_set_39, iX8_set_42, iX8_set_45, iX8_set_46, iX8_set_47, iX8_set_48, iX8_set_49, iX8_set_51, iX8_set_52, iX8_set_55, iX8_set_58, iX8_set_59, iX8_set_60, iX8_set_61, iX8_set_62, iX8_set_63, iX8_set_64, iX8_set_67, iX8_set_68, iX8_set_71, iX8_set_74, iX8_set_75, iX8_set_78, iX8_set_81, iX8_set_82, iX8_set_83, iX8_set_84, iX8_set_86, iX8_set_87, iX8_set_88, iX8_set_89, iX8_set_90, iX8_set_91, iX8_set_94, iX8_set_96, true_or, or_true, Option.bind_some, Option.bind_none, kk_hp, kn_hp, el_i, el_b, el_z, am_cat_nil, am_cat_i, am_cat_r, am_cat_l, am_cat_n, gd_i, gd_r, gd_n, gd_u, List.length_cons, List.length_nil, true_and, and_true, ↓reduceIte, Nat.zero_le, Nat.reduceLeDiff, Nat.reduceAdd, e_10, e_01, e_00, e_11, Int32.reduceLE, Int32.reduceLT, Int32.reduceAdd, Int32.reduceSub, b01, if_true, if_false, ite_self, rc_0, gf_0_0, gf_0_1, gf_0_2, gf_0_3, gf_0_4, gf_0_5, gf_0_6, gf_0_7, gf_0_8, pf_0_8, gf_0_9, pf_0_9, rc_1, gf_1_0, pf_1_0, gf_1_1, gf_1_2, gf_1_3, pf_1_3, gf_1_4, pf_1_4, gf_1_5, pf_1_5, gf_1_6, pf_1_6, gf_1_7, pf_1_7, gf_1_8, gf_1_9, ga_8, wi_8, nl_add, nl_add', nl_mul, nI_add, in_t, cl_n, le_nn, lt_nn, le_ln, le_nl, lt_nl, lt_ln, eq_nn, eq_nl, in_lit, cl_lit, Nat.le_refl, Nat.add_zero, ga_2000, ga_2001, f1_3, hb, hbw, List.getD_cons_succ, List.getD_cons_zero, ebw, ei]
        · rw [pre1]
          simp (disch := omega) only [iX9_set_68, iX9_set_69, iX9_set_72, iX9_set_73, iX9_set_74, iX9_set_75, iX9_set_76, iX9_set_79, iX9_set_80, iX9_set_81, iX9_set_83, iX9_set_84, iX9_set_85, iX9_set_88, iX9_set_91, iX9_set_92, iX9_set_93, iX9_set_96, iX9_set_97, iX9_set_98, iX9_set_99, iX9_set_102, iX9_set_105, iX9_set_108, iX9_set_110, iX9_set_111, iX9_set_112, iX9_set_114, iX9_set_117, iX9_set_118, iX9_set_121, iX9_set_122, iX9_set_125, iX9_set_126, iX9_set_129, iX9_set_131, iX9_set_133, iX9_set_136, iX9_set_137, iX9_set_139, iX9_set_141, iX9_set_142, iX9_set_143, iX9_set_144, iX9_set_145, iX9_set_146, iX9_set_147, iX9_set_150, iX9_set_153, iX9_set_154, true_or, or_true, Option.bind_some, Option.bind_none, kk_hp, kn_hp, el_i, el_b, el_z, am_cat_nil, am_cat_i, am_cat_r, am_cat_l, am_cat_n, gd_i, gd_r, gd_n, gd_u, List.length_cons, List.length_nil, true_and, and_true, ↓reduceIte, Nat.zero_le, Nat.reduceLeDiff, Nat.reduceAdd, e_10, e_01, e_00, e_11, Int32.reduceLE, Int32.reduceLT, Int32.reduceAdd, Int32.reduceSub, b01, if_true, if_false, ite_self, rc_82, gf_82_0, gf_82_1, gf_82_2, gf_82_3, gf_82_4, gf_82_5, gf_82_6, pf_82_6, gf_82_7, pf_82_7, gf_82_8, pf_82_8, gf_82_9, pf_82_9, gf_82_10, pf_82_10, gf_82_11, pf_82_11, gf_82_12, pf_82_12, gf_82_13, gf_82_14, gf_82_15, gf_82_16, pf_82_16, gf_82_17, gf_82_18, gf_82_19, gf_82_20, gf_82_21, gf_82_22, gf_82_23, gf_82_24, gf_82_25, pf_82_25, ga_83, wi_83, ga_84, wi_84, ga_85, wb_85, ga_86, wi_86, ga_87, wb_87, ga_88, wi_88, ga_89, wi_89, ga_90, wi_90, ga_91, wi_91, ga_92, wi_92, ga_93, wi_93, ga_94, wi_94, ga_95, wi_95, ga_96, wb_96, ga_97, wi_97, ga_98, wi_98, ga_99, wi_99, nl_add, nl_add', nl_mul, nI_add, in_t, cl_n, le_nn, lt_nn, le_ln, le_nl, lt_nl, lt_ln, eq_nn, eq_nl, in_lit, cl_lit, Nat.le_refl, Nat.add_zero, eq_ll, Nat.reduceEqDiff, er1, eb]
      · have er0 := er M
        rw [if_neg hv] at er0 ebw
        refine ⟨-1, M, M, ?_, ?_, h⟩
        · simp (disch := omega) only [iX8_set_0, iX8_set_1, iX8_set_2, iX8_set_5, iX8_set_8, iX8_set_9, iX8_set_10, iX8_set_11, iX8_set_14, iX8_set_17, iX8_set_18, iX8_set_19, iX8_set_20, iX8_set_23, iX8_set_24, iX8_set_25, iX8_set_28, iX8_set_29, iX8_set_30, iX8_set_33, iX8_set_36, iX8_set_37, iX8_set_38, iX8_set_39, iX8_set_42, iX8_set_45, iX8_set_46, iX8_set_47, iX8_set_48, iX8_set_49, iX8_set_51, iX8_set_52, iX8_set_55, iX8_set_58, iX8_set_59, iX8_set_60, iX8_set_61, iX8_set_62, iX8_set_63, iX8_set_64, iX8_set_67, iX8_set_68, iX8_set_71, iX8_set_74, iX8_set_75, iX8_set_78, iX8_set_81, iX8_set_82, iX8_set_83, iX8_set_84, iX8_set_86, iX8_set_87, iX8_set_88, iX8_set_89, iX8_set_90, iX8_set_91, iX8_set_94, iX8_set_96, true_or, or_true, Option.bind_some, Option.bind_none, kk_hp, kn_hp, el_i, el_b, el_z, am_cat_nil, am_cat_i, am_cat_r, am_cat_l, am_cat_n, gd_i, gd_r, gd_n, gd_u, List.length_cons, List.length_nil, true_and, and_true, ↓reduceIte, Nat.zero_le, Nat.reduceLeDiff, Nat.reduceAdd, e_10, e_01, e_00, e_11, Int32.reduceLE, Int32.reduceLT, Int32.reduceAdd, Int32.reduceSub, b01, if_true, if_false, ite_self, rc_0, gf_0_0, gf_0_1, gf_0_2, gf_0_3, gf_0_4, gf_0_5, gf_0_6, gf_0_7, gf_0_8, pf_0_8, gf_0_9, pf_0_9, rc_1, gf_1_0, pf_1_0, gf_1_1, gf_1_2, gf_1_3, pf_1_3, gf_1_4, pf_1_4, gf_1_5, pf_1_5, gf_1_6, pf_1_6, gf_1_7, pf_1_7, gf_1_8, gf_1_9, ga_8, wi_8, nl_add, nl_add', nl_mul, nI_add, in_t, cl_n, le_nn, lt_nn, le_ln, le_nl, lt_nl, lt_ln, eq_nn, eq_nl, in_lit, cl_lit, Nat.le_refl, Nat.add_zero, ga_2000, ga_2001, f1_3, hb, hbw, List.getD_cons_succ, List.getD_cons_zero, ebw]
        · rw [pre0]
          simp (disch := omega) only [iX9_set_68, iX9_set_69, iX9_set_72, iX9_set_73, iX9_set_74, iX9_set_75, iX9_set_76, iX9_set_79, iX9_set_80, iX9_set_81, iX9_set_83, iX9_set_84, iX9_set_85, iX9_set_88, iX9_set_91, iX9_set_92, iX9_set_93, iX9_set_96, iX9_set_97, iX9_set_98, iX9_set_99, iX9_set_102, iX9_set_105, iX9_set_108, iX9_set_110, iX9_set_111, iX9_set_112, iX9_set_114, iX9_set_117, iX9_set_118, iX9_set_121, iX9_set_122, iX9_set_125, iX9_set_126, iX9_set_129, iX9_set_131, iX9_set_133, iX9_set_136, iX9_set_137, iX9_set_139, iX9_set_141, iX9_set_142, iX9_set_143, iX9_set_144, iX9_set_145, iX9_set_146, iX9_set_147, iX9_set_150, iX9_set_153, iX9_set_154, true_or, or_true, Option.bind_some, Option.bind_none, kk_hp, kn_hp, el_i, el_b, el_z, am_cat_nil, am_cat_i, am_cat_r, am_cat_l, am_cat_n, gd_i, gd_r, gd_n, gd_u, List.length_cons, List.length_nil, true_and, and_true, ↓reduceIte, Nat.zero_le, Nat.reduceLeDiff, Nat.reduceAdd, e_10, e_01, e_00, e_11, Int32.reduceLE, Int32.reduceLT, Int32.reduceAdd, Int32.reduceSub, b01, if_true, if_false, ite_self, rc_82, gf_82_0, gf_82_1, gf_82_2, gf_82_3, gf_82_4, gf_82_5, gf_82_6, pf_82_6, gf_82_7, pf_82_7, gf_82_8, pf_82_8, gf_82_9, pf_82_9, gf_82_10, pf_82_10, gf_82_11, pf_82_11, gf_82_12, pf_82_12, gf_82_13, gf_82_14, gf_82_15, gf_82_16, pf_82_16, gf_82_17, gf_82_18, gf_82_19, gf_82_20, gf_82_21, gf_82_22, gf_82_23, gf_82_24, gf_82_25, pf_82_25, ga_83, wi_83, ga_84, wi_84, ga_85, wb_85, ga_86, wi_86, ga_87, wb_87, ga_88, wi_88, ga_89, wi_89, ga_90, wi_90, ga_91, wi_91, ga_92, wi_92, ga_93, wi_93, ga_94, wi_94, ga_95, wi_95, ga_96, wb_96, ga_97, wi_97, ga_98, wi_98, ga_99, wi_99, nl_add, nl_add', nl_mul, nI_add, in_t, cl_n, le_nn, lt_nn, le_ln, le_nl, lt_nl, lt_ln, eq_nn, eq_nl, in_lit, cl_lit, Nat.le_refl, Nat.add_zero, eq_ll, Nat.reduceEqDiff, er0]
    · rw [if_neg hw] at hbw
      have hr := @M_itm1 X M k (mI (M 83)) h.1.2.1.1 hk (by omega)
      have hi := @M_in X M w.toInt64 0 3
      simp (disch := decide) only [wl, wl_l, wl_r] at hi
      rw [if_neg hw] at hi
      refine ⟨-1, M, M, ?_, ?_, h⟩
      · simp (disch := omega) only [iX8_set_0, iX8_set_1, iX8_set_2, iX8_set_5, iX8_set_8, iX8_set_9, iX8_set_10, iX8_set_11, iX8_set_14, iX8_set_17, iX8_set_18, iX8_set_19, iX8_set_20, iX8_set_23, iX8_set_24, iX8_set_25, iX8_set_28, iX8_set_29, iX8_set_30, iX8_set_33, iX8_set_36, iX8_set_37, iX8_set_38, iX8_set_39, iX8_set_42, iX8_set_45, iX8_set_46, iX8_set_47, iX8_set_48, iX8_set_49, iX8_set_51, iX8_set_52, iX8_set_55, iX8_set_58, iX8_set_59, iX8_set_60, iX8_set_61, iX8_set_62, iX8_set_63, iX8_set_64, iX8_set_67, iX8_set_68, iX8_set_71, iX8_set_74, iX8_set_75, iX8_set_78, iX8_set_81, iX8_set_82, iX8_set_83, iX8_set_84, iX8_set_86, iX8_set_87, iX8_set_88, iX8_set_89, iX8_set_90, iX8_set_91, iX8_set_94, iX8_set_96, true_or, or_true, Option.bind_some, Option.bind_none, kk_hp, kn_hp, el_i, el_b, el_z, am_cat_nil, am_cat_i, am_cat_r, am_cat_l, am_cat_n, gd_i, gd_r, gd_n, gd_u, List.length_cons, List.length_nil, true_and, and_true, ↓reduceIte, Nat.zero_le, Nat.reduceLeDiff, Nat.reduceAdd, e_10, e_01, e_00, e_11, Int32.reduceLE, Int32.reduceLT, Int32.reduceAdd, Int32.reduceSub, b01, if_true, if_false, ite_self, rc_0, gf_0_0, gf_0_1, gf_0_2, gf_0_3, gf_0_4, gf_0_5, gf_0_6, gf_0_7, gf_0_8, pf_0_8, gf_0_9, pf_0_9, rc_1, gf_1_0, pf_1_0, gf_1_1, gf_1_2, gf_1_3, pf_1_3, gf_1_4, pf_1_4, gf_1_5, pf_1_5, gf_1_6, pf_1_6, gf_1_7, pf_1_7, gf_1_8, gf_1_9, nl_add, nl_add', nl_mul, nI_add, in_t, cl_n, le_nn, lt_nn, le_ln, le_nl, lt_nl, lt_ln, eq_nn, eq_nl, in_lit, cl_lit, Nat.le_refl, Nat.add_zero, hb, hbw]
      · simp (disch := omega) only [iX9_set_0, iX9_set_1, iX9_set_2, iX9_set_5, iX9_set_8, iX9_set_9, iX9_set_10, iX9_set_11, iX9_set_14, iX9_set_17, iX9_set_20, iX9_set_21, iX9_set_22, iX9_set_23, iX9_set_24, iX9_set_25, iX9_set_28, iX9_set_30, iX9_set_33, iX9_set_34, iX9_set_37, iX9_set_38, iX9_set_39, iX9_set_40, iX9_set_43, iX9_set_45, iX9_set_46, iX9_set_47, iX9_set_48, iX9_set_51, iX9_set_53, iX9_set_56, iX9_set_57, iX9_set_60, iX9_set_61, iX9_set_62, iX9_set_63, iX9_set_66, iX9_set_68, iX9_set_69, iX9_set_72, iX9_set_73, iX9_set_74, iX9_set_75, iX9_set_76, iX9_set_79, iX9_set_80, iX9_set_81, iX9_set_83, iX9_set_84, iX9_set_85, iX9_set_88, iX9_set_91, iX9_set_92, iX9_set_93, iX9_set_96, iX9_set_97, iX9_set_98, iX9_set_99, iX9_set_102, iX9_set_105, iX9_set_108, iX9_set_110, iX9_set_111, iX9_set_112, iX9_set_114, iX9_set_117, iX9_set_118, iX9_set_121, iX9_set_122, iX9_set_125, iX9_set_126, iX9_set_129, iX9_set_131, iX9_set_133, iX9_set_136, iX9_set_137, iX9_set_139, iX9_set_141, iX9_set_142, iX9_set_143, iX9_set_144, iX9_set_145, iX9_set_146, iX9_set_147, iX9_set_150, iX9_set_153, iX9_set_154, true_or, or_true, Option.bind_some, Option.bind_none, kk_hp, kn_hp, el_i, el_b, el_z, am_cat_nil, am_cat_i, am_cat_r, am_cat_l, am_cat_n, gd_i, gd_r, gd_n, gd_u, List.length_cons, List.length_nil, true_and, and_true, ↓reduceIte, Nat.zero_le, Nat.reduceLeDiff, Nat.reduceAdd, e_10, e_01, e_00, e_11, Int32.reduceLE, Int32.reduceLT, Int32.reduceAdd, Int32.reduceSub, b01, if_true, if_false, ite_self, rc_82, gf_82_0, gf_82_1, gf_82_2, gf_82_3, gf_82_4, gf_82_5, gf_82_6, pf_82_6, gf_82_7, pf_82_7, gf_82_8, pf_82_8, gf_82_9, pf_82_9, gf_82_10, pf_82_10, gf_82_11, pf_82_11, gf_82_12, pf_82_12, gf_82_13, gf_82_14, gf_82_15, gf_82_16, pf_82_16, gf_82_17, gf_82_18, gf_82_19, gf_82_20, gf_82_21, gf_82_22, gf_82_23, gf_82_24, gf_82_25, pf_82_25, ga_83, wi_83, ga_84, wi_84, ga_85, wb_85, ga_86, wi_86, ga_87, wb_87, ga_88, wi_88, ga_89, wi_89, ga_90, wi_90, ga_91, wi_91, ga_92, wi_92, ga_93, wi_93, ga_94, wi_94, ga_95, wi_95, ga_96, wb_96, ga_97, wi_97, ga_98, wi_98, ga_99, wi_99, nl_add, nl_add', nl_mul, nI_add, in_t, cl_n, le_nn, lt_nn, le_ln, le_nl, lt_nl, lt_ln, eq_nn, eq_nl, in_lit, cl_lit, Nat.le_refl, Nat.add_zero, hr, hi]
  · have hb := @C_itm0 X M i (mI (M 83)) q7 (by omega) hno
    have hr := @M_itm0 X M i (mI (M 83)) h.1.2.1.1 (by omega) hno
    refine ⟨-1, M, M, ?_, ?_, h⟩
    · simp (disch := omega) only [iX8_set_0, iX8_set_1, iX8_set_2, iX8_set_5, iX8_set_8, iX8_set_9, iX8_set_10, iX8_set_11, iX8_set_14, iX8_set_17, iX8_set_18, iX8_set_19, iX8_set_20, iX8_set_23, iX8_set_24, iX8_set_25, iX8_set_28, iX8_set_29, iX8_set_30, iX8_set_33, iX8_set_36, iX8_set_37, iX8_set_38, iX8_set_39, iX8_set_42, iX8_set_45, iX8_set_46, iX8_set_47, iX8_set_48, iX8_set_49, iX8_set_51, iX8_set_52, iX8_set_55, iX8_set_58, iX8_set_59, iX8_set_60, iX8_set_61, iX8_set_62, iX8_set_63, iX8_set_64, iX8_set_67, iX8_set_68, iX8_set_71, iX8_set_74, iX8_set_75, iX8_set_78, iX8_set_81, iX8_set_82, iX8_set_83, iX8_set_84, iX8_set_86, iX8_set_87, iX8_set_88, iX8_set_89, iX8_set_90, iX8_set_91, iX8_set_94, iX8_set_96, true_or, or_true, Option.bind_some, Option.bind_none, kk_hp, kn_hp, el_i, el_b, el_z, am_cat_nil, am_cat_i, am_cat_r, am_cat_l, am_cat_n, gd_i, gd_r, gd_n, gd_u, List.length_cons, List.length_nil, true_and, and_true, ↓reduceIte, Nat.zero_le, Nat.reduceLeDiff, Nat.reduceAdd, e_10, e_01, e_00, e_11, Int32.reduceLE, Int32.reduceLT, Int32.reduceAdd, Int32.reduceSub, b01, if_true, if_false, ite_self, rc_0, gf_0_0, gf_0_1, gf_0_2, gf_0_3, gf_0_4, gf_0_5, gf_0_6, gf_0_7, gf_0_8, pf_0_8, gf_0_9, pf_0_9, rc_1, gf_1_0, pf_1_0, gf_1_1, gf_1_2, gf_1_3, pf_1_3, gf_1_4, pf_1_4, gf_1_5, pf_1_5, gf_1_6, pf_1_6, gf_1_7, pf_1_7, gf_1_8, gf_1_9, nl_add, nl_add', nl_mul, nI_add, in_t, cl_n, le_nn, lt_nn, le_ln, le_nl, lt_nl, lt_ln, eq_nn, eq_nl, in_lit, cl_lit, Nat.le_refl, Nat.add_zero, hb]
    · simp (disch := omega) only [iX9_set_0, iX9_set_1, iX9_set_2, iX9_set_5, iX9_set_8, iX9_set_9, iX9_set_10, iX9_set_11, iX9_set_14, iX9_set_17, iX9_set_20, iX9_set_21, iX9_set_22, iX9_set_23, iX9_set_24, iX9_set_25, iX9_set_28, iX9_set_30, iX9_set_33, iX9_set_34, iX9_set_37, iX9_set_38, iX9_set_39, iX9_set_40, iX9_set_43, iX9_set_45, iX9_set_46, iX9_set_47, iX9_set_48, iX9_set_51, iX9_set_53, iX9_set_56, iX9_set_57, iX9_set_60, iX9_set_61, iX9_set_62, iX9_set_63, iX9_set_66, iX9_set_68, iX9_set_69, iX9_set_72, iX9_set_73, iX9_set_74, iX9_set_75, iX9_set_76, iX9_set_79, iX9_set_80, iX9_set_81, iX9_set_83, iX9_set_84, iX9_set_85, iX9_set_88, iX9_set_91, iX9_set_92, iX9_set_93, iX9_set_96, iX9_set_97, iX9_set_98, iX9_set_99, iX9_set_102, iX9_set_105, iX9_set_108, iX9_set_110, iX9_set_111, iX9_set_112, iX9_set_114, iX9_set_117, iX9_set_118, iX9_set_121, iX9_set_122, iX9_set_125, iX9_set_126, iX9_set_129, iX9_set_131, iX9_set_133, iX9_set_136, iX9_set_137, iX9_set_139, iX9_set_141, iX9_set_142, iX9_set_143, iX9_set_144, iX9_set_145, iX9_set_146, iX9_set_147, iX9_set_150, iX9_set_153, iX9_set_154, true_or, or_true, Option.bind_some, Option.bind_none, kk_hp, kn_hp, el_i, el_b, el_z, am_cat_nil, am_cat_i, am_cat_r, am_cat_l, am_cat_n, gd_i, gd_r, gd_n, gd_u, List.length_cons, List.length_nil, true_and, and_true, ↓reduceIte, Nat.zero_le, Nat.reduceLeDiff, Nat.reduceAdd, e_10, e_01, e_00, e_11, Int32.reduceLE, Int32.reduceLT, Int32.reduceAdd, Int32.reduceSub, b01, if_true, if_false, ite_self, rc_82, gf_82_0, gf_82_1, gf_82_2, gf_82_3, gf_82_4, gf_82_5, gf_82_6, pf_82_6, gf_82_7, pf_82_7, gf_82_8, pf_82_8, gf_82_9, pf_82_9, gf_82_10, pf_82_10, gf_82_11, pf_82_11, gf_82_12, pf_82_12, gf_82_13, gf_82_14, gf_82_15, gf_82_16, pf_82_16, gf_82_17, gf_82_18, gf_82_19, gf_82_20, gf_82_21, gf_82_22, gf_82_23, gf_82_24, gf_82_25, pf_82_25, ga_83, wi_83, ga_84, wi_84, ga_85, wb_85, ga_86, wi_86, ga_87, wb_87, ga_88, wi_88, ga_89, wi_89, ga_90, wi_90, ga_91, wi_91, ga_92, wi_92, ga_93, wi_93, ga_94, wi_94, ga_95, wi_95, ga_96, wb_96, ga_97, wi_97, ga_98, wi_98, ga_99, wi_99, nl_add, nl_add', nl_mul, nI_add, in_t, cl_n, le_nn, lt_nn, le_ln, le_nl, lt_nl, lt_ln, eq_nn, eq_nl, in_lit, cl_lit, Nat.le_refl, Nat.add_zero, hr]
end S78
