/-! images -/
theorem wf_86 {s s' : Nat → Int32} (h : wf s) (e : ∀ j, j < 86 → s' j = s j) : wf s' := by
  have e0 : s' 0 = s 0 := e 0 (by omega)
  have e25 : s' 25 = s 25 := e 25 (by omega)
  have en : nC s' = nC s := by unfold nC; rw [e0]
  have em : mI s' = mI s := by unfold mI; rw [e25]
  obtain ⟨h1, h2, h3, h4⟩ := h
  have := h1.2
  have := h2.2
  refine ⟨by rw [e0, en]; exact h1, by rw [e25, em]; exact h2, fun i hi => ?_, fun c hc => ?_⟩
  · rw [em] at hi
    exact itm_mv (h3 i hi) e0 (fun w hw => e _ (by omega))
  · rw [en] at hc
    rw [e (5 + c) (by omega), e (11 + c) (by omega)]
    exact h4 c hc
theorem RG_86 {M : Nat → Nat → Int32} {g : Nat} {s s' : Nat → Int32} (h : RG M g s) (hn : nC s ≤ 6) (hm : mI s ≤ 10) (e : ∀ j, j < 86 → s' j = s j) : RG M g s' := by
  have en : nC s' = nC s := by unfold nC; rw [e 0 (by omega)]
  have em : mI s' = mI s := by unfold mI; rw [e 25 (by omega)]
  obtain ⟨h1, h2, h3, h4⟩ := h
  refine ⟨?_, fun c hc => ?_, fun v hv => ?_, fun i hi w hw => ?_⟩
  · rw [e 0 (by omega), e 1 (by omega), e 2 (by omega), e 3 (by omega), e 4 (by omega), e 25 (by omega)]; exact h1
  · rw [en] at hc
    rw [e (5 + c) (by omega), e (11 + c) (by omega)]; exact h2 c hc
  · rw [e (17 + v) (by omega)]; exact h3 v hv
  · rw [em] at hi
    rw [e _ (by omega)]; exact h4 i hi w hw
theorem cpy_fil (f g : Nat → Int32) (N : Nat) : va_cpy f g 0 0 N = fil g f N := by
  funext k
  unfold va_cpy fil
  by_cases h : k < N
  · rw [if_pos (by omega), if_pos h, Nat.zero_add, Nat.sub_zero]
  · rw [if_neg (by omega), if_neg h]
section S81
variable {X : am_X} {M : Nat → Nat → Int32}
theorem cp_become {pc a b N : Nat} {n : Int32} {l0 l1 l2 : Value} (hi : am_ins kX1_become pc = some (.invokestatic 51, 3)) (hla : am_lay[a]? = some (0, N, [])) (hlb : am_lay[b]? = some (0, N, [])) (hN : N < 1000) (hn : n = nI N) : am_ev X kX1_become pc [l0, l1, l2] [.int n, .int 0, .ref a, .int 0, .ref b] (hp M) = am_ev X kX1_become (pc + 3) [l0, l1, l2] [] (hp (ua M a (fil (M a) (M b) N))) := by
  have e : ∀ f, am_cel (0, N, []) f = .inl (0, N, .inl f) := fun f => rfl
  subst hn
  have hz : (0 : Int32).toNatClampNeg = 0 := by decide
  have hcl : (nI N).toNatClampNeg = N := nI_clamp (by omega)
  rw [e_cpy (n0 := N) (n1 := N) (f := M b) (g := M a) hi oc_X1_become (by decide +kernel) (q := 614) (by decide +kernel) (lc := am_lc kX1_become) (ml := 3) ⟨by decide +kernel, rfl, by decide +kernel⟩ (by decide +kernel) rfl (by rw [hp_at, hlb, Option.map_some, e]) (by rw [hp_at, hla, Option.map_some, e]) (by decide) (by decide) (Int32.not_lt.mpr (by rw [le_ln (by omega) (by decide)]; exact Nat.zero_le N)) (by rw [hcl, hz]; omega) (by rw [hcl, hz]; omega), hcl, hz, cpy_fil, hp_set hla (e _)]
theorem isG_far {g o : Nat} (hg : isG g) (ho : isG o) (hne : g ≠ o) : g + 11 ≤ o ∨ o + 11 ≤ g := by
  rcases hg with rfl | rfl | rfl | rfl <;> rcases ho with rfl | rfl | rfl | rfl <;> omega
theorem C_become {g o : Nat} (hg : isG g) (ho : isG o) (hne : g ≠ o) : ∃ M', am_ev X kX1_become 0 [.ref g, .ref o, am_u] [] (hp M) = some (none, hp M') ∧ (∀ x, ¬ (g ≤ x ∧ x ≤ g + 10) → M' x = M x) ∧ ∀ s, nC s ≤ 6 → mI s ≤ 10 → RG M o s → RG M' g s := by
  have hf := isG_far hg ho hne
  have c20 := fun K : Nat → Nat → Int32 => @cp_become X K 20 (g + 1) (o + 1) 6 6 (.ref g) (.ref o) am_u (by decide +kernel) (layGk hg) (layGk ho) (by decide) rfl
  have c35 := fun K : Nat → Nat → Int32 => @cp_become X K 35 (g + 2) (o + 2) 6 6 (.ref g) (.ref o) am_u (by decide +kernel) (layGn hg) (layGn ho) (by decide) rfl
  generalize hK1 : up (up (up (up (up (ua (ua (up M g 0 (M o 0)) (g + 1) (fil (M (g + 1)) (M (o + 1)) 6)) (g + 2) (fil (M (g + 2)) (M (o + 2)) 6)) g 3 (M o 3)) g 4 (M o 4)) g 5 (M o 5)) g 6 (M o 6)) g 7 (M o 7) = K1
  have e1 : am_ev X kX1_become 0 [.ref g, .ref o, am_u] [] (hp M) = am_ev X kX1_become 80 [.ref g, .ref o, .int 0] [] (hp K1) := by
    rw [← hK1]
    simp (disch := omega) only [iX1_become_0, iX1_become_1, iX1_become_2, iX1_become_5, iX1_become_8, iX1_become_9, iX1_become_12, iX1_become_13, iX1_become_14, iX1_become_17, iX1_become_18, iX1_become_23, iX1_become_24, iX1_become_27, iX1_become_28, iX1_become_29, iX1_become_32, iX1_become_33, iX1_become_38, iX1_become_39, iX1_become_40, iX1_become_43, iX1_become_46, iX1_become_47, iX1_become_48, iX1_become_51, iX1_become_54, iX1_become_55, iX1_become_56, iX1_become_59, iX1_become_62, iX1_become_63, iX1_become_64, iX1_become_67, iX1_become_70, iX1_become_71, iX1_become_72, iX1_become_75, iX1_become_78, iX1_become_79, true_or, or_true, Option.bind_some, Option.bind_none, kk_hp, kn_hp, el_i, el_b, el_z, am_cat_nil, am_cat_i, am_cat_r, am_cat_l, am_cat_n, gd_i, gd_r, gd_n, gd_u, List.length_cons, List.length_nil, true_and, and_true, ↓reduceIte, Nat.zero_le, Nat.reduceLeDiff, Nat.reduceAdd, e_10, e_01, e_00, e_11, Int32.reduceLE, Int32.reduceLT, Int32.reduceAdd, Int32.reduceSub, b01, if_true, if_false, ite_self, nl_add, nl_add', nl_mul, nI_add, in_t, cl_n, le_nn, lt_nn, le_ln, le_nl, lt_nl, lt_ln, eq_nn, eq_nl, in_lit, cl_lit, Nat.le_refl, Nat.add_zero, rcG hg, rcG ho, gG0 ho, gG1 ho, gG2 ho, gG3 ho, gG4 ho, gG5 ho, gG6 ho, gG7 ho, gG1 hg, gG2 hg, pG0 hg, pG3 hg, pG4 hg, pG5 hg, pG6 hg, pG7 hg, c20, c35, up_n, ua_n]
  have kx : ∀ x, x ≠ g → x ≠ g + 1 → x ≠ g + 2 → K1 x = M x := fun x h0 h1 h2 => by
    rw [← hK1, up_n _ _ _ h0, up_n _ _ _ h0, up_n _ _ _ h0, up_n _ _ _ h0, up_n _ _ _ h0, ua_n _ _ h2, ua_n _ _ h1, up_n _ _ _ h0]
  have kg : K1 g = upd (upd (upd (upd (upd (upd (M g) 0 (M o 0)) 3 (M o 3)) 4 (M o 4)) 5 (M o 5)) 6 (M o 6)) 7 (M o 7) := by
    rw [← hK1, up_s, up_s, up_s, up_s, up_s, ua_n _ _ (by omega), ua_n _ _ (by omega), up_s]
  have k1 : K1 (g + 1) = fil (M (g + 1)) (M (o + 1)) 6 := by
    rw [← hK1, up_n _ _ _ (by omega), up_n _ _ _ (by omega), up_n _ _ _ (by omega), up_n _ _ _ (by omega), up_n _ _ _ (by omega), ua_n _ _ (by omega), ua_s]
  have k2 : K1 (g + 2) = fil (M (g + 2)) (M (o + 2)) 6 := by
    rw [← hK1, up_n _ _ _ (by omega), up_n _ _ _ (by omega), up_n _ _ _ (by omega), up_n _ _ _ (by omega), up_n _ _ _ (by omega), ua_s]
  have hlp := loop_inv (fun u K => am_ev X kX1_become 80 [.ref g, .ref o, .int (nI u)] [] (hp K)) (fun u K => (∀ x, ¬ (g + 4 ≤ x ∧ x ≤ g + 9) → K x = K1 x) ∧ ∀ w, w < 6 → K (g + 4 + w) = if w < u then fil (M (g + 4 + w)) (M (o + 4 + w)) 10 else M (g + 4 + w)) 0 6 (by omega) K1 ⟨fun _ _ => rfl, fun w hw => by rw [if_neg (by omega)]; exact kx _ (by omega) (by omega) (by omega)⟩ ?_
  · obtain ⟨K2, e2, f2, g2⟩ := hlp
    have c123 := @cp_become X K2 123 (g + 10) (o + 10) 8 8 (.ref g) (.ref o) (.int (nI 6)) (by decide +kernel) (layGl hg) (layGl ho) (by decide) rfl
    refine ⟨ua K2 (g + 10) (fil (K2 (g + 10)) (K2 (o + 10)) 8), ?_, fun x hx => ?_, fun s hn hm hR => ?_⟩
    · rw [nI_0] at e2
      rw [e1, e2]
      simp (disch := omega) only [iX1_become_80, iX1_become_81, iX1_become_83, iX1_become_111, iX1_become_112, iX1_become_115, iX1_become_116, iX1_become_117, iX1_become_120, iX1_become_121, iX1_become_126, true_or, or_true, Option.bind_some, Option.bind_none, kk_hp, kn_hp, el_i, el_b, el_z, am_cat_nil, am_cat_i, am_cat_r, am_cat_l, am_cat_n, gd_i, gd_r, gd_n, gd_u, List.length_cons, List.length_nil, true_and, and_true, ↓reduceIte, Nat.zero_le, Nat.reduceLeDiff, Nat.reduceAdd, e_10, e_01, e_00, e_11, Int32.reduceLE, Int32.reduceLT, Int32.reduceAdd, Int32.reduceSub, b01, if_true, if_false, ite_self, nl_add, nl_add', nl_mul, nI_add, in_t, cl_n, le_nn, lt_nn, le_ln, le_nl, lt_nl, lt_ln, eq_nn, eq_nl, in_lit, cl_lit, Nat.le_refl, Nat.add_zero, gG9 hg, gG9 ho, c123]
    · rw [ua_n _ _ (by omega), f2 x (by omega), kx x (by omega) (by omega) (by omega)]
    · obtain ⟨r1, r2, r3, r4⟩ := hR
      refine ⟨?_, fun c hc => ?_, fun v hv => ?_, fun i hi w hw => ?_⟩
      · rw [ua_n _ _ (by omega), f2 g (by omega), kg]
        exact r1
      · rw [ua_n _ _ (by omega), ua_n _ _ (by omega), f2 (g + 1) (by omega), f2 (g + 2) (by omega), k1, k2, fil_in (by omega), fil_in (by omega)]
        exact r2 c hc
      · rw [ua_s, fil_in hv, f2 (o + 10) (by omega), kx (o + 10) (by omega) (by omega) (by omega)]
        exact r3 v hv
      · rw [ua_n _ _ (by omega), g2 w hw, if_pos hw, fil_in (by omega)]
        exact r4 i hi w hw
  intro u K _ hu ⟨f2, g2⟩
  have c102 := @cp_become X K 102 (g + 4 + u) (o + 4 + u) 10 10 (.ref g) (.ref o) (.int (nI u)) (by decide +kernel) (layGr hg hu) (layGr ho hu) (by decide) rfl
  have ko : K (o + 4 + u) = M (o + 4 + u) := by rw [f2 _ (by omega), kx _ (by omega) (by omega) (by omega)]
  have kgu : K (g + 4 + u) = M (g + 4 + u) := by rw [g2 u hu, if_neg (by omega)]
  refine ⟨ua K (g + 4 + u) (fil (K (g + 4 + u)) (K (o + 4 + u)) 10), ?_, fun x hx => by rw [ua_n _ _ (by omega)]; exact f2 x hx, fun w hw => ?_⟩
  · conv => lhs; rw [iX1_become_80]
    simp (disch := omega) only [iX1_become_81, iX1_become_83, iX1_become_86, iX1_become_87, iX1_become_90, iX1_become_91, iX1_become_92, iX1_become_93, iX1_become_94, iX1_become_97, iX1_become_98, iX1_become_99, iX1_become_100, iX1_become_105, iX1_become_108, true_or, or_true, Option.bind_some, Option.bind_none, kk_hp, kn_hp, el_i, el_b, el_z, am_cat_nil, am_cat_i, am_cat_r, am_cat_l, am_cat_n, gd_i, gd_r, gd_n, gd_u, List.length_cons, List.length_nil, true_and, and_true, ↓reduceIte, Nat.zero_le, Nat.reduceLeDiff, Nat.reduceAdd, e_10, e_01, e_00, e_11, Int32.reduceLE, Int32.reduceLT, Int32.reduceAdd, Int32.reduceSub, b01, if_true, if_false, ite_self, nl_add, nl_add', nl_mul, nI_add, in_t, cl_n, le_nn, lt_nn, le_ln, le_nl, lt_nl, lt_ln, eq_nn, eq_nl, in_lit, cl_lit, Nat.le_refl, Nat.add_zero, gG8 hg, gG8 ho, fG hg hu, fG ho hu, show ¬ 6 ≤ u by omega, c102]
  · by_cases hwu : w = u
    · rw [hwu, ua_s, if_pos (by omega), ko, kgu]
    · rw [ua_n _ _ (by omega), g2 w hw]
      by_cases h2 : w < u
      · rw [if_pos h2, if_pos (by omega)]
      · rw [if_neg h2, if_neg (by omega)]
end S81
