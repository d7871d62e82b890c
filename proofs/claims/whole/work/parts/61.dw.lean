/-! shares of a width, the class -/
def lw (kd sz : Nat → Int32) (gap : Int32) (n : Nat) (wd : Int32) : Int32 := if lk kd sz gap (0, n, wd) ≤ 0 then 0 else lk kd sz gap (0, n, wd)
theorem anF_f {p : Nat → Bool} {n : Nat} (h : anF p n = false) : ∀ t, t < n → p t = false := by
  induction n with
  | zero => intro t ht; omega
  | succ n ih =>
    rw [anF, Bool.or_eq_false_iff] at h
    intro t ht
    by_cases htn : t = n
    · rw [htn]; exact h.2
    · exact ih h.1 t (by omega)
theorem anF_t {p : Nat → Bool} {n : Nat} (h : anF p n = true) : ∃ t, t < n ∧ p t = true := by
  induction n with
  | zero => exact absurd h Bool.false_ne_true
  | succ n ih =>
    rw [anF, Bool.or_eq_true] at h
    rcases h with h | h
    · obtain ⟨t, h1, h2⟩ := ih h; exact ⟨t, by omega, h2⟩
    · exact ⟨n, by omega, h⟩
theorem frR_kd {kd nb L : Nat → Int32} {n : Nat} {x : Int32} (k : Nat) : ∀ F : Nat → Bool, (∀ t, F t = true → kd t = 2) → ∀ t, frR kd nb L n x k F t = true → kd t = 2 := by
  induction k with
  | zero => intro F h; exact h
  | succ k ih =>
    intro F h
    rw [frR]
    split
    · refine ih _ (fun t ht => ?_)
      unfold fzN at ht
      rw [Bool.or_eq_true] at ht
      rcases ht with ht | ht
      · exact h t ht
      · unfold fz at ht
        rw [Bool.and_eq_true] at ht
        exact (op_iff.mp ht.1).1
    · exact h
section S61
variable {X : am_X} {M : Nat → Nat → Int32}
theorem dealByWidth_l {g n : Nat} {kd nb L sz : Nat → Int32} {x wd : Int32} (hg : isA g) (hn : n ≤ 6) (k : Nat) : ∀ j M F, j + k = n → M g 0 = nI n → (∀ c, c < n → M (g + 1) c = kd c ∧ M (g + 2) c = nb c) → (∀ t, t < n → M 81 t = L t) → FC M g n L sz F →
    ∃ M' u v, am_ev X kX4_dealByWidth 32 [.ref 80, .ref g, .int wd, .int x, .int 1, .int (nI j)] [] (hp M) = am_ev X kX4_dealByWidth 60 [.ref 80, .ref g, .int wd, .int x, u, v] [] (hp M') ∧ (∀ a, a ≠ g + 3 → a ≠ 80 → M' a = M a) ∧ FC M' g n L sz (frR kd nb L n x (k + 1) F) := by
  have hgr := isA_1 hg
  induction k with
  | zero =>
    intro j M F hj h0 hk hL hF
    obtain ⟨M1, e1, f1, c1⟩ := @C_freeze X M g n kd nb L sz F x hg h0 hn hk hL hF
    have q0 : M1 g 0 = nI n := by rw [f1 _ (by omega) (by omega)]; exact h0
    refine ⟨M1, .int (bI (anF (fz kd nb L n x F) n)), .int (nI (j + 1)), ?_, f1, ?_⟩
    · conv => lhs; rw [iX4_dealByWidth_32]
      simp (disch := omega) only [iX4_dealByWidth_34, iX4_dealByWidth_35, iX4_dealByWidth_38, iX4_dealByWidth_41, iX4_dealByWidth_43, iX4_dealByWidth_46, iX4_dealByWidth_47, iX4_dealByWidth_48, iX4_dealByWidth_49, iX4_dealByWidth_52, iX4_dealByWidth_54, iX4_dealByWidth_57, true_or, or_true, Option.bind_some, Option.bind_none, kk_hp, kn_hp, el_i, el_b, el_z, am_cat_nil, am_cat_i, am_cat_r, am_cat_l, am_cat_n, gd_i, gd_r, gd_n, gd_u, List.length_cons, List.length_nil, true_and, and_true, ↓reduceIte, Nat.zero_le, Nat.reduceLeDiff, Nat.reduceAdd, e_10, e_01, e_00, e_11, Int32.reduceLE, Int32.reduceLT, Int32.reduceAdd, Int32.reduceSub, b01, if_true, if_false, ite_self, nl_add, nl_add', nl_mul, nI_add, in_t, cl_n, le_nn, lt_nn, le_ln, le_nl, lt_nl, lt_ln, eq_nn, eq_nl, in_lit, cl_lit, Nat.le_refl, Nat.add_zero, rc_80, gf_80_0, gf_80_1, pf_80_1, gA0 hg, h0, show ¬ n < j by omega, e1]
      rw [iX4_dealByWidth_32]
      simp (disch := omega) only [iX4_dealByWidth_34, iX4_dealByWidth_35, iX4_dealByWidth_38, true_or, or_true, Option.bind_some, Option.bind_none, kk_hp, kn_hp, el_i, el_b, el_z, am_cat_nil, am_cat_i, am_cat_r, am_cat_l, am_cat_n, gd_i, gd_r, gd_n, gd_u, List.length_cons, List.length_nil, true_and, and_true, ↓reduceIte, Nat.zero_le, Nat.reduceLeDiff, Nat.reduceAdd, e_10, e_01, e_00, e_11, Int32.reduceLE, Int32.reduceLT, Int32.reduceAdd, Int32.reduceSub, b01, if_true, if_false, ite_self, nl_add, nl_add', nl_mul, nI_add, in_t, cl_n, le_nn, lt_nn, le_ln, le_nl, lt_nl, lt_ln, eq_nn, eq_nl, in_lit, cl_lit, Nat.le_refl, Nat.add_zero, rc_80, gf_80_0, gf_80_1, pf_80_1, gA0 hg, q0, show n < j + 1 by omega]
    · rw [frR]
      cases ha : anF (fz kd nb L n x F) n with
      | true => exact c1
      | false =>
        obtain ⟨b, hb, h80, hbF, hsz⟩ := c1
        have hp0 := anF_f ha
        have en : ∀ t, t < n → fzN kd nb L n x F t = F t := fun t ht => by unfold fzN; rw [hp0 t ht, Bool.or_false]
        exact ⟨b, hb, h80, fun t ht => by rw [hbF t ht, en t ht]; rfl, fun t ht => by rw [hsz t ht, en t ht]; rfl⟩
  | succ k ih =>
    intro j M F hj h0 hk hL hF
    obtain ⟨M1, e1, f1, c1⟩ := @C_freeze X M g n kd nb L sz F x hg h0 hn hk hL hF
    have q0 : M1 g 0 = nI n := by rw [f1 _ (by omega) (by omega)]; exact h0
    cases ha : anF (fz kd nb L n x F) n with
    | true =>
      rw [ha, bI_t] at e1
      obtain ⟨M2, u, v, e2, f2, c2⟩ := ih (j + 1) M1 (fzN kd nb L n x F) (by omega) q0 (by rw [f1 _ (by omega) (by omega), f1 _ (by omega) (by omega)]; exact hk) (by rw [f1 _ (by omega) (by omega)]; exact hL) c1
      refine ⟨M2, u, v, ?_, fun a h1 h2 => by rw [f2 a h1 h2, f1 a h1 h2], ?_⟩
      · rw [← e2]
        conv => lhs; rw [iX4_dealByWidth_32]
        simp (disch := omega) only [iX4_dealByWidth_34, iX4_dealByWidth_35, iX4_dealByWidth_38, iX4_dealByWidth_41, iX4_dealByWidth_43, iX4_dealByWidth_46, iX4_dealByWidth_47, iX4_dealByWidth_48, iX4_dealByWidth_49, iX4_dealByWidth_52, iX4_dealByWidth_54, iX4_dealByWidth_57, true_or, or_true, Option.bind_some, Option.bind_none, kk_hp, kn_hp, el_i, el_b, el_z, am_cat_nil, am_cat_i, am_cat_r, am_cat_l, am_cat_n, gd_i, gd_r, gd_n, gd_u, List.length_cons, List.length_nil, true_and, and_true, ↓reduceIte, Nat.zero_le, Nat.reduceLeDiff, Nat.reduceAdd, e_10, e_01, e_00, e_11, Int32.reduceLE, Int32.reduceLT, Int32.reduceAdd, Int32.reduceSub, b01, if_true, if_false, ite_self, nl_add, nl_add', nl_mul, nI_add, in_t, cl_n, le_nn, lt_nn, le_ln, le_nl, lt_nl, lt_ln, eq_nn, eq_nl, in_lit, cl_lit, Nat.le_refl, Nat.add_zero, rc_80, gf_80_0, gf_80_1, pf_80_1, gA0 hg, h0, show ¬ n < j by omega, e1]
      · rw [frR, if_pos ha]; exact c2
    | false =>
      rw [ha, bI_f] at e1
      refine ⟨M1, .int 0, .int (nI (j + 1)), ?_, f1, ?_⟩
      · conv => lhs; rw [iX4_dealByWidth_32]
        simp (disch := omega) only [iX4_dealByWidth_34, iX4_dealByWidth_35, iX4_dealByWidth_38, iX4_dealByWidth_41, iX4_dealByWidth_43, iX4_dealByWidth_46, iX4_dealByWidth_47, iX4_dealByWidth_48, iX4_dealByWidth_49, iX4_dealByWidth_52, iX4_dealByWidth_54, iX4_dealByWidth_57, true_or, or_true, Option.bind_some, Option.bind_none, kk_hp, kn_hp, el_i, el_b, el_z, am_cat_nil, am_cat_i, am_cat_r, am_cat_l, am_cat_n, gd_i, gd_r, gd_n, gd_u, List.length_cons, List.length_nil, true_and, and_true, ↓reduceIte, Nat.zero_le, Nat.reduceLeDiff, Nat.reduceAdd, e_10, e_01, e_00, e_11, Int32.reduceLE, Int32.reduceLT, Int32.reduceAdd, Int32.reduceSub, b01, if_true, if_false, ite_self, nl_add, nl_add', nl_mul, nI_add, in_t, cl_n, le_nn, lt_nn, le_ln, le_nl, lt_nl, lt_ln, eq_nn, eq_nl, in_lit, cl_lit, Nat.le_refl, Nat.add_zero, rc_80, gf_80_0, gf_80_1, pf_80_1, gA0 hg, h0, show ¬ n < j by omega, e1]
        rw [iX4_dealByWidth_32]
        simp (disch := omega) only [iX4_dealByWidth_34, iX4_dealByWidth_35, iX4_dealByWidth_38, iX4_dealByWidth_41, iX4_dealByWidth_43, true_or, or_true, Option.bind_some, Option.bind_none, kk_hp, kn_hp, el_i, el_b, el_z, am_cat_nil, am_cat_i, am_cat_r, am_cat_l, am_cat_n, gd_i, gd_r, gd_n, gd_u, List.length_cons, List.length_nil, true_and, and_true, ↓reduceIte, Nat.zero_le, Nat.reduceLeDiff, Nat.reduceAdd, e_10, e_01, e_00, e_11, Int32.reduceLE, Int32.reduceLT, Int32.reduceAdd, Int32.reduceSub, b01, if_true, if_false, ite_self, nl_add, nl_add', nl_mul, nI_add, in_t, cl_n, le_nn, lt_nn, le_ln, le_nl, lt_nl, lt_ln, eq_nn, eq_nl, in_lit, cl_lit, Nat.le_refl, Nat.add_zero, rc_80, gf_80_0, gf_80_1, pf_80_1, gA0 hg, q0, show ¬ n < j + 1 by omega]
      · rw [frR, if_neg (by rw [ha]; decide)]
        obtain ⟨b, hb, h80, hbF, hsz⟩ := c1
        have hp0 := anF_f ha
        have en : ∀ t, t < n → fzN kd nb L n x F t = F t := fun t ht => by unfold fzN; rw [hp0 t ht, Bool.or_false]
        exact ⟨b, hb, h80, fun t ht => by rw [hbF t ht, en t ht], fun t ht => by rw [hsz t ht, en t ht]⟩
theorem C_dealByWidth {g n : Nat} {kd nb sz : Nat → Int32} {gap wd : Int32} {gl : List (Nat × Nat × Int32)} (hg : isA g) (hA : RA M g n kd nb gap gl) (hn : n ≤ 6) (hs : ∀ c, c < n → M (g + 3) c = sz c) (hz : ∀ c, c < n → kd c = 2 → sz c = 0) :
    ∃ M', am_ev X kX4_dealByWidth 0 [.ref 80, .ref g, .int wd, am_u, am_u, am_u] [] (hp M) = some (none, hp M') ∧ (∀ a, a ≠ g + 3 → a ≠ 80 → a ≠ 81 → M' a = M a) ∧ ∀ c, c < n → M' (g + 3) c = fsz kd nb (gl.foldl ls1 (fun _ => 0)) n (lw kd sz gap n wd) sz (frR kd nb (gl.foldl ls1 (fun _ => 0)) n (lw kd sz gap n wd) (n + 1) (fun _ => false)) c := by
  have hgr := isA_1 hg
  obtain ⟨M1, e1, f1, g1⟩ := @C_findLeast X M g n kd nb gap gl hg hA
  obtain ⟨h0, hn12, hgap, hkd, hnb, hgn, hg10, hgl⟩ := hA
  have ex := @C_extent X M g 0 n hg (by omega)
  have el := @lk_C kd sz gap (0, n, wd) (fun d hd h2 => hz _ (by dsimp only at hd ⊢; omega) h2)
  dsimp only at el
  have es : sm (fun d => M (g + 3) (0 + d)) n = sm (fun d => sz (0 + d)) n := sm_ext (fun d hd => hs _ (by omega))
  have elw : am_mx 0 (wd - ((if n ≤ 1 then 0 else M g 1 * (nI n - 1)) + sm (fun d => M (g + 3) (0 + d)) n)) = lw kd sz gap n wd := by
    rw [es, hgap, el, mx_if]; rfl
  rw [nI_0] at ex
  generalize gl.foldl ls1 (fun _ => 0) = L at *
  generalize lw kd sz gap n wd = x at *
  have hK : ∀ a, a ≠ 80 → (up M1 80 1 0) a = M1 a := fun a ha => up_n _ _ _ ha
  obtain ⟨M2, u, v, e2, f2, c2⟩ := @dealByWidth_l X g n kd nb L sz x wd hg hn n 0 (up M1 80 1 0) (fun _ => false) (by omega) (by rw [hK _ (by omega), f1 _ (by omega)]; exact h0) (by rw [hK _ (by omega), hK _ (by omega), f1 _ (by omega), f1 _ (by omega)]; exact hkd) (fun t ht => by rw [hK _ (by omega)]; exact g1 t (by omega)) ⟨0, by omega, by rw [up_s, pk_us]; rfl, fun t _ => by rw [Nat.zero_testBit], fun t ht => by rw [hK _ (by omega), f1 _ (by omega)]; exact hs t ht⟩
  obtain ⟨M3, e3, f3, g3⟩ := @C_dealParts X M2 g n kd nb L sz _ x hg (by rw [f2 _ (by omega) (by omega), hK _ (by omega), f1 _ (by omega)]; exact h0) hn (by rw [f2 _ (by omega) (by omega), f2 _ (by omega) (by omega), hK _ (by omega), hK _ (by omega), f1 _ (by omega), f1 _ (by omega)]; exact hkd) hnb c2
  refine ⟨M3, ?_, fun a h1 h2 h3 => by rw [f3 a h1, f2 a h1 h2, hK a h2, f1 a h3], g3⟩
  rw [nI_0] at e2
  simp (disch := omega) only [iX4_dealByWidth_0, iX4_dealByWidth_1, iX4_dealByWidth_2, iX4_dealByWidth_3, iX4_dealByWidth_4, iX4_dealByWidth_5, iX4_dealByWidth_8, iX4_dealByWidth_11, iX4_dealByWidth_12, iX4_dealByWidth_15, iX4_dealByWidth_16, iX4_dealByWidth_17, iX4_dealByWidth_18, iX4_dealByWidth_21, iX4_dealByWidth_22, iX4_dealByWidth_23, iX4_dealByWidth_26, iX4_dealByWidth_27, iX4_dealByWidth_29, iX4_dealByWidth_30, true_or, or_true, Option.bind_some, Option.bind_none, kk_hp, kn_hp, el_i, el_b, el_z, am_cat_nil, am_cat_i, am_cat_r, am_cat_l, am_cat_n, gd_i, gd_r, gd_n, gd_u, List.length_cons, List.length_nil, true_and, and_true, ↓reduceIte, Nat.zero_le, Nat.reduceLeDiff, Nat.reduceAdd, e_10, e_01, e_00, e_11, Int32.reduceLE, Int32.reduceLT, Int32.reduceAdd, Int32.reduceSub, b01, if_true, if_false, ite_self, nl_add, nl_add', nl_mul, nI_add, in_t, cl_n, le_nn, lt_nn, le_ln, le_nl, lt_nl, lt_ln, eq_nn, eq_nl, in_lit, cl_lit, Nat.le_refl, Nat.add_zero, rc_80, gf_80_0, gf_80_1, pf_80_1, gA0 hg, rcA hg, h0, ex, elw, e1]
  rw [e2]
  simp (disch := omega) only [iX4_dealByWidth_60, iX4_dealByWidth_61, iX4_dealByWidth_62, iX4_dealByWidth_63, iX4_dealByWidth_66, true_or, or_true, Option.bind_some, Option.bind_none, kk_hp, kn_hp, el_i, el_b, el_z, am_cat_nil, am_cat_i, am_cat_r, am_cat_l, am_cat_n, gd_i, gd_r, gd_n, gd_u, List.length_cons, List.length_nil, true_and, and_true, ↓reduceIte, Nat.zero_le, Nat.reduceLeDiff, Nat.reduceAdd, e_10, e_01, e_00, e_11, Int32.reduceLE, Int32.reduceLT, Int32.reduceAdd, Int32.reduceSub, b01, if_true, if_false, ite_self, nl_add, nl_add', nl_mul, nI_add, in_t, cl_n, le_nn, lt_nn, le_ln, le_nl, lt_nl, lt_ln, eq_nn, eq_nl, in_lit, cl_lit, Nat.le_refl, Nat.add_zero, rc_80, gf_80_0, gf_80_1, pf_80_1, e3]
end S61
