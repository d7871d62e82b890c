/-! the least sizes -/
def ls1 (L : Nat → Int32) (q : Nat × Nat × Int32) : Nat → Int32 := if q.2.1 = 1 then upd L q.1 (if q.2.2 ≤ L q.1 then L q.1 else q.2.2) else L
theorem ls1_ext {L L' : Nat → Int32} {q : Nat × Nat × Int32} {n : Nat} (hq : q.2.1 = 1 → q.1 < n) (h : ∀ c, c < n → L c = L' c) : ∀ c, c < n → ls1 L q c = ls1 L' q c := by
  intro c hc
  unfold ls1
  by_cases h1 : q.2.1 = 1
  · rw [if_pos h1, if_pos h1, h q.1 (hq h1)]
    by_cases hcq : c = q.1
    · rw [hcq, pk_us, pk_us]
    · rw [pk_un hcq, pk_un hcq]; exact h c hc
  · rw [if_neg h1, if_neg h1]; exact h c hc
section S54
variable {X : am_X} {M : Nat → Nat → Int32}
theorem C_findLeast {g n : Nat} {kd nb : Nat → Int32} {gap : Int32} {gl : List (Nat × Nat × Int32)} (hg : isA g) (hA : RA M g n kd nb gap gl) :
    ∃ M', am_ev X kX4_findLeast 0 [.ref 80, .ref g, am_u, am_u] [] (hp M) = some (none, hp M') ∧ (∀ a, a ≠ 81 → M' a = M a) ∧ ∀ c, c < 12 → M' 81 c = gl.foldl ls1 (fun _ => 0) c := by
  obtain ⟨hn, hn12, hgap, hkd, hnb, hgn, hg10, hgl⟩ := hA
  have hgr := isA_1 hg
  have ef : ∀ K, am_ev X kJ7_fill_53178 0 [.ref 81, .int 0, am_u, am_u] [] (hp K) = some (none, hp (ua K 81 (fil (K 81) (fun _ => 0) 12))) := fun K => C_fill (by rfl) (by decide)
  have hlp := loop_inv (fun k (Mu : (Nat → Nat → Int32) × Value) => am_ev X kX4_findLeast 10 [.ref 80, .ref g, .int (nI k), Mu.2] [] (hp Mu.1)) (fun k Mu => (∀ a, a ≠ 81 → Mu.1 a = M a) ∧ ∀ c, c < 12 → Mu.1 81 c = (gl.take k).foldl ls1 (fun _ => 0) c) 0 gl.length (by omega) (ua M 81 (fil (M 81) (fun _ => 0) 12), am_u) ⟨fun a ha => ua_n _ _ ha, fun c hc => by dsimp only; rw [ua_s, fil_in hc]; rfl⟩ ?_
  · obtain ⟨⟨M1, u⟩, e1, f1, g1⟩ := hlp
    rw [List.take_length] at g1
    dsimp only at e1 f1 g1
    refine ⟨M1, ?_, f1, g1⟩
    have b6 : M1 g 6 = nI gl.length := by rw [f1 g (by omega)]; exact hgn
    rw [nI_0] at e1
    simp (disch := omega) only [iX4_findLeast_0, iX4_findLeast_1, iX4_findLeast_4, iX4_findLeast_5, iX4_findLeast_8, iX4_findLeast_9, true_or, or_true, Option.bind_some, Option.bind_none, kk_hp, kn_hp, el_i, el_b, el_z, am_cat_nil, am_cat_i, am_cat_r, am_cat_l, am_cat_n, gd_i, gd_r, gd_n, gd_u, List.length_cons, List.length_nil, true_and, and_true, ↓reduceIte, Nat.zero_le, Nat.reduceLeDiff, Nat.reduceAdd, e_10, e_01, e_00, e_11, Int32.reduceLE, Int32.reduceLT, Int32.reduceAdd, Int32.reduceSub, b01, if_true, if_false, ite_self, rc_80, gf_80_0, gf_80_1, pf_80_1, ef]
    rw [e1]
    simp (disch := omega) only [iX4_findLeast_10, iX4_findLeast_11, iX4_findLeast_12, iX4_findLeast_15, iX4_findLeast_62, true_or, or_true, Option.bind_some, Option.bind_none, kk_hp, kn_hp, el_i, el_b, el_z, am_cat_nil, am_cat_i, am_cat_r, am_cat_l, am_cat_n, gd_i, gd_r, gd_n, gd_u, List.length_cons, List.length_nil, true_and, and_true, ↓reduceIte, Nat.zero_le, Nat.reduceLeDiff, Nat.reduceAdd, e_10, e_01, e_00, e_11, Int32.reduceLE, Int32.reduceLT, Int32.reduceAdd, Int32.reduceSub, b01, if_true, if_false, ite_self, nl_add, nl_add', nl_mul, nI_add, in_t, cl_n, le_nn, lt_nn, le_ln, le_nl, lt_nl, lt_ln, eq_nn, eq_nl, in_lit, cl_lit, Nat.le_refl, Nat.add_zero, gA6 hg, b6]
  intro k ⟨M', u⟩ _ hk ⟨hf, hG⟩
  dsimp only at hf hG ⊢
  obtain ⟨q5, q6, q7, qn⟩ := hgl k hk
  have b6 : M' g 6 = nI gl.length := by rw [hf g (by omega)]; exact hgn
  have a5 : M' (g + 5) k = nI gl[k].1 := by rw [hf _ (by omega)]; exact q5
  have a6 : M' (g + 6) k = nI gl[k].2.1 := by rw [hf _ (by omega)]; exact q6
  have a7 : M' (g + 7) k = gl[k].2.2 := by rw [hf _ (by omega)]; exact q7
  have etk : (gl.take (k + 1)).foldl ls1 (fun _ => 0) = ls1 ((gl.take k).foldl ls1 (fun _ => 0)) gl[k] := by
    rw [List.take_succ_eq_append_getElem hk, List.foldl_append]
    rfl
  rw [etk]
  generalize (gl.take k).foldl ls1 (fun _ => 0) = G at *
  by_cases h1 : gl[k].2.1 = 1
  · refine ⟨(up M' 81 gl[k].1 (if gl[k].2.2 ≤ M' 81 gl[k].1 then M' 81 gl[k].1 else gl[k].2.2), .int (nI gl[k].1)), ?_, fun a ha => by dsimp only; rw [up_n _ _ _ ha]; exact hf a ha, fun c hc => ?_⟩
    · conv => lhs; rw [iX4_findLeast_10]
      simp (disch := omega) only [iX4_findLeast_11, iX4_findLeast_12, iX4_findLeast_15, iX4_findLeast_18, iX4_findLeast_19, iX4_findLeast_22, iX4_findLeast_23, iX4_findLeast_24, iX4_findLeast_25, iX4_findLeast_28, iX4_findLeast_29, iX4_findLeast_32, iX4_findLeast_33, iX4_findLeast_34, iX4_findLeast_35, iX4_findLeast_36, iX4_findLeast_39, iX4_findLeast_40, iX4_findLeast_41, iX4_findLeast_44, iX4_findLeast_45, iX4_findLeast_46, iX4_findLeast_47, iX4_findLeast_50, iX4_findLeast_51, iX4_findLeast_52, iX4_findLeast_55, iX4_findLeast_56, iX4_findLeast_59, true_or, or_true, Option.bind_some, Option.bind_none, kk_hp, kn_hp, el_i, el_b, el_z, am_cat_nil, am_cat_i, am_cat_r, am_cat_l, am_cat_n, gd_i, gd_r, gd_n, gd_u, List.length_cons, List.length_nil, true_and, and_true, ↓reduceIte, Nat.zero_le, Nat.reduceLeDiff, Nat.reduceAdd, e_10, e_01, e_00, e_11, Int32.reduceLE, Int32.reduceLT, Int32.reduceAdd, Int32.reduceSub, b01, if_true, if_false, ite_self, rc_80, gf_80_0, gf_80_1, pf_80_1, ga_81, wi_81, nl_add, nl_add', nl_mul, nI_add, in_t, cl_n, le_nn, lt_nn, le_ln, le_nl, lt_nl, lt_ln, eq_nn, eq_nl, in_lit, cl_lit, Nat.le_refl, Nat.add_zero, gA6 hg, gA7 hg, gA8 hg, gA9 hg, aA5 hg, aA6 hg, aA7 hg, b6, a5, a6, a7, h1, show ¬ gl.length ≤ k by omega, show nI 1 = 1 from rfl, mx_if]
    · dsimp only
      rw [up_s]
      have := ls1_ext (L := M' 81) (L' := G) (q := gl[k]) (n := 12) (fun _ => by omega) hG c hc
      rw [← this, ls1, if_pos h1]
  · refine ⟨(M', u), ?_, hf, fun c hc => ?_⟩
    · have h1' : ¬ nI gl[k].2.1 = 1 := fun z => h1 (nI_inj (by omega) (by omega) z)
      conv => lhs; rw [iX4_findLeast_10]
      simp (disch := omega) only [iX4_findLeast_11, iX4_findLeast_12, iX4_findLeast_15, iX4_findLeast_18, iX4_findLeast_19, iX4_findLeast_22, iX4_findLeast_23, iX4_findLeast_24, iX4_findLeast_25, iX4_findLeast_28, iX4_findLeast_29, iX4_findLeast_32, iX4_findLeast_33, iX4_findLeast_34, iX4_findLeast_35, iX4_findLeast_36, iX4_findLeast_39, iX4_findLeast_40, iX4_findLeast_41, iX4_findLeast_44, iX4_findLeast_45, iX4_findLeast_46, iX4_findLeast_47, iX4_findLeast_50, iX4_findLeast_51, iX4_findLeast_52, iX4_findLeast_55, iX4_findLeast_56, iX4_findLeast_59, true_or, or_true, Option.bind_some, Option.bind_none, kk_hp, kn_hp, el_i, el_b, el_z, am_cat_nil, am_cat_i, am_cat_r, am_cat_l, am_cat_n, gd_i, gd_r, gd_n, gd_u, List.length_cons, List.length_nil, true_and, and_true, ↓reduceIte, Nat.zero_le, Nat.reduceLeDiff, Nat.reduceAdd, e_10, e_01, e_00, e_11, Int32.reduceLE, Int32.reduceLT, Int32.reduceAdd, Int32.reduceSub, b01, if_true, if_false, ite_self, rc_80, gf_80_0, gf_80_1, pf_80_1, ga_81, wi_81, nl_add, nl_add', nl_mul, nI_add, in_t, cl_n, le_nn, lt_nn, le_ln, le_nl, lt_nl, lt_ln, eq_nn, eq_nl, in_lit, cl_lit, Nat.le_refl, Nat.add_zero, gA6 hg, gA8 hg, aA6 hg, b6, a6, h1', show ¬ gl.length ≤ k by omega, h1]
    · dsimp only
      rw [ls1, if_neg h1]; exact hG c hc
end S54
