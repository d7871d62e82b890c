/-! shares by need -/
def sS (kd nb : Nat → Int32) (a w : Nat) : Int32 := sm (fun d => if kd (a + d) = 2 then nb (a + d) else 0) w
def sh1 (kd nb sz : Nat → Int32) (gap : Int32) (x : Int32) (q : Nat × Nat × Int32) : Int32 :=
  if fc kd q.1 q.2.1 = 0 ∨ lk kd sz gap q ≤ 0 then x else
    if (lk kd sz gap q + sS kd nb q.1 q.2.1 - 1) / sS kd nb q.1 q.2.1 ≤ x then x else (lk kd sz gap q + sS kd nb q.1 q.2.1 - 1) / sS kd nb q.1 q.2.1
section S50
variable {X : am_X} {M : Nat → Nat → Int32}
theorem dealByNeed_i {g n : Nat} {kd nb sz : Nat → Int32} {gap : Int32} {gl : List (Nat × Nat × Int32)} (hg : isA g) (hA : RA M g n kd nb gap gl) (hs : ∀ c, c < n → M (g + 3) c = sz c) (hz : ∀ c, c < n → kd c = 2 → sz c = 0) :
    ∃ u v, am_ev X kX4_dealByNeed 4 [.ref 80, .ref g, .int 0, .int (nI 0), am_u, am_u] [] (hp M) = am_ev X kX4_dealByNeed 4 [.ref 80, .ref g, .int (gl.foldl (sh1 kd nb sz gap) 0), .int (nI gl.length), u, v] [] (hp M) := by
  obtain ⟨hn, hn12, hgap, hkd, hnb, hgn, hg10, hgl⟩ := hA
  have := loop_inv (fun k (uv : Value × Value) => am_ev X kX4_dealByNeed 4 [.ref 80, .ref g, .int ((gl.take k).foldl (sh1 kd nb sz gap) 0), .int (nI k), uv.1, uv.2] [] (hp M)) (fun _ _ => True) 0 gl.length (by omega) (am_u, am_u) trivial ?_
  · obtain ⟨uv, e, -⟩ := this
    rw [List.take_length] at e
    exact ⟨uv.1, uv.2, e⟩
  intro k uv _ hk _
  obtain ⟨q5, q6, q7, qn⟩ := hgl k hk
  have efl := @C_flexShares X M g k gl[k].1 gl[k].2.1 hg (by omega) q5 q6 (by omega)
  have elk := @C_lack X M g k gl[k].1 gl[k].2.1 hg (by omega) q5 q6 (by omega)
  have k1 : ∀ d, d < gl[k].2.1 → M (g + 1) (gl[k].1 + d) = kd (gl[k].1 + d) := fun d hd => (hkd _ (by omega)).1
  have k2 : ∀ d, d < gl[k].2.1 → M (g + 2) (gl[k].1 + d) = nb (gl[k].1 + d) := fun d hd => (hkd _ (by omega)).2
  have k3 : ∀ d, d < gl[k].2.1 → M (g + 3) (gl[k].1 + d) = sz (gl[k].1 + d) := fun d hd => hs _ (by omega)
  have eS : sm (fun d => if M (g + 1) (gl[k].1 + d) = 2 then M (g + 2) (gl[k].1 + d) else 0) gl[k].2.1 = sS kd nb gl[k].1 gl[k].2.1 := by
    unfold sS
    exact sm_ext (fun d hd => by rw [k1 d hd, k2 d hd])
  have eL : M (g + 7) k - ((if gl[k].2.1 ≤ 1 then 0 else M g 1 * (nI gl[k].2.1 - 1)) + sm (fun d => M (g + 3) (gl[k].1 + d)) gl[k].2.1) = lk kd sz gap gl[k] := by
    rw [q7, hgap, sm_ext k3]
    exact lk_C (fun d hd h2 => hz _ (by omega) h2)
  rw [eS] at efl
  rw [eL] at elk
  obtain ⟨S, eSn, S1, S2⟩ := @flex_S kd nb gl[k].1 gl[k].2.1 (fun d hd h2 => hnb _ (by omega) h2)
  have hSS : sS kd nb gl[k].1 gl[k].2.1 = nI S := eSn
  have hfl := fc_le kd gl[k].1 gl[k].2.1
  have etk : (gl.take (k + 1)).foldl (sh1 kd nb sz gap) 0 = sh1 kd nb sz gap ((gl.take k).foldl (sh1 kd nb sz gap) 0) gl[k] := by
    rw [List.take_succ_eq_append_getElem hk, List.foldl_append]
    rfl
  refine ⟨(.int (nI S), .int (lk kd sz gap gl[k])), ?_, trivial⟩
  rw [etk]
  generalize (gl.take k).foldl (sh1 kd nb sz gap) 0 = x at *
  unfold sh1
  rw [hSS] at efl ⊢
  generalize lk kd sz gap gl[k] = y at *
  conv => lhs; rw [iX4_dealByNeed_4]
  by_cases h1 : fc kd gl[k].1 gl[k].2.1 = 0
  · have hS0 : S = 0 := by omega
    rw [if_pos (Or.inl h1)]
    subst hS0
    simp (disch := omega) only [iX4_dealByNeed_5, iX4_dealByNeed_6, iX4_dealByNeed_9, iX4_dealByNeed_12, iX4_dealByNeed_13, iX4_dealByNeed_14, iX4_dealByNeed_17, iX4_dealByNeed_19, iX4_dealByNeed_20, iX4_dealByNeed_21, iX4_dealByNeed_24, iX4_dealByNeed_26, iX4_dealByNeed_28, iX4_dealByNeed_31, iX4_dealByNeed_33, iX4_dealByNeed_36, iX4_dealByNeed_37, iX4_dealByNeed_39, iX4_dealByNeed_41, iX4_dealByNeed_42, iX4_dealByNeed_43, iX4_dealByNeed_44, iX4_dealByNeed_46, iX4_dealByNeed_47, iX4_dealByNeed_50, iX4_dealByNeed_51, iX4_dealByNeed_54, true_or, or_true, Option.bind_some, Option.bind_none, kk_hp, kn_hp, el_i, el_b, el_z, am_cat_nil, am_cat_i, am_cat_r, am_cat_l, am_cat_n, gd_i, gd_r, gd_n, gd_u, List.length_cons, List.length_nil, true_and, and_true, ↓reduceIte, Nat.zero_le, Nat.reduceLeDiff, Nat.reduceAdd, e_10, e_01, e_00, e_11, Int32.reduceLE, Int32.reduceLT, Int32.reduceAdd, Int32.reduceSub, b01, if_true, if_false, ite_self, rc_80, gf_80_0, gf_80_1, pf_80_1, nl_add, nl_add', nl_mul, nI_add, in_t, cl_n, le_nn, lt_nn, le_ln, le_nl, lt_nl, lt_ln, eq_nn, eq_nl, in_lit, cl_lit, Nat.le_refl, Nat.add_zero, gA6 hg, rcA hg, hgn, show ¬ gl.length ≤ k by omega, efl, elk]
  · by_cases h2 : y ≤ 0
    · rw [if_pos (Or.inr h2)]
      simp (disch := omega) only [iX4_dealByNeed_5, iX4_dealByNeed_6, iX4_dealByNeed_9, iX4_dealByNeed_12, iX4_dealByNeed_13, iX4_dealByNeed_14, iX4_dealByNeed_17, iX4_dealByNeed_19, iX4_dealByNeed_20, iX4_dealByNeed_21, iX4_dealByNeed_24, iX4_dealByNeed_26, iX4_dealByNeed_28, iX4_dealByNeed_31, iX4_dealByNeed_33, iX4_dealByNeed_36, iX4_dealByNeed_37, iX4_dealByNeed_39, iX4_dealByNeed_41, iX4_dealByNeed_42, iX4_dealByNeed_43, iX4_dealByNeed_44, iX4_dealByNeed_46, iX4_dealByNeed_47, iX4_dealByNeed_50, iX4_dealByNeed_51, iX4_dealByNeed_54, true_or, or_true, Option.bind_some, Option.bind_none, kk_hp, kn_hp, el_i, el_b, el_z, am_cat_nil, am_cat_i, am_cat_r, am_cat_l, am_cat_n, gd_i, gd_r, gd_n, gd_u, List.length_cons, List.length_nil, true_and, and_true, ↓reduceIte, Nat.zero_le, Nat.reduceLeDiff, Nat.reduceAdd, e_10, e_01, e_00, e_11, Int32.reduceLE, Int32.reduceLT, Int32.reduceAdd, Int32.reduceSub, b01, if_true, if_false, ite_self, rc_80, gf_80_0, gf_80_1, pf_80_1, nl_add, nl_add', nl_mul, nI_add, in_t, cl_n, le_nn, lt_nn, le_ln, le_nl, lt_nl, lt_ln, eq_nn, eq_nl, in_lit, cl_lit, Nat.le_refl, Nat.add_zero, gA6 hg, rcA hg, hgn, show ¬ gl.length ≤ k by omega, efl, elk, h2, show ¬ S ≤ 0 by omega]
    · rw [if_neg (not_or.mpr ⟨h1, h2⟩)]
      simp (disch := omega) only [iX4_dealByNeed_5, iX4_dealByNeed_6, iX4_dealByNeed_9, iX4_dealByNeed_12, iX4_dealByNeed_13, iX4_dealByNeed_14, iX4_dealByNeed_17, iX4_dealByNeed_19, iX4_dealByNeed_20, iX4_dealByNeed_21, iX4_dealByNeed_24, iX4_dealByNeed_26, iX4_dealByNeed_28, iX4_dealByNeed_31, iX4_dealByNeed_33, iX4_dealByNeed_36, iX4_dealByNeed_37, iX4_dealByNeed_39, iX4_dealByNeed_41, iX4_dealByNeed_42, iX4_dealByNeed_43, iX4_dealByNeed_44, iX4_dealByNeed_46, iX4_dealByNeed_47, iX4_dealByNeed_50, iX4_dealByNeed_51, iX4_dealByNeed_54, true_or, or_true, Option.bind_some, Option.bind_none, kk_hp, kn_hp, el_i, el_b, el_z, am_cat_nil, am_cat_i, am_cat_r, am_cat_l, am_cat_n, gd_i, gd_r, gd_n, gd_u, List.length_cons, List.length_nil, true_and, and_true, ↓reduceIte, Nat.zero_le, Nat.reduceLeDiff, Nat.reduceAdd, e_10, e_01, e_00, e_11, Int32.reduceLE, Int32.reduceLT, Int32.reduceAdd, Int32.reduceSub, b01, if_true, if_false, ite_self, rc_80, gf_80_0, gf_80_1, pf_80_1, nl_add, nl_add', nl_mul, nI_add, in_t, cl_n, le_nn, lt_nn, le_ln, le_nl, lt_nl, lt_ln, eq_nn, eq_nl, in_lit, cl_lit, Nat.le_refl, Nat.add_zero, gA6 hg, rcA hg, hgn, show ¬ gl.length ≤ k by omega, efl, elk, h2, show ¬ S ≤ 0 by omega, mx_if, nI_ne0 (show 0 < S by omega) (show S < 2 ^ 31 by omega)]
end S50
