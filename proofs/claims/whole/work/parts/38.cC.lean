/-! the class places one item -/
/-- the grid at g is told by the row of numbers s -/
def RG (M : Nat → Nat → Int32) (g : Nat) (s : Nat → Int32) : Prop :=
  (M g 0 = s 0 ∧ M g 3 = s 1 ∧ M g 4 = s 2 ∧ M g 5 = s 3 ∧ M g 6 = s 4 ∧ M g 7 = s 25) ∧
  (∀ c, c < nC s → M (g + 1) c = s (5 + c) ∧ M (g + 2) c = s (11 + c)) ∧ (∀ v, v < 8 → M (g + 10) v = s (17 + v)) ∧
  (∀ i, i < mI s → ∀ w, w < 6 → M (g + 4 + w) i = s (26 + 6 * i + w))
def plM (M : Nat → Nat → Int32) (s T : Nat → Int32) (i : Nat) : Nat → Nat → Int32 :=
  match hoI s T i with
  | none => up (up (up M 61 i (-4)) 62 i (-4)) 60 4 (M 60 4 + 1)
  | some q => up (up (ua (up (up M 61 i (nI q.2)) 62 i (nI q.1)) 63 (orB (M 63) q.2 (wI s i) q.1 (tI s i))) 60 5 (M 60 5 + nI (wI s i) * nI (tI s i))) 60 3 (am_mx (M 60 3) (nI (q.1 + tI s i)))
theorem isG_60 {g : Nat} (hg : isG g) : g < 60 ∧ g + 20 < 82 := by rcases hg with rfl | rfl | rfl | rfl <;> omega
section S38
variable {X : am_X} {M : Nat → Nat → Int32}
theorem placeC_l {g i w t c r : Nat} {h : Int32} (hi : i < 10) (hc : c + w ≤ 6) (hr : r + t ≤ 12) (h61 : M 61 i = nI c) (h62 : M 62 i = nI r) : am_ev X kX3_place 112 [.ref 60, .ref g, .int (nI i), .int (nI w), .int (nI t), .int h, .int (nI r)] [] (hp M) = am_ev X kX3_place 112 [.ref 60, .ref g, .int (nI i), .int (nI w), .int (nI t), .int h, .int (nI (r + t))] [] (hp (ua M 63 (orB (M 63) c w r t))) := by
  have e := chain (fun y => am_ev X kX3_place 112 [.ref 60, .ref g, .int (nI i), .int (nI w), .int (nI t), .int h, .int (nI (r + y))] [] (hp (ua M 63 (orB (M 63) c w r y)))) 0 t (by omega) (fun y _ hy => by
    have a1 : (ua M 63 (orB (M 63) c w r y)) 61 i = nI c := h61
    have a2 : (ua M 63 (orB (M 63) c w r y)) 62 i = nI r := h62
    conv => lhs; rw [iX3_place_112]
    simp (disch := omega) only [iX3_place_114, iX3_place_115, iX3_place_118, iX3_place_119, iX3_place_120, iX3_place_122, iX3_place_123, iX3_place_126, iX3_place_127, iX3_place_130, iX3_place_132, iX3_place_133, iX3_place_134, iX3_place_135, iX3_place_138, iX3_place_139, iX3_place_140, iX3_place_141, iX3_place_144, iX3_place_145, iX3_place_146, iX3_place_149, true_or, or_true, Option.bind_some, Option.bind_none, kk_hp, kn_hp, el_i, el_b, el_z, am_cat_nil, am_cat_i, am_cat_r, am_cat_l, am_cat_n, gd_i, gd_r, gd_n, gd_u, List.length_cons, List.length_nil, true_and, and_true, ↓reduceIte, Nat.zero_le, Nat.reduceLeDiff, Nat.reduceAdd, e_10, e_01, e_00, e_11, Int32.reduceLE, Int32.reduceLT, Int32.reduceAdd, Int32.reduceSub, b01, if_true, if_false, ite_self, rc_60, gf_60_0, gf_60_1, gf_60_2, gf_60_3, pf_60_3, gf_60_4, pf_60_4, gf_60_5, pf_60_5, ga_61, wi_61, ga_62, wi_62, ga_63, wi_63, nl_add, nl_add', nl_mul, nI_add, in_t, cl_n, le_nn, lt_nn, le_ln, le_nl, lt_nl, lt_ln, eq_nn, eq_nl, in_lit, cl_lit, Nat.le_refl, Nat.add_zero, a1, a2, C_bits, show ¬ r + t ≤ r + y by omega, ua_s, up_of, orB, ← Nat.add_assoc])
  simpa only [Nat.add_zero, orB, ua_self] using e
theorem C_place {g i : Nat} {s T : Nat → Int32} (hg : isG g) (hR : RG M g s) (hwf : wf s) (hi : i < mI s) (hT : RT (M 63) T) : am_ev X kX3_place 0 [.ref 60, .ref g, .int (nI i), am_u, am_u, am_u, am_u] [] (hp M) = some (none, hp (plM M s T i)) := by
  obtain ⟨⟨h0, hn⟩, ⟨h25, hm⟩, hit, -⟩ := hwf
  have hii := hit i hi
  obtain ⟨⟨hw, hw1, hwn⟩, ⟨ht, ht1, ht4⟩, hpc, hpr⟩ := hit i hi
  obtain ⟨⟨r0, -⟩, -, -, hf⟩ := hR
  have f0 : M (g + 4) i = nI (wI s i) := (hf i hi 0 (by omega)).trans hw
  have f1 : M (g + 4 + 1) i = nI (tI s i) := (hf i hi 1 (by omega)).trans ht
  have f4 : M (g + 4 + 4) i = s (26 + 6 * i + 4) := hf i hi 4 (by omega)
  have f5 : M (g + 4 + 5) i = s (26 + 6 * i + 5) := hf i hi 5 (by omega)
  have eh := @C_firstHole X M s i (nC s) hii hn T hT rfl
  rw [h0] at r0
  have e : am_ev X kX3_place 0 [.ref 60, .ref g, .int (nI i), am_u, am_u, am_u, am_u] [] (hp M) = am_ev X kX3_place 46 [.ref 60, .ref g, .int (nI i), .int (nI (wI s i)), .int (nI (tI s i)), am_u, am_u] [.int (holI (hoI s T i))] (hp M) := by
    simp (disch := omega) only [iX3_place_0, iX3_place_1, iX3_place_4, iX3_place_5, iX3_place_6, iX3_place_7, iX3_place_8, iX3_place_9, iX3_place_10, iX3_place_13, iX3_place_14, iX3_place_15, iX3_place_16, iX3_place_17, iX3_place_19, iX3_place_20, iX3_place_21, iX3_place_24, iX3_place_25, iX3_place_27, iX3_place_28, iX3_place_31, iX3_place_32, iX3_place_33, iX3_place_34, iX3_place_35, iX3_place_36, iX3_place_39, iX3_place_40, iX3_place_41, iX3_place_42, iX3_place_43, true_or, or_true, Option.bind_some, Option.bind_none, kk_hp, kn_hp, el_i, el_b, el_z, am_cat_nil, am_cat_i, am_cat_r, am_cat_l, am_cat_n, gd_i, gd_r, gd_n, gd_u, List.length_cons, List.length_nil, true_and, and_true, ↓reduceIte, Nat.zero_le, Nat.reduceLeDiff, Nat.reduceAdd, e_10, e_01, e_00, e_11, Int32.reduceLE, Int32.reduceLT, Int32.reduceAdd, Int32.reduceSub, b01, if_true, if_false, ite_self, rc_60, gf_60_0, gf_60_1, gf_60_2, gf_60_3, pf_60_3, gf_60_4, pf_60_4, gf_60_5, pf_60_5, nl_add, nl_add', nl_mul, nI_add, in_t, cl_n, le_nn, lt_nn, le_ln, le_nl, lt_nl, lt_ln, eq_nn, eq_nl, in_lit, cl_lit, Nat.le_refl, Nat.add_zero, gG8 hg, gG0 hg, fG0 hg, fG1 hg, fG4 hg, fG5 hg, aGr0 hg, aGr1 hg, aGr4 hg, aGr5 hg, f0, f1, f4, f5, r0, eh]
  rw [e]
  unfold plM
  cases hh : hoI s T i with
  | none => simp (disch := omega) only [iX3_place_46, iX3_place_48, iX3_place_50, iX3_place_52, iX3_place_55, iX3_place_56, iX3_place_59, iX3_place_60, iX3_place_62, iX3_place_63, iX3_place_64, iX3_place_67, iX3_place_68, iX3_place_70, iX3_place_71, iX3_place_72, iX3_place_73, iX3_place_76, iX3_place_77, iX3_place_78, iX3_place_81, true_or, or_true, Option.bind_some, Option.bind_none, kk_hp, kn_hp, el_i, el_b, el_z, am_cat_nil, am_cat_i, am_cat_r, am_cat_l, am_cat_n, gd_i, gd_r, gd_n, gd_u, List.length_cons, List.length_nil, true_and, and_true, ↓reduceIte, Nat.zero_le, Nat.reduceLeDiff, Nat.reduceAdd, e_10, e_01, e_00, e_11, Int32.reduceLE, Int32.reduceLT, Int32.reduceAdd, Int32.reduceSub, b01, if_true, if_false, ite_self, rc_60, gf_60_0, gf_60_1, gf_60_2, gf_60_3, pf_60_3, gf_60_4, pf_60_4, gf_60_5, pf_60_5, ga_61, wi_61, ga_62, wi_62, nl_add, nl_add', nl_mul, nI_add, in_t, cl_n, le_nn, lt_nn, le_ln, le_nl, lt_nl, lt_ln, eq_nn, eq_nl, in_lit, cl_lit, Nat.le_refl, Nat.add_zero, ua_s, ua_n, up_s, up_n, pk_us, pk_un, holI]
  | some q =>
    obtain ⟨q1, q2, q3⟩ := hol_p hh
    obtain ⟨r, c⟩ := q
    dsimp only at q1 q2
    obtain ⟨d1, d2, d3⟩ := @dec_rc r c (by omega) (by omega)
    rw [d1] at d2
    have d4 : ¬ ((100 : Int32) = 0) := by decide
    have a1 : (up (up M 61 i (nI c)) 62 i (nI r)) 61 i = nI c := by rw [up_n _ _ _ (by decide), up_s, pk_us]
    have a2 : (up (up M 61 i (nI c)) 62 i (nI r)) 62 i = nI r := by rw [up_s, pk_us]
    have el := @placeC_l X (up (up M 61 i (nI c)) 62 i (nI r)) g i (wI s i) (tI s i) c r (nI (100 * r + c)) (by omega) (by omega) q2 a1 a2
    simp (disch := omega) only [iX3_place_46, iX3_place_48, iX3_place_50, iX3_place_52, iX3_place_82, iX3_place_83, iX3_place_86, iX3_place_87, iX3_place_89, iX3_place_91, iX3_place_92, iX3_place_93, iX3_place_94, iX3_place_97, iX3_place_98, iX3_place_100, iX3_place_102, iX3_place_103, iX3_place_104, iX3_place_105, iX3_place_108, iX3_place_109, iX3_place_110, true_or, or_true, Option.bind_some, Option.bind_none, kk_hp, kn_hp, el_i, el_b, el_z, am_cat_nil, am_cat_i, am_cat_r, am_cat_l, am_cat_n, gd_i, gd_r, gd_n, gd_u, List.length_cons, List.length_nil, true_and, and_true, ↓reduceIte, Nat.zero_le, Nat.reduceLeDiff, Nat.reduceAdd, e_10, e_01, e_00, e_11, Int32.reduceLE, Int32.reduceLT, Int32.reduceAdd, Int32.reduceSub, b01, if_true, if_false, ite_self, rc_60, gf_60_0, gf_60_1, gf_60_2, gf_60_3, pf_60_3, gf_60_4, pf_60_4, gf_60_5, pf_60_5, ga_61, wi_61, ga_62, wi_62, nl_add, nl_add', nl_mul, nI_add, in_t, cl_n, le_nn, lt_nn, le_ln, le_nl, lt_nl, lt_ln, eq_nn, eq_nl, in_lit, cl_lit, Nat.le_refl, Nat.add_zero, holI, d1, d2, d3, d4, a2]
    rw [el]
    simp (disch := omega) only [iX3_place_112, iX3_place_114, iX3_place_115, iX3_place_118, iX3_place_119, iX3_place_120, iX3_place_122, iX3_place_123, iX3_place_152, iX3_place_153, iX3_place_154, iX3_place_157, iX3_place_158, iX3_place_160, iX3_place_161, iX3_place_162, iX3_place_165, iX3_place_166, iX3_place_167, iX3_place_170, iX3_place_171, iX3_place_174, iX3_place_175, iX3_place_176, iX3_place_178, iX3_place_179, iX3_place_182, iX3_place_185, true_or, or_true, Option.bind_some, Option.bind_none, kk_hp, kn_hp, el_i, el_b, el_z, am_cat_nil, am_cat_i, am_cat_r, am_cat_l, am_cat_n, gd_i, gd_r, gd_n, gd_u, List.length_cons, List.length_nil, true_and, and_true, ↓reduceIte, Nat.zero_le, Nat.reduceLeDiff, Nat.reduceAdd, e_10, e_01, e_00, e_11, Int32.reduceLE, Int32.reduceLT, Int32.reduceAdd, Int32.reduceSub, b01, if_true, if_false, ite_self, rc_60, gf_60_0, gf_60_1, gf_60_2, gf_60_3, pf_60_3, gf_60_4, pf_60_4, gf_60_5, pf_60_5, ga_61, wi_61, ga_62, wi_62, nl_add, nl_add', nl_mul, nI_add, in_t, cl_n, le_nn, lt_nn, le_ln, le_nl, lt_nl, lt_ln, eq_nn, eq_nl, in_lit, cl_lit, Nat.le_refl, Nat.add_zero, ua_s, ua_n, up_s, up_n, pk_us, pk_un]
end S38
