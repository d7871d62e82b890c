/-! a text: whole or not, the first draft, what is kept -/
def whI (d : Nat → Int32) (i : Nat) : Bool := decide (pz (d (26 + 6 * i + 4)) + wI d i ≤ nC d ∧ pz (d (26 + 6 * i + 5)) + tI d i ≤ 12)
def whB (d : Nat → Int32) : Bool := alF (whI d) 0 (mI d) && alF (fun v => decide (d (17 + v) ≤ d 0)) 0 8
theorem alF_snoc {p : Nat → Bool} (k : Nat) : ∀ a, alF p a (k + 1) = (alF p a k && p (a + k)) := by
  induction k with
  | zero => intro a; show (p a && true) = (true && p (a + 0)); rw [Bool.and_true, Bool.true_and]; rfl
  | succ k ih => intro a; rw [alF, ih (a + 1), alF, Bool.and_assoc, show a + 1 + k = a + (k + 1) by omega]
theorem dI_f {d : Nat → Int32} {i : Nat} (h : dI d i) : d (26 + 6 * i) = nI (wI d i) ∧ 1 ≤ wI d i ∧ wI d i ≤ 6 ∧ d (26 + 6 * i + 1) = nI (tI d i) ∧ 1 ≤ tI d i ∧ tI d i ≤ 4 ∧ (d (26 + 6 * i + 4) = -4 ∧ pz (d (26 + 6 * i + 4)) = 0 ∨ d (26 + 6 * i + 4) = nI (pz (d (26 + 6 * i + 4))) ∧ pz (d (26 + 6 * i + 4)) ≤ 6) ∧ (d (26 + 6 * i + 5) = -4 ∧ pz (d (26 + 6 * i + 5)) = 0 ∨ d (26 + 6 * i + 5) = nI (pz (d (26 + 6 * i + 5))) ∧ pz (d (26 + 6 * i + 5)) ≤ 11) := by
  obtain ⟨⟨w, e1, w1, w2⟩, ⟨t, e2, t1, t2⟩, hc, hr⟩ := h
  have ew : wI d i = w := by unfold wI; rw [e1, nI_clamp (by omega)]
  have et : tI d i = t := by unfold tI; rw [e2, nI_clamp (by omega)]
  refine ⟨by rw [ew]; exact e1, by omega, by omega, by rw [et]; exact e2, by omega, by omega, ?_, ?_⟩
  · rcases hc with z | ⟨c, hc, z⟩
    · exact Or.inl ⟨z, pz_4 z⟩
    · right
      have : pz (d (26 + 6 * i + 4)) = c := by rw [z, pz_n (nI_ne (by omega)), nI_clamp (by omega)]
      rw [this]; exact ⟨z, hc⟩
  · rcases hr with z | ⟨c, hc, z⟩
    · exact Or.inl ⟨z, pz_4 z⟩
    · right
      have : pz (d (26 + 6 * i + 5)) = c := by rw [z, pz_n (nI_ne (by omega)), nI_clamp (by omega)]
      rw [this]; exact ⟨z, hc⟩
theorem dW_wf {d : Nat → Int32} (h : dW d) (hw : whB d = true) : wf d := by
  unfold whB at hw
  rw [Bool.and_eq_true, alF_iff] at hw
  obtain ⟨a1, a2, a3, a4, a5⟩ := h
  refine ⟨a1, a2, fun i hi => ?_, a5⟩
  have hwi := hw.1 i hi
  rw [Nat.zero_add] at hwi
  have := of_decide_eq_true hwi
  obtain ⟨f1, f2, f3, f4, f5, f6, f7, f8⟩ := dI_f (a3 i hi)
  refine ⟨⟨f1, f2, by omega⟩, ⟨f4, f5, f6⟩, ?_, ?_⟩
  · rcases f7 with ⟨z, -⟩ | ⟨z, z2⟩
    · exact Or.inl z
    · right
      have hp2 : pC d i = pz (d (26 + 6 * i + 4)) := by unfold pC; rw [z, nI_clamp (by omega)]; rw [← z]
      rw [hp2]; exact ⟨z, this.1⟩
  · rcases f8 with ⟨z, -⟩ | ⟨z, z2⟩
    · exact Or.inl z
    · right
      have hp2 : pR d i = pz (d (26 + 6 * i + 5)) := by unfold pR; rw [z, nI_clamp (by omega)]; rw [← z]
      rw [hp2]; exact ⟨z, this.2⟩
section S993
variable {X : am_X} {M : Nat → Nat → Int32}
theorem inside_d {d : Nat → Int32} {i : Nat} (hR : RG M 15 d) (hd : dW d) (hi : i < mI d) : am_ev X kX1_isInside 0 [.ref 15, .int (nI i)] [] (hp M) = some (some (.int (bI (whI d i))), hp M) := by
  obtain ⟨a1, a2, a3, a4, a5⟩ := hd
  obtain ⟨f1, f2, f3, f4, f5, f6, f7, f8⟩ := dI_f (a3 i hi)
  obtain ⟨c1, c2⟩ := @C_isInside X M 15 i (Or.inr (Or.inl rfl)) (by omega)
  have e0 : M 15 0 = nI (nC d) := hR.1.1.trans a1.1
  have x0 : M (15 + 4) i = nI (wI d i) := (hR.2.2.2 i hi 0 (by decide)).trans f1
  have x1 : M (15 + 4 + 1) i = nI (tI d i) := (hR.2.2.2 i hi 1 (by decide)).trans f4
  have x4 : M (15 + 4 + 4) i = d (26 + 6 * i + 4) := hR.2.2.2 i hi 4 (by decide)
  have x5 : M (15 + 4 + 5) i = d (26 + 6 * i + 5) := hR.2.2.2 i hi 5 (by decide)
  rw [e0, x0, x1, x4, x5] at c1 c2
  have key : (nI (wI d i) ≤ nI (nC d) ∧ pnC (nI (nC d)) (nI (wI d i)) (d (26 + 6 * i + 4)) ∧ pnC 12 (nI (tI d i)) (d (26 + 6 * i + 5))) ↔ (pz (d (26 + 6 * i + 4)) + wI d i ≤ nC d ∧ pz (d (26 + 6 * i + 5)) + tI d i ≤ 12) := by
    have hn := a1.2
    rw [le_nn (by omega) (by omega)]
    constructor
    · rintro ⟨h1, h2, h3⟩
      constructor
      · rcases f7 with ⟨z, z2⟩ | ⟨z, z2⟩
        · omega
        · rw [z] at h2
          exact pn_no h1 (by omega) (by omega) h2
      · rcases f8 with ⟨z, z2⟩ | ⟨z, z2⟩
        · omega
        · rw [z] at h3
          exact pn_no (n := 12) (by omega) (by omega) (by omega) h3
    · rintro ⟨h1, h2⟩
      refine ⟨by omega, ?_, ?_⟩
      · rcases f7 with ⟨z, z2⟩ | ⟨z, z2⟩
        · exact Or.inl z
        · rw [z]; exact pn_to h1 (by omega)
      · rcases f8 with ⟨z, z2⟩ | ⟨z, z2⟩
        · exact Or.inl z
        · rw [z]; exact pn_to (n := 12) h2 (by omega)
  unfold whI
  by_cases h : pz (d (26 + 6 * i + 4)) + wI d i ≤ nC d ∧ pz (d (26 + 6 * i + 5)) + tI d i ≤ 12
  · rw [decide_eq_true h, bI_t]; exact c1 (key.mpr h)
  · rw [decide_eq_false h, bI_f]; exact c2 (fun z => h (key.mp z))
theorem dw1 {d : Nat → Int32} (hR : RG M 15 d) (hd : dW d) (k : Nat) : ∀ i, i + k = mI d → am_ev X kX6_isDraftWhole 2 [.ref 12, .int (nI i)] [] (hp M) = if alF (whI d) i k = true then am_ev X kX6_isDraftWhole 34 [.ref 12, .int (nI 0)] [] (hp M) else some (some (.int 0), hp M) := by
  have q7 : M 15 7 = nI (mI d) := hR.1.2.2.2.2.2.trans hd.2.1.1
  have hm := hd.2.1.2
  induction k with
  | zero =>
    intro i hi
    rw [alF, if_pos rfl, nI_0]
    simp (disch := omega) only [iX6_isDraftWhole_2, iX6_isDraftWhole_3, iX6_isDraftWhole_4, iX6_isDraftWhole_7, iX6_isDraftWhole_10, iX6_isDraftWhole_32, iX6_isDraftWhole_33, true_or, or_true, Option.bind_some, Option.bind_none, kk_hp, kn_hp, el_i, el_b, el_z, am_cat_nil, am_cat_i, am_cat_r, am_cat_l, am_cat_n, gd_i, gd_r, gd_n, gd_u, List.length_cons, List.length_nil, true_and, and_true, ↓reduceIte, Nat.zero_le, Nat.reduceLeDiff, Nat.reduceAdd, e_10, e_01, e_00, e_11, Int32.reduceLE, Int32.reduceLT, Int32.reduceAdd, Int32.reduceSub, b01, if_true, if_false, ite_self, rc_12, gf_12_0, gf_12_1, gf_12_2, pf_12_2, gf_12_3, pf_12_3, gf_12_4, pf_12_4, gf_12_5, pf_12_5, gf_12_6, pf_12_6, gf_12_7, pf_12_7, rc_15, gf_15_0, pf_15_0, gf_15_1, gf_15_2, gf_15_3, pf_15_3, gf_15_4, pf_15_4, gf_15_5, pf_15_5, gf_15_6, pf_15_6, gf_15_7, pf_15_7, gf_15_8, gf_15_9, nl_add, nl_add', nl_mul, nI_add, in_t, cl_n, le_nn, lt_nn, le_ln, le_nl, lt_nl, lt_ln, eq_nn, eq_nl, in_lit, cl_lit, Nat.le_refl, Nat.add_zero, q7, show mI d ≤ i by omega]
  | succ k ih =>
    intro i hi
    have e := @inside_d X M d i hR hd (by omega)
    rw [alF]
    cases hw : whI d i with
    | true =>
      rw [hw, bI_t] at e
      rw [Bool.true_and, ← ih (i + 1) (by omega)]
      conv => lhs; rw [iX6_isDraftWhole_2]
      simp (disch := omega) only [iX6_isDraftWhole_3, iX6_isDraftWhole_4, iX6_isDraftWhole_7, iX6_isDraftWhole_10, iX6_isDraftWhole_13, iX6_isDraftWhole_14, iX6_isDraftWhole_17, iX6_isDraftWhole_18, iX6_isDraftWhole_21, iX6_isDraftWhole_24, iX6_isDraftWhole_25, iX6_isDraftWhole_26, iX6_isDraftWhole_29, true_or, or_true, Option.bind_some, Option.bind_none, kk_hp, kn_hp, el_i, el_b, el_z, am_cat_nil, am_cat_i, am_cat_r, am_cat_l, am_cat_n, gd_i, gd_r, gd_n, gd_u, List.length_cons, List.length_nil, true_and, and_true, ↓reduceIte, Nat.zero_le, Nat.reduceLeDiff, Nat.reduceAdd, e_10, e_01, e_00, e_11, Int32.reduceLE, Int32.reduceLT, Int32.reduceAdd, Int32.reduceSub, b01, if_true, if_false, ite_self, rc_12, gf_12_0, gf_12_1, gf_12_2, pf_12_2, gf_12_3, pf_12_3, gf_12_4, pf_12_4, gf_12_5, pf_12_5, gf_12_6, pf_12_6, gf_12_7, pf_12_7, rc_15, gf_15_0, pf_15_0, gf_15_1, gf_15_2, gf_15_3, pf_15_3, gf_15_4, pf_15_4, gf_15_5, pf_15_5, gf_15_6, pf_15_6, gf_15_7, pf_15_7, gf_15_8, gf_15_9, nl_add, nl_add', nl_mul, nI_add, in_t, cl_n, le_nn, lt_nn, le_ln, le_nl, lt_nl, lt_ln, eq_nn, eq_nl, in_lit, cl_lit, Nat.le_refl, Nat.add_zero, q7, show ¬ mI d ≤ i by omega, e]
    | false =>
      rw [hw, bI_f] at e
      rw [Bool.false_and, if_neg (by decide)]
      conv => lhs; rw [iX6_isDraftWhole_2]
      simp (disch := omega) only [iX6_isDraftWhole_3, iX6_isDraftWhole_4, iX6_isDraftWhole_7, iX6_isDraftWhole_10, iX6_isDraftWhole_13, iX6_isDraftWhole_14, iX6_isDraftWhole_17, iX6_isDraftWhole_18, iX6_isDraftWhole_21, iX6_isDraftWhole_24, iX6_isDraftWhole_25, iX6_isDraftWhole_26, iX6_isDraftWhole_29, true_or, or_true, Option.bind_some, Option.bind_none, kk_hp, kn_hp, el_i, el_b, el_z, am_cat_nil, am_cat_i, am_cat_r, am_cat_l, am_cat_n, gd_i, gd_r, gd_n, gd_u, List.length_cons, List.length_nil, true_and, and_true, ↓reduceIte, Nat.zero_le, Nat.reduceLeDiff, Nat.reduceAdd, e_10, e_01, e_00, e_11, Int32.reduceLE, Int32.reduceLT, Int32.reduceAdd, Int32.reduceSub, b01, if_true, if_false, ite_self, rc_12, gf_12_0, gf_12_1, gf_12_2, pf_12_2, gf_12_3, pf_12_3, gf_12_4, pf_12_4, gf_12_5, pf_12_5, gf_12_6, pf_12_6, gf_12_7, pf_12_7, rc_15, gf_15_0, pf_15_0, gf_15_1, gf_15_2, gf_15_3, pf_15_3, gf_15_4, pf_15_4, gf_15_5, pf_15_5, gf_15_6, pf_15_6, gf_15_7, pf_15_7, gf_15_8, gf_15_9, nl_add, nl_add', nl_mul, nI_add, in_t, cl_n, le_nn, lt_nn, le_ln, le_nl, lt_nl, lt_ln, eq_nn, eq_nl, in_lit, cl_lit, Nat.le_refl, Nat.add_zero, q7, show ¬ mI d ≤ i by omega, e]
theorem dw2 {d : Nat → Int32} (hR : RG M 15 d) (k : Nat) : ∀ v, v + k = 8 → am_ev X kX6_isDraftWhole 34 [.ref 12, .int (nI v)] [] (hp M) = some (some (.int (bI (alF (fun v => decide (d (17 + v) ≤ d 0)) v k))), hp M) := by
  have q0 : M 15 0 = d 0 := hR.1.1
  induction k with
  | zero =>
    intro v hv
    rw [alF, bI_t]
    simp (disch := omega) only [iX6_isDraftWhole_34, iX6_isDraftWhole_35, iX6_isDraftWhole_37, iX6_isDraftWhole_67, iX6_isDraftWhole_68, true_or, or_true, Option.bind_some, Option.bind_none, kk_hp, kn_hp, el_i, el_b, el_z, am_cat_nil, am_cat_i, am_cat_r, am_cat_l, am_cat_n, gd_i, gd_r, gd_n, gd_u, List.length_cons, List.length_nil, true_and, and_true, ↓reduceIte, Nat.zero_le, Nat.reduceLeDiff, Nat.reduceAdd, e_10, e_01, e_00, e_11, Int32.reduceLE, Int32.reduceLT, Int32.reduceAdd, Int32.reduceSub, b01, if_true, if_false, ite_self, nl_add, nl_add', nl_mul, nI_add, in_t, cl_n, le_nn, lt_nn, le_ln, le_nl, lt_nl, lt_ln, eq_nn, eq_nl, in_lit, cl_lit, Nat.le_refl, Nat.add_zero, show 8 ≤ v by omega]
  | succ k ih =>
    intro v hv
    have e : M 25 v = d (17 + v) := hR.2.2.1 v (by omega)
    rw [alF]
    by_cases h : d (17 + v) ≤ d 0
    · rw [decide_eq_true h, Bool.true_and, ← ih (v + 1) (by omega)]
      conv => lhs; rw [iX6_isDraftWhole_34]
      simp (disch := omega) only [iX6_isDraftWhole_35, iX6_isDraftWhole_37, iX6_isDraftWhole_40, iX6_isDraftWhole_41, iX6_isDraftWhole_44, iX6_isDraftWhole_47, iX6_isDraftWhole_48, iX6_isDraftWhole_49, iX6_isDraftWhole_50, iX6_isDraftWhole_53, iX6_isDraftWhole_56, iX6_isDraftWhole_59, iX6_isDraftWhole_60, iX6_isDraftWhole_61, iX6_isDraftWhole_64, true_or, or_true, Option.bind_some, Option.bind_none, kk_hp, kn_hp, el_i, el_b, el_z, am_cat_nil, am_cat_i, am_cat_r, am_cat_l, am_cat_n, gd_i, gd_r, gd_n, gd_u, List.length_cons, List.length_nil, true_and, and_true, ↓reduceIte, Nat.zero_le, Nat.reduceLeDiff, Nat.reduceAdd, e_10, e_01, e_00, e_11, Int32.reduceLE, Int32.reduceLT, Int32.reduceAdd, Int32.reduceSub, b01, if_true, if_false, ite_self, rc_12, gf_12_0, gf_12_1, gf_12_2, pf_12_2, gf_12_3, pf_12_3, gf_12_4, pf_12_4, gf_12_5, pf_12_5, gf_12_6, pf_12_6, gf_12_7, pf_12_7, rc_15, gf_15_0, pf_15_0, gf_15_1, gf_15_2, gf_15_3, pf_15_3, gf_15_4, pf_15_4, gf_15_5, pf_15_5, gf_15_6, pf_15_6, gf_15_7, pf_15_7, gf_15_8, gf_15_9, ga_25, wi_25, nl_add, nl_add', nl_mul, nI_add, in_t, cl_n, le_nn, lt_nn, le_ln, le_nl, lt_nl, lt_ln, eq_nn, eq_nl, in_lit, cl_lit, Nat.le_refl, Nat.add_zero, q0, show ¬ 8 ≤ v by omega, e, h]
    · rw [decide_eq_false h, Bool.false_and, bI_f]
      conv => lhs; rw [iX6_isDraftWhole_34]
      simp (disch := omega) only [iX6_isDraftWhole_35, iX6_isDraftWhole_37, iX6_isDraftWhole_40, iX6_isDraftWhole_41, iX6_isDraftWhole_44, iX6_isDraftWhole_47, iX6_isDraftWhole_48, iX6_isDraftWhole_49, iX6_isDraftWhole_50, iX6_isDraftWhole_53, iX6_isDraftWhole_56, iX6_isDraftWhole_59, iX6_isDraftWhole_60, iX6_isDraftWhole_61, iX6_isDraftWhole_64, true_or, or_true, Option.bind_some, Option.bind_none, kk_hp, kn_hp, el_i, el_b, el_z, am_cat_nil, am_cat_i, am_cat_r, am_cat_l, am_cat_n, gd_i, gd_r, gd_n, gd_u, List.length_cons, List.length_nil, true_and, and_true, ↓reduceIte, Nat.zero_le, Nat.reduceLeDiff, Nat.reduceAdd, e_10, e_01, e_00, e_11, Int32.reduceLE, Int32.reduceLT, Int32.reduceAdd, Int32.reduceSub, b01, if_true, if_false, ite_self, rc_12, gf_12_0, gf_12_1, gf_12_2, pf_12_2, gf_12_3, pf_12_3, gf_12_4, pf_12_4, gf_12_5, pf_12_5, gf_12_6, pf_12_6, gf_12_7, pf_12_7, rc_15, gf_15_0, pf_15_0, gf_15_1, gf_15_2, gf_15_3, pf_15_3, gf_15_4, pf_15_4, gf_15_5, pf_15_5, gf_15_6, pf_15_6, gf_15_7, pf_15_7, gf_15_8, gf_15_9, ga_25, wi_25, nl_add, nl_add', nl_mul, nI_add, in_t, cl_n, le_nn, lt_nn, le_ln, le_nl, lt_nl, lt_ln, eq_nn, eq_nl, in_lit, cl_lit, Nat.le_refl, Nat.add_zero, q0, show ¬ 8 ≤ v by omega, e, h]
theorem C_isDraftWhole {d : Nat → Int32} (hR : RG M 15 d) (hd : dW d) : am_ev X kX6_isDraftWhole 0 [.ref 12, am_u] [] (hp M) = some (some (.int (bI (whB d))), hp M) := by
  have e1 := @dw1 X M d hR hd (mI d) 0 (by omega)
  have e2 := @dw2 X M d hR 8 0 rfl
  rw [nI_0] at e1 e2
  simp (disch := omega) only [iX6_isDraftWhole_0, iX6_isDraftWhole_1, true_or, or_true, Option.bind_some, Option.bind_none, kk_hp, kn_hp, el_i, el_b, el_z, am_cat_nil, am_cat_i, am_cat_r, am_cat_l, am_cat_n, gd_i, gd_r, gd_n, gd_u, List.length_cons, List.length_nil, true_and, and_true, ↓reduceIte, Nat.zero_le, Nat.reduceLeDiff, Nat.reduceAdd, e_10, e_01, e_00, e_11, Int32.reduceLE, Int32.reduceLT, Int32.reduceAdd, Int32.reduceSub, b01, if_true, if_false, ite_self]
  rw [e1, e2]
  unfold whB
  cases alF (whI d) 0 (mI d) with
  | true => rw [if_pos rfl, Bool.true_and]
  | false => rw [if_neg (by decide), Bool.false_and, bI_f]
theorem M_isWhole {d : Nat → Int32} (h86 : M 86 = d) (hd : dW d) : am_ev X kX9_isWhole 0 [.ref 82, am_u, am_u, am_u, am_u, am_u] [] (hp M) = some (some (.int (bI (whB d))), hp M) := by
  have q25 : M 86 25 = nI (mI d) := by rw [h86]; exact hd.2.1.1
  have hm := hd.2.1.2
  have hn := hd.1.2
  have q0 : M 86 0 = nI (nC d) := by rw [h86]; exact hd.1.1
  have hl1 := loop_inv (fun i (u : Value × Value × Value) => am_ev X kX9_isWhole 4 [.ref 82, .int (bI (alF (whI d) 0 i)), .int (nI i), u.1, u.2.1, u.2.2] [] (hp M)) (fun _ _ => True) 0 (mI d) (by omega) (am_u, am_u, am_u) trivial ?_
  · obtain ⟨u, e1, -⟩ := hl1
    have hl2 := chain (fun v => am_ev X kX9_isWhole 131 [.ref 82, .int (bI (alF (whI d) 0 (mI d) && alF (fun v => decide (d (17 + v) ≤ d 0)) 0 v)), .int (nI v), u.1, u.2.1, u.2.2] [] (hp M)) 0 8 (by omega) (fun v _ hv => by
      have e : M 86 (17 + v) = d (17 + v) := by rw [h86]
      have e0 : M 86 0 = d 0 := by rw [h86]
      rw [alF_snoc, Nat.zero_add, ← Bool.and_assoc]
      generalize (alF (whI d) 0 (mI d) && alF (fun v => decide (d (17 + v) ≤ d 0)) 0 v) = acc
      conv => lhs; rw [iX9_isWhole_131]
      cases acc with
      | true =>
        by_cases h : d (17 + v) ≤ d 0
        · rw [decide_eq_true h]
          simp (disch := omega) only [iX9_isWhole_132, iX9_isWhole_134, iX9_isWhole_137, iX9_isWhole_138, iX9_isWhole_141, iX9_isWhole_142, iX9_isWhole_145, iX9_isWhole_147, iX9_isWhole_148, iX9_isWhole_149, iX9_isWhole_150, iX9_isWhole_151, iX9_isWhole_154, iX9_isWhole_155, iX9_isWhole_156, iX9_isWhole_159, iX9_isWhole_160, iX9_isWhole_163, iX9_isWhole_164, iX9_isWhole_165, iX9_isWhole_168, true_or, or_true, Option.bind_some, Option.bind_none, kk_hp, kn_hp, el_i, el_b, el_z, am_cat_nil, am_cat_i, am_cat_r, am_cat_l, am_cat_n, gd_i, gd_r, gd_n, gd_u, List.length_cons, List.length_nil, true_and, and_true, ↓reduceIte, Nat.zero_le, Nat.reduceLeDiff, Nat.reduceAdd, e_10, e_01, e_00, e_11, Int32.reduceLE, Int32.reduceLT, Int32.reduceAdd, Int32.reduceSub, b01, if_true, if_false, ite_self, rc_82, gf_82_0, gf_82_1, gf_82_2, gf_82_3, gf_82_4, gf_82_5, gf_82_6, pf_82_6, gf_82_7, pf_82_7, gf_82_8, pf_82_8, gf_82_9, pf_82_9, gf_82_10, pf_82_10, gf_82_11, pf_82_11, gf_82_12, pf_82_12, gf_82_13, gf_82_14, gf_82_15, gf_82_16, pf_82_16, gf_82_17, gf_82_18, gf_82_19, gf_82_20, gf_82_21, gf_82_22, gf_82_23, gf_82_24, gf_82_25, pf_82_25, ga_83, wi_83, ga_84, wi_84, ga_85, wb_85, ga_86, wi_86, ga_87, wb_87, ga_88, wi_88, ga_89, wi_89, ga_90, wi_90, ga_91, wi_91, ga_92, wi_92, ga_93, wi_93, ga_94, wi_94, ga_95, wi_95, ga_96, wb_96, ga_97, wi_97, ga_98, wi_98, ga_99, wi_99, nl_add, nl_add', nl_mul, nI_add, in_t, cl_n, le_nn, lt_nn, le_ln, le_nl, lt_nl, lt_ln, eq_nn, eq_nl, in_lit, cl_lit, Nat.le_refl, Nat.add_zero, show ¬ 8 ≤ v by omega, bI_t, e, e0, h, Int32.not_lt.mpr h, Bool.and_self]
        · rw [decide_eq_false h]
          simp (disch := omega) only [iX9_isWhole_132, iX9_isWhole_134, iX9_isWhole_137, iX9_isWhole_138, iX9_isWhole_141, iX9_isWhole_142, iX9_isWhole_145, iX9_isWhole_147, iX9_isWhole_148, iX9_isWhole_149, iX9_isWhole_150, iX9_isWhole_151, iX9_isWhole_154, iX9_isWhole_155, iX9_isWhole_156, iX9_isWhole_159, iX9_isWhole_160, iX9_isWhole_163, iX9_isWhole_164, iX9_isWhole_165, iX9_isWhole_168, true_or, or_true, Option.bind_some, Option.bind_none, kk_hp, kn_hp, el_i, el_b, el_z, am_cat_nil, am_cat_i, am_cat_r, am_cat_l, am_cat_n, gd_i, gd_r, gd_n, gd_u, List.length_cons, List.length_nil, true_and, and_true, ↓reduceIte, Nat.zero_le, Nat.reduceLeDiff, Nat.reduceAdd, e_10, e_01, e_00, e_11, Int32.reduceLE, Int32.reduceLT, Int32.reduceAdd, Int32.reduceSub, b01, if_true, if_false, ite_self, rc_82, gf_82_0, gf_82_1, gf_82_2, gf_82_3, gf_82_4, gf_82_5, gf_82_6, pf_82_6, gf_82_7, pf_82_7, gf_82_8, pf_82_8, gf_82_9, pf_82_9, gf_82_10, pf_82_10, gf_82_11, pf_82_11, gf_82_12, pf_82_12, gf_82_13, gf_82_14, gf_82_15, gf_82_16, pf_82_16, gf_82_17, gf_82_18, gf_82_19, gf_82_20, gf_82_21, gf_82_22, gf_82_23, gf_82_24, gf_82_25, pf_82_25, ga_83, wi_83, ga_84, wi_84, ga_85, wb_85, ga_86, wi_86, ga_87, wb_87, ga_88, wi_88, ga_89, wi_89, ga_90, wi_90, ga_91, wi_91, ga_92, wi_92, ga_93, wi_93, ga_94, wi_94, ga_95, wi_95, ga_96, wb_96, ga_97, wi_97, ga_98, wi_98, ga_99, wi_99, nl_add, nl_add', nl_mul, nI_add, in_t, cl_n, le_nn, lt_nn, le_ln, le_nl, lt_nl, lt_ln, eq_nn, eq_nl, in_lit, cl_lit, Nat.le_refl, Nat.add_zero, show ¬ 8 ≤ v by omega, bI_t, bI_f, e, e0, Int32.not_le.mp h, Bool.and_false]
      | false =>
        simp (disch := omega) only [iX9_isWhole_132, iX9_isWhole_134, iX9_isWhole_137, iX9_isWhole_138, iX9_isWhole_141, iX9_isWhole_142, iX9_isWhole_145, iX9_isWhole_147, iX9_isWhole_148, iX9_isWhole_149, iX9_isWhole_150, iX9_isWhole_151, iX9_isWhole_154, iX9_isWhole_155, iX9_isWhole_156, iX9_isWhole_159, iX9_isWhole_160, iX9_isWhole_163, iX9_isWhole_164, iX9_isWhole_165, iX9_isWhole_168, true_or, or_true, Option.bind_some, Option.bind_none, kk_hp, kn_hp, el_i, el_b, el_z, am_cat_nil, am_cat_i, am_cat_r, am_cat_l, am_cat_n, gd_i, gd_r, gd_n, gd_u, List.length_cons, List.length_nil, true_and, and_true, ↓reduceIte, Nat.zero_le, Nat.reduceLeDiff, Nat.reduceAdd, e_10, e_01, e_00, e_11, Int32.reduceLE, Int32.reduceLT, Int32.reduceAdd, Int32.reduceSub, b01, if_true, if_false, ite_self, rc_82, gf_82_0, gf_82_1, gf_82_2, gf_82_3, gf_82_4, gf_82_5, gf_82_6, pf_82_6, gf_82_7, pf_82_7, gf_82_8, pf_82_8, gf_82_9, pf_82_9, gf_82_10, pf_82_10, gf_82_11, pf_82_11, gf_82_12, pf_82_12, gf_82_13, gf_82_14, gf_82_15, gf_82_16, pf_82_16, gf_82_17, gf_82_18, gf_82_19, gf_82_20, gf_82_21, gf_82_22, gf_82_23, gf_82_24, gf_82_25, pf_82_25, ga_83, wi_83, ga_84, wi_84, ga_85, wb_85, ga_86, wi_86, ga_87, wb_87, ga_88, wi_88, ga_89, wi_89, ga_90, wi_90, ga_91, wi_91, ga_92, wi_92, ga_93, wi_93, ga_94, wi_94, ga_95, wi_95, ga_96, wb_96, ga_97, wi_97, ga_98, wi_98, ga_99, wi_99, nl_add, nl_add', nl_mul, nI_add, in_t, cl_n, le_nn, lt_nn, le_ln, le_nl, lt_nl, lt_ln, eq_nn, eq_nl, in_lit, cl_lit, Nat.le_refl, Nat.add_zero, show ¬ 8 ≤ v by omega, bI_f, Bool.false_and])
    rw [alF, Bool.and_true, nI_0] at hl2
    have e1' := e1
    rw [nI_0] at e1'
    simp (disch := omega) only [iX9_isWhole_0, iX9_isWhole_1, iX9_isWhole_2, iX9_isWhole_3, true_or, or_true, Option.bind_some, Option.bind_none, kk_hp, kn_hp, el_i, el_b, el_z, am_cat_nil, am_cat_i, am_cat_r, am_cat_l, am_cat_n, gd_i, gd_r, gd_n, gd_u, List.length_cons, List.length_nil, true_and, and_true, ↓reduceIte, Nat.zero_le, Nat.reduceLeDiff, Nat.reduceAdd, e_10, e_01, e_00, e_11, Int32.reduceLE, Int32.reduceLT, Int32.reduceAdd, Int32.reduceSub, b01, if_true, if_false, ite_self]
    rw [show (1 : Int32) = bI (alF (whI d) 0 0) from rfl, e1']
    simp (disch := omega) only [iX9_isWhole_4, iX9_isWhole_5, iX9_isWhole_6, iX9_isWhole_9, iX9_isWhole_11, iX9_isWhole_12, iX9_isWhole_129, iX9_isWhole_130, true_or, or_true, Option.bind_some, Option.bind_none, kk_hp, kn_hp, el_i, el_b, el_z, am_cat_nil, am_cat_i, am_cat_r, am_cat_l, am_cat_n, gd_i, gd_r, gd_n, gd_u, List.length_cons, List.length_nil, true_and, and_true, ↓reduceIte, Nat.zero_le, Nat.reduceLeDiff, Nat.reduceAdd, e_10, e_01, e_00, e_11, Int32.reduceLE, Int32.reduceLT, Int32.reduceAdd, Int32.reduceSub, b01, if_true, if_false, ite_self, rc_82, gf_82_0, gf_82_1, gf_82_2, gf_82_3, gf_82_4, gf_82_5, gf_82_6, pf_82_6, gf_82_7, pf_82_7, gf_82_8, pf_82_8, gf_82_9, pf_82_9, gf_82_10, pf_82_10, gf_82_11, pf_82_11, gf_82_12, pf_82_12, gf_82_13, gf_82_14, gf_82_15, gf_82_16, pf_82_16, gf_82_17, gf_82_18, gf_82_19, gf_82_20, gf_82_21, gf_82_22, gf_82_23, gf_82_24, gf_82_25, pf_82_25, ga_83, wi_83, ga_84, wi_84, ga_85, wb_85, ga_86, wi_86, ga_87, wb_87, ga_88, wi_88, ga_89, wi_89, ga_90, wi_90, ga_91, wi_91, ga_92, wi_92, ga_93, wi_93, ga_94, wi_94, ga_95, wi_95, ga_96, wb_96, ga_97, wi_97, ga_98, wi_98, ga_99, wi_99, nl_add, nl_add', nl_mul, nI_add, in_t, cl_n, le_nn, lt_nn, le_ln, le_nl, lt_nl, lt_ln, eq_nn, eq_nl, in_lit, cl_lit, Nat.le_refl, Nat.add_zero, q25]
    rw [hl2]
    simp (disch := omega) only [iX9_isWhole_131, iX9_isWhole_132, iX9_isWhole_134, iX9_isWhole_171, iX9_isWhole_172, true_or, or_true, Option.bind_some, Option.bind_none, kk_hp, kn_hp, el_i, el_b, el_z, am_cat_nil, am_cat_i, am_cat_r, am_cat_l, am_cat_n, gd_i, gd_r, gd_n, gd_u, List.length_cons, List.length_nil, true_and, and_true, ↓reduceIte, Nat.zero_le, Nat.reduceLeDiff, Nat.reduceAdd, e_10, e_01, e_00, e_11, Int32.reduceLE, Int32.reduceLT, Int32.reduceAdd, Int32.reduceSub, b01, if_true, if_false, ite_self, rc_82, gf_82_0, gf_82_1, gf_82_2, gf_82_3, gf_82_4, gf_82_5, gf_82_6, pf_82_6, gf_82_7, pf_82_7, gf_82_8, pf_82_8, gf_82_9, pf_82_9, gf_82_10, pf_82_10, gf_82_11, pf_82_11, gf_82_12, pf_82_12, gf_82_13, gf_82_14, gf_82_15, gf_82_16, pf_82_16, gf_82_17, gf_82_18, gf_82_19, gf_82_20, gf_82_21, gf_82_22, gf_82_23, gf_82_24, gf_82_25, pf_82_25, ga_83, wi_83, ga_84, wi_84, ga_85, wb_85, ga_86, wi_86, ga_87, wb_87, ga_88, wi_88, ga_89, wi_89, ga_90, wi_90, ga_91, wi_91, ga_92, wi_92, ga_93, wi_93, ga_94, wi_94, ga_95, wi_95, ga_96, wb_96, ga_97, wi_97, ga_98, wi_98, ga_99, wi_99, nl_add, nl_add', nl_mul, nI_add, in_t, cl_n, le_nn, lt_nn, le_ln, le_nl, lt_nl, lt_ln, eq_nn, eq_nl, in_lit, cl_lit, Nat.le_refl, Nat.add_zero, bI_b]
    rfl
  intro i u _ hi _
  obtain ⟨f1, f2, f3, f4, f5, f6, f7, f8⟩ := dI_f (hd.2.2.1 i hi)
  have x0 : M 86 (26 + 6 * i) = nI (wI d i) := by rw [h86]; exact f1
  have x1 : M 86 (26 + 6 * i + 1) = nI (tI d i) := by rw [h86]; exact f4
  have x4 : M 86 (26 + 6 * i + 4) = d (26 + 6 * i + 4) := by rw [h86]
  have x5 : M 86 (26 + 6 * i + 5) = d (26 + 6 * i + 5) := by rw [h86]
  refine ⟨(.int (nI (26 + 6 * i)), .int (nI (pz (d (26 + 6 * i + 4)))), .int (nI (pz (d (26 + 6 * i + 5))))), ?_, trivial⟩
  dsimp only
  rw [alF_snoc, Nat.zero_add]
  have to77 : ∀ acc : Int32, am_ev X kX9_isWhole 4 [.ref 82, .int acc, .int (nI i), u.1, u.2.1, u.2.2] [] (hp M) = am_ev X kX9_isWhole 77 [.ref 82, .int acc, .int (nI i), .int (nI (26 + 6 * i)), .int (nI (pz (d (26 + 6 * i + 4)))), .int (nI (pz (d (26 + 6 * i + 5))))] [] (hp M) := by
    intro acc
    rcases f7 with ⟨z, z2⟩ | ⟨z, z2⟩ <;> rcases f8 with ⟨y, y2⟩ | ⟨y, y2⟩
    · rw [z2, y2, nI_0]
      rw [z] at x4
      rw [y] at x5
      simp (disch := omega) only [iX9_isWhole_4, iX9_isWhole_5, iX9_isWhole_6, iX9_isWhole_9, iX9_isWhole_11, iX9_isWhole_12, iX9_isWhole_15, iX9_isWhole_17, iX9_isWhole_19, iX9_isWhole_20, iX9_isWhole_21, iX9_isWhole_22, iX9_isWhole_23, iX9_isWhole_24, iX9_isWhole_27, iX9_isWhole_28, iX9_isWhole_29, iX9_isWhole_30, iX9_isWhole_31, iX9_isWhole_33, iX9_isWhole_36, iX9_isWhole_37, iX9_isWhole_40, iX9_isWhole_41, iX9_isWhole_44, iX9_isWhole_45, iX9_isWhole_46, iX9_isWhole_47, iX9_isWhole_48, iX9_isWhole_50, iX9_isWhole_51, iX9_isWhole_54, iX9_isWhole_55, iX9_isWhole_56, iX9_isWhole_57, iX9_isWhole_58, iX9_isWhole_60, iX9_isWhole_63, iX9_isWhole_64, iX9_isWhole_67, iX9_isWhole_68, iX9_isWhole_71, iX9_isWhole_72, iX9_isWhole_73, iX9_isWhole_74, iX9_isWhole_75, true_or, or_true, Option.bind_some, Option.bind_none, kk_hp, kn_hp, el_i, el_b, el_z, am_cat_nil, am_cat_i, am_cat_r, am_cat_l, am_cat_n, gd_i, gd_r, gd_n, gd_u, List.length_cons, List.length_nil, true_and, and_true, ↓reduceIte, Nat.zero_le, Nat.reduceLeDiff, Nat.reduceAdd, e_10, e_01, e_00, e_11, Int32.reduceLE, Int32.reduceLT, Int32.reduceAdd, Int32.reduceSub, b01, if_true, if_false, ite_self, rc_82, gf_82_0, gf_82_1, gf_82_2, gf_82_3, gf_82_4, gf_82_5, gf_82_6, pf_82_6, gf_82_7, pf_82_7, gf_82_8, pf_82_8, gf_82_9, pf_82_9, gf_82_10, pf_82_10, gf_82_11, pf_82_11, gf_82_12, pf_82_12, gf_82_13, gf_82_14, gf_82_15, gf_82_16, pf_82_16, gf_82_17, gf_82_18, gf_82_19, gf_82_20, gf_82_21, gf_82_22, gf_82_23, gf_82_24, gf_82_25, pf_82_25, ga_83, wi_83, ga_84, wi_84, ga_85, wb_85, ga_86, wi_86, ga_87, wb_87, ga_88, wi_88, ga_89, wi_89, ga_90, wi_90, ga_91, wi_91, ga_92, wi_92, ga_93, wi_93, ga_94, wi_94, ga_95, wi_95, ga_96, wb_96, ga_97, wi_97, ga_98, wi_98, ga_99, wi_99, nl_add, nl_add', nl_mul, nI_add, in_t, cl_n, le_nn, lt_nn, le_ln, le_nl, lt_nl, lt_ln, eq_nn, eq_nl, in_lit, cl_lit, Nat.le_refl, Nat.add_zero, q25, show ¬ mI d ≤ i by omega, x4, x5]
    · rw [z2, nI_0]
      rw [z] at x4
      rw [y] at x5
      simp (disch := omega) only [iX9_isWhole_4, iX9_isWhole_5, iX9_isWhole_6, iX9_isWhole_9, iX9_isWhole_11, iX9_isWhole_12, iX9_isWhole_15, iX9_isWhole_17, iX9_isWhole_19, iX9_isWhole_20, iX9_isWhole_21, iX9_isWhole_22, iX9_isWhole_23, iX9_isWhole_24, iX9_isWhole_27, iX9_isWhole_28, iX9_isWhole_29, iX9_isWhole_30, iX9_isWhole_31, iX9_isWhole_33, iX9_isWhole_36, iX9_isWhole_37, iX9_isWhole_40, iX9_isWhole_41, iX9_isWhole_44, iX9_isWhole_45, iX9_isWhole_46, iX9_isWhole_47, iX9_isWhole_48, iX9_isWhole_50, iX9_isWhole_51, iX9_isWhole_54, iX9_isWhole_55, iX9_isWhole_56, iX9_isWhole_57, iX9_isWhole_58, iX9_isWhole_60, iX9_isWhole_63, iX9_isWhole_64, iX9_isWhole_67, iX9_isWhole_68, iX9_isWhole_71, iX9_isWhole_72, iX9_isWhole_73, iX9_isWhole_74, iX9_isWhole_75, true_or, or_true, Option.bind_some, Option.bind_none, kk_hp, kn_hp, el_i, el_b, el_z, am_cat_nil, am_cat_i, am_cat_r, am_cat_l, am_cat_n, gd_i, gd_r, gd_n, gd_u, List.length_cons, List.length_nil, true_and, and_true, ↓reduceIte, Nat.zero_le, Nat.reduceLeDiff, Nat.reduceAdd, e_10, e_01, e_00, e_11, Int32.reduceLE, Int32.reduceLT, Int32.reduceAdd, Int32.reduceSub, b01, if_true, if_false, ite_self, rc_82, gf_82_0, gf_82_1, gf_82_2, gf_82_3, gf_82_4, gf_82_5, gf_82_6, pf_82_6, gf_82_7, pf_82_7, gf_82_8, pf_82_8, gf_82_9, pf_82_9, gf_82_10, pf_82_10, gf_82_11, pf_82_11, gf_82_12, pf_82_12, gf_82_13, gf_82_14, gf_82_15, gf_82_16, pf_82_16, gf_82_17, gf_82_18, gf_82_19, gf_82_20, gf_82_21, gf_82_22, gf_82_23, gf_82_24, gf_82_25, pf_82_25, ga_83, wi_83, ga_84, wi_84, ga_85, wb_85, ga_86, wi_86, ga_87, wb_87, ga_88, wi_88, ga_89, wi_89, ga_90, wi_90, ga_91, wi_91, ga_92, wi_92, ga_93, wi_93, ga_94, wi_94, ga_95, wi_95, ga_96, wb_96, ga_97, wi_97, ga_98, wi_98, ga_99, wi_99, nl_add, nl_add', nl_mul, nI_add, in_t, cl_n, le_nn, lt_nn, le_ln, le_nl, lt_nl, lt_ln, eq_nn, eq_nl, in_lit, cl_lit, Nat.le_refl, Nat.add_zero, q25, show ¬ mI d ≤ i by omega, x4, x5, ne_m4]
    · rw [y2, nI_0]
      rw [z] at x4
      rw [y] at x5
      simp (disch := omega) only [iX9_isWhole_4, iX9_isWhole_5, iX9_isWhole_6, iX9_isWhole_9, iX9_isWhole_11, iX9_isWhole_12, iX9_isWhole_15, iX9_isWhole_17, iX9_isWhole_19, iX9_isWhole_20, iX9_isWhole_21, iX9_isWhole_22, iX9_isWhole_23, iX9_isWhole_24, iX9_isWhole_27, iX9_isWhole_28, iX9_isWhole_29, iX9_isWhole_30, iX9_isWhole_31, iX9_isWhole_33, iX9_isWhole_36, iX9_isWhole_37, iX9_isWhole_40, iX9_isWhole_41, iX9_isWhole_44, iX9_isWhole_45, iX9_isWhole_46, iX9_isWhole_47, iX9_isWhole_48, iX9_isWhole_50, iX9_isWhole_51, iX9_isWhole_54, iX9_isWhole_55, iX9_isWhole_56, iX9_isWhole_57, iX9_isWhole_58, iX9_isWhole_60, iX9_isWhole_63, iX9_isWhole_64, iX9_isWhole_67, iX9_isWhole_68, iX9_isWhole_71, iX9_isWhole_72, iX9_isWhole_73, iX9_isWhole_74, iX9_isWhole_75, true_or, or_true, Option.bind_some, Option.bind_none, kk_hp, kn_hp, el_i, el_b, el_z, am_cat_nil, am_cat_i, am_cat_r, am_cat_l, am_cat_n, gd_i, gd_r, gd_n, gd_u, List.length_cons, List.length_nil, true_and, and_true, ↓reduceIte, Nat.zero_le, Nat.reduceLeDiff, Nat.reduceAdd, e_10, e_01, e_00, e_11, Int32.reduceLE, Int32.reduceLT, Int32.reduceAdd, Int32.reduceSub, b01, if_true, if_false, ite_self, rc_82, gf_82_0, gf_82_1, gf_82_2, gf_82_3, gf_82_4, gf_82_5, gf_82_6, pf_82_6, gf_82_7, pf_82_7, gf_82_8, pf_82_8, gf_82_9, pf_82_9, gf_82_10, pf_82_10, gf_82_11, pf_82_11, gf_82_12, pf_82_12, gf_82_13, gf_82_14, gf_82_15, gf_82_16, pf_82_16, gf_82_17, gf_82_18, gf_82_19, gf_82_20, gf_82_21, gf_82_22, gf_82_23, gf_82_24, gf_82_25, pf_82_25, ga_83, wi_83, ga_84, wi_84, ga_85, wb_85, ga_86, wi_86, ga_87, wb_87, ga_88, wi_88, ga_89, wi_89, ga_90, wi_90, ga_91, wi_91, ga_92, wi_92, ga_93, wi_93, ga_94, wi_94, ga_95, wi_95, ga_96, wb_96, ga_97, wi_97, ga_98, wi_98, ga_99, wi_99, nl_add, nl_add', nl_mul, nI_add, in_t, cl_n, le_nn, lt_nn, le_ln, le_nl, lt_nl, lt_ln, eq_nn, eq_nl, in_lit, cl_lit, Nat.le_refl, Nat.add_zero, q25, show ¬ mI d ≤ i by omega, x4, x5, ne_m4]
    · rw [z] at x4
      rw [y] at x5
      simp (disch := omega) only [iX9_isWhole_4, iX9_isWhole_5, iX9_isWhole_6, iX9_isWhole_9, iX9_isWhole_11, iX9_isWhole_12, iX9_isWhole_15, iX9_isWhole_17, iX9_isWhole_19, iX9_isWhole_20, iX9_isWhole_21, iX9_isWhole_22, iX9_isWhole_23, iX9_isWhole_24, iX9_isWhole_27, iX9_isWhole_28, iX9_isWhole_29, iX9_isWhole_30, iX9_isWhole_31, iX9_isWhole_33, iX9_isWhole_36, iX9_isWhole_37, iX9_isWhole_40, iX9_isWhole_41, iX9_isWhole_44, iX9_isWhole_45, iX9_isWhole_46, iX9_isWhole_47, iX9_isWhole_48, iX9_isWhole_50, iX9_isWhole_51, iX9_isWhole_54, iX9_isWhole_55, iX9_isWhole_56, iX9_isWhole_57, iX9_isWhole_58, iX9_isWhole_60, iX9_isWhole_63, iX9_isWhole_64, iX9_isWhole_67, iX9_isWhole_68, iX9_isWhole_71, iX9_isWhole_72, iX9_isWhole_73, iX9_isWhole_74, iX9_isWhole_75, true_or, or_true, Option.bind_some, Option.bind_none, kk_hp, kn_hp, el_i, el_b, el_z, am_cat_nil, am_cat_i, am_cat_r, am_cat_l, am_cat_n, gd_i, gd_r, gd_n, gd_u, List.length_cons, List.length_nil, true_and, and_true, ↓reduceIte, Nat.zero_le, Nat.reduceLeDiff, Nat.reduceAdd, e_10, e_01, e_00, e_11, Int32.reduceLE, Int32.reduceLT, Int32.reduceAdd, Int32.reduceSub, b01, if_true, if_false, ite_self, rc_82, gf_82_0, gf_82_1, gf_82_2, gf_82_3, gf_82_4, gf_82_5, gf_82_6, pf_82_6, gf_82_7, pf_82_7, gf_82_8, pf_82_8, gf_82_9, pf_82_9, gf_82_10, pf_82_10, gf_82_11, pf_82_11, gf_82_12, pf_82_12, gf_82_13, gf_82_14, gf_82_15, gf_82_16, pf_82_16, gf_82_17, gf_82_18, gf_82_19, gf_82_20, gf_82_21, gf_82_22, gf_82_23, gf_82_24, gf_82_25, pf_82_25, ga_83, wi_83, ga_84, wi_84, ga_85, wb_85, ga_86, wi_86, ga_87, wb_87, ga_88, wi_88, ga_89, wi_89, ga_90, wi_90, ga_91, wi_91, ga_92, wi_92, ga_93, wi_93, ga_94, wi_94, ga_95, wi_95, ga_96, wb_96, ga_97, wi_97, ga_98, wi_98, ga_99, wi_99, nl_add, nl_add', nl_mul, nI_add, in_t, cl_n, le_nn, lt_nn, le_ln, le_nl, lt_nl, lt_ln, eq_nn, eq_nl, in_lit, cl_lit, Nat.le_refl, Nat.add_zero, q25, show ¬ mI d ≤ i by omega, x4, x5, ne_m4]
  rw [to77]
  generalize hp4 : pz (d (26 + 6 * i + 4)) = a at *
  generalize hp5 : pz (d (26 + 6 * i + 5)) = c at *
  have ha : a ≤ 6 := by rcases f7 with ⟨_, z⟩ | ⟨_, z⟩ <;> omega
  have hc : c ≤ 11 := by rcases f8 with ⟨_, z⟩ | ⟨_, z⟩ <;> omega
  have ew : whI d i = decide (a + wI d i ≤ nC d ∧ c + tI d i ≤ 12) := by unfold whI; rw [hp4, hp5]
  rw [ew]
  generalize alF (whI d) 0 i = acc
  cases acc with
  | false => simp (disch := omega) only [iX9_isWhole_77, iX9_isWhole_78, iX9_isWhole_81, iX9_isWhole_83, iX9_isWhole_84, iX9_isWhole_87, iX9_isWhole_88, iX9_isWhole_89, iX9_isWhole_90, iX9_isWhole_91, iX9_isWhole_92, iX9_isWhole_93, iX9_isWhole_96, iX9_isWhole_97, iX9_isWhole_98, iX9_isWhole_101, iX9_isWhole_103, iX9_isWhole_104, iX9_isWhole_107, iX9_isWhole_108, iX9_isWhole_109, iX9_isWhole_110, iX9_isWhole_111, iX9_isWhole_112, iX9_isWhole_114, iX9_isWhole_117, iX9_isWhole_118, iX9_isWhole_121, iX9_isWhole_122, iX9_isWhole_123, iX9_isWhole_126, true_or, or_true, Option.bind_some, Option.bind_none, kk_hp, kn_hp, el_i, el_b, el_z, am_cat_nil, am_cat_i, am_cat_r, am_cat_l, am_cat_n, gd_i, gd_r, gd_n, gd_u, List.length_cons, List.length_nil, true_and, and_true, ↓reduceIte, Nat.zero_le, Nat.reduceLeDiff, Nat.reduceAdd, e_10, e_01, e_00, e_11, Int32.reduceLE, Int32.reduceLT, Int32.reduceAdd, Int32.reduceSub, b01, if_true, if_false, ite_self, rc_82, gf_82_0, gf_82_1, gf_82_2, gf_82_3, gf_82_4, gf_82_5, gf_82_6, pf_82_6, gf_82_7, pf_82_7, gf_82_8, pf_82_8, gf_82_9, pf_82_9, gf_82_10, pf_82_10, gf_82_11, pf_82_11, gf_82_12, pf_82_12, gf_82_13, gf_82_14, gf_82_15, gf_82_16, pf_82_16, gf_82_17, gf_82_18, gf_82_19, gf_82_20, gf_82_21, gf_82_22, gf_82_23, gf_82_24, gf_82_25, pf_82_25, ga_83, wi_83, ga_84, wi_84, ga_85, wb_85, ga_86, wi_86, ga_87, wb_87, ga_88, wi_88, ga_89, wi_89, ga_90, wi_90, ga_91, wi_91, ga_92, wi_92, ga_93, wi_93, ga_94, wi_94, ga_95, wi_95, ga_96, wb_96, ga_97, wi_97, ga_98, wi_98, ga_99, wi_99, nl_add, nl_add', nl_mul, nI_add, in_t, cl_n, le_nn, lt_nn, le_ln, le_nl, lt_nl, lt_ln, eq_nn, eq_nl, in_lit, cl_lit, Nat.le_refl, Nat.add_zero, bI_f, Bool.false_and]
  | true =>
    rw [Bool.true_and]
    by_cases h1 : a + wI d i ≤ nC d
    · by_cases h2 : c + tI d i ≤ 12
      · rw [decide_eq_true ⟨h1, h2⟩]
        simp (disch := omega) only [iX9_isWhole_77, iX9_isWhole_78, iX9_isWhole_81, iX9_isWhole_83, iX9_isWhole_84, iX9_isWhole_87, iX9_isWhole_88, iX9_isWhole_89, iX9_isWhole_90, iX9_isWhole_91, iX9_isWhole_92, iX9_isWhole_93, iX9_isWhole_96, iX9_isWhole_97, iX9_isWhole_98, iX9_isWhole_101, iX9_isWhole_103, iX9_isWhole_104, iX9_isWhole_107, iX9_isWhole_108, iX9_isWhole_109, iX9_isWhole_110, iX9_isWhole_111, iX9_isWhole_112, iX9_isWhole_114, iX9_isWhole_117, iX9_isWhole_118, iX9_isWhole_121, iX9_isWhole_122, iX9_isWhole_123, iX9_isWhole_126, true_or, or_true, Option.bind_some, Option.bind_none, kk_hp, kn_hp, el_i, el_b, el_z, am_cat_nil, am_cat_i, am_cat_r, am_cat_l, am_cat_n, gd_i, gd_r, gd_n, gd_u, List.length_cons, List.length_nil, true_and, and_true, ↓reduceIte, Nat.zero_le, Nat.reduceLeDiff, Nat.reduceAdd, e_10, e_01, e_00, e_11, Int32.reduceLE, Int32.reduceLT, Int32.reduceAdd, Int32.reduceSub, b01, if_true, if_false, ite_self, rc_82, gf_82_0, gf_82_1, gf_82_2, gf_82_3, gf_82_4, gf_82_5, gf_82_6, pf_82_6, gf_82_7, pf_82_7, gf_82_8, pf_82_8, gf_82_9, pf_82_9, gf_82_10, pf_82_10, gf_82_11, pf_82_11, gf_82_12, pf_82_12, gf_82_13, gf_82_14, gf_82_15, gf_82_16, pf_82_16, gf_82_17, gf_82_18, gf_82_19, gf_82_20, gf_82_21, gf_82_22, gf_82_23, gf_82_24, gf_82_25, pf_82_25, ga_83, wi_83, ga_84, wi_84, ga_85, wb_85, ga_86, wi_86, ga_87, wb_87, ga_88, wi_88, ga_89, wi_89, ga_90, wi_90, ga_91, wi_91, ga_92, wi_92, ga_93, wi_93, ga_94, wi_94, ga_95, wi_95, ga_96, wb_96, ga_97, wi_97, ga_98, wi_98, ga_99, wi_99, nl_add, nl_add', nl_mul, nI_add, in_t, cl_n, le_nn, lt_nn, le_ln, le_nl, lt_nl, lt_ln, eq_nn, eq_nl, in_lit, cl_lit, Nat.le_refl, Nat.add_zero, bI_t, x0, x1, q0, show ¬ nC d < a + wI d i by omega, show ¬ 12 < c + tI d i by omega]
      · rw [decide_eq_false (fun z => h2 z.2)]
        simp (disch := omega) only [iX9_isWhole_77, iX9_isWhole_78, iX9_isWhole_81, iX9_isWhole_83, iX9_isWhole_84, iX9_isWhole_87, iX9_isWhole_88, iX9_isWhole_89, iX9_isWhole_90, iX9_isWhole_91, iX9_isWhole_92, iX9_isWhole_93, iX9_isWhole_96, iX9_isWhole_97, iX9_isWhole_98, iX9_isWhole_101, iX9_isWhole_103, iX9_isWhole_104, iX9_isWhole_107, iX9_isWhole_108, iX9_isWhole_109, iX9_isWhole_110, iX9_isWhole_111, iX9_isWhole_112, iX9_isWhole_114, iX9_isWhole_117, iX9_isWhole_118, iX9_isWhole_121, iX9_isWhole_122, iX9_isWhole_123, iX9_isWhole_126, true_or, or_true, Option.bind_some, Option.bind_none, kk_hp, kn_hp, el_i, el_b, el_z, am_cat_nil, am_cat_i, am_cat_r, am_cat_l, am_cat_n, gd_i, gd_r, gd_n, gd_u, List.length_cons, List.length_nil, true_and, and_true, ↓reduceIte, Nat.zero_le, Nat.reduceLeDiff, Nat.reduceAdd, e_10, e_01, e_00, e_11, Int32.reduceLE, Int32.reduceLT, Int32.reduceAdd, Int32.reduceSub, b01, if_true, if_false, ite_self, rc_82, gf_82_0, gf_82_1, gf_82_2, gf_82_3, gf_82_4, gf_82_5, gf_82_6, pf_82_6, gf_82_7, pf_82_7, gf_82_8, pf_82_8, gf_82_9, pf_82_9, gf_82_10, pf_82_10, gf_82_11, pf_82_11, gf_82_12, pf_82_12, gf_82_13, gf_82_14, gf_82_15, gf_82_16, pf_82_16, gf_82_17, gf_82_18, gf_82_19, gf_82_20, gf_82_21, gf_82_22, gf_82_23, gf_82_24, gf_82_25, pf_82_25, ga_83, wi_83, ga_84, wi_84, ga_85, wb_85, ga_86, wi_86, ga_87, wb_87, ga_88, wi_88, ga_89, wi_89, ga_90, wi_90, ga_91, wi_91, ga_92, wi_92, ga_93, wi_93, ga_94, wi_94, ga_95, wi_95, ga_96, wb_96, ga_97, wi_97, ga_98, wi_98, ga_99, wi_99, nl_add, nl_add', nl_mul, nI_add, in_t, cl_n, le_nn, lt_nn, le_ln, le_nl, lt_nl, lt_ln, eq_nn, eq_nl, in_lit, cl_lit, Nat.le_refl, Nat.add_zero, bI_t, bI_f, x0, x1, q0, show ¬ nC d < a + wI d i by omega, show 12 < c + tI d i by omega]
    · rw [decide_eq_false (fun z => h1 z.1)]
      simp (disch := omega) only [iX9_isWhole_77, iX9_isWhole_78, iX9_isWhole_81, iX9_isWhole_83, iX9_isWhole_84, iX9_isWhole_87, iX9_isWhole_88, iX9_isWhole_89, iX9_isWhole_90, iX9_isWhole_91, iX9_isWhole_92, iX9_isWhole_93, iX9_isWhole_96, iX9_isWhole_97, iX9_isWhole_98, iX9_isWhole_101, iX9_isWhole_103, iX9_isWhole_104, iX9_isWhole_107, iX9_isWhole_108, iX9_isWhole_109, iX9_isWhole_110, iX9_isWhole_111, iX9_isWhole_112, iX9_isWhole_114, iX9_isWhole_117, iX9_isWhole_118, iX9_isWhole_121, iX9_isWhole_122, iX9_isWhole_123, iX9_isWhole_126, true_or, or_true, Option.bind_some, Option.bind_none, kk_hp, kn_hp, el_i, el_b, el_z, am_cat_nil, am_cat_i, am_cat_r, am_cat_l, am_cat_n, gd_i, gd_r, gd_n, gd_u, List.length_cons, List.length_nil, true_and, and_true, ↓reduceIte, Nat.zero_le, Nat.reduceLeDiff, Nat.reduceAdd, e_10, e_01, e_00, e_11, Int32.reduceLE, Int32.reduceLT, Int32.reduceAdd, Int32.reduceSub, b01, if_true, if_false, ite_self, rc_82, gf_82_0, gf_82_1, gf_82_2, gf_82_3, gf_82_4, gf_82_5, gf_82_6, pf_82_6, gf_82_7, pf_82_7, gf_82_8, pf_82_8, gf_82_9, pf_82_9, gf_82_10, pf_82_10, gf_82_11, pf_82_11, gf_82_12, pf_82_12, gf_82_13, gf_82_14, gf_82_15, gf_82_16, pf_82_16, gf_82_17, gf_82_18, gf_82_19, gf_82_20, gf_82_21, gf_82_22, gf_82_23, gf_82_24, gf_82_25, pf_82_25, ga_83, wi_83, ga_84, wi_84, ga_85, wb_85, ga_86, wi_86, ga_87, wb_87, ga_88, wi_88, ga_89, wi_89, ga_90, wi_90, ga_91, wi_91, ga_92, wi_92, ga_93, wi_93, ga_94, wi_94, ga_95, wi_95, ga_96, wb_96, ga_97, wi_97, ga_98, wi_98, ga_99, wi_99, nl_add, nl_add', nl_mul, nI_add, in_t, cl_n, le_nn, lt_nn, le_ln, le_nl, lt_nl, lt_ln, eq_nn, eq_nl, in_lit, cl_lit, Nat.le_refl, Nat.add_zero, bI_t, bI_f, x0, x1, q0, show nC d < a + wI d i by omega]
end S993
