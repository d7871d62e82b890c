/-! the class's axis grows -/
theorem flex_S {kd nb : Nat → Int32} {a w : Nat} (h : ∀ d, d < w → kd (a + d) = 2 → ∃ k, 1 ≤ k ∧ k ≤ 9 ∧ nb (a + d) = nI k) : ∃ S, sm (fun d => if kd (a + d) = 2 then nb (a + d) else 0) w = nI S ∧ fc kd a w ≤ S ∧ S ≤ 9 * fc kd a w := by
  induction w with
  | zero => exact ⟨0, rfl, Nat.le_refl 0, Nat.le_refl 0⟩
  | succ w ih =>
    obtain ⟨S, e, h1, h2⟩ := ih (fun d hd => h d (by omega))
    rw [sm_s, e, fc]
    by_cases hk : kd (a + w) = 2
    · obtain ⟨k, k1, k9, ek⟩ := h w (by omega) hk
      refine ⟨S + k, ?_, ?_, ?_⟩
      · rw [if_pos hk, ek, nI_add]
      · rw [if_pos hk]; omega
      · rw [if_pos hk]; omega
    · refine ⟨S, ?_, ?_, ?_⟩
      · rw [if_neg hk, Int32.add_zero]
      · rw [if_neg hk]; omega
      · rw [if_neg hk]; omega
def RA (M : Nat → Nat → Int32) (g n : Nat) (kd nb : Nat → Int32) (gap : Int32) (gl : List (Nat × Nat × Int32)) : Prop :=
  M g 0 = nI n ∧ n ≤ 12 ∧ M g 1 = gap ∧ (∀ c, c < n → M (g + 1) c = kd c ∧ M (g + 2) c = nb c) ∧ (∀ c, c < n → kd c = 2 → ∃ k, 1 ≤ k ∧ k ≤ 9 ∧ nb c = nI k) ∧
  M g 6 = nI gl.length ∧ gl.length ≤ 10 ∧ ∀ k (h : k < gl.length), M (g + 5) k = nI gl[k].1 ∧ M (g + 6) k = nI gl[k].2.1 ∧ M (g + 7) k = gl[k].2.2 ∧ gl[k].1 + gl[k].2.1 ≤ n
theorem isA_1 {g : Nat} (hg : isA g) : 64 ≤ g ∧ g ≤ 72 := by rcases hg with rfl | rfl <;> omega
section S45
variable {X : am_X} {M : Nat → Nat → Int32}
theorem growBy_i {g n v : Nat} {kd nb sz : Nat → Int32} {gap : Int32} {gl : List (Nat × Nat × Int32)} (hg : isA g) (hA : RA M g n kd nb gap gl) (hv : v ≤ 12) (hs : ∀ c, c < n → M (g + 3) c = sz c) (h0 : ∀ c, c < 12 → M (g + 4) c = 0) :
    ∃ M', am_ev X kX0_growBy 10 [.ref g, .int (nI v), .int (nI 0)] [] (hp M) = am_ev X kX0_growBy 10 [.ref g, .int (nI v), .int (nI gl.length)] [] (hp M') ∧ (∀ a, a ≠ g + 4 → M' a = M a) ∧ ∀ c, c < 12 → M' (g + 4) c = gl.foldl (gr1 kd sz gap v) (fun _ => 0) c := by
  obtain ⟨hn, hn12, hgap, hkd, hnb, hgn, hg10, hgl⟩ := hA
  have := loop_inv (fun k M' => am_ev X kX0_growBy 10 [.ref g, .int (nI v), .int (nI k)] [] (hp M')) (fun k M' => (∀ a, a ≠ g + 4 → M' a = M a) ∧ ∀ c, c < 12 → M' (g + 4) c = (gl.take k).foldl (gr1 kd sz gap v) (fun _ => 0) c) 0 gl.length (by omega) M ⟨fun _ _ => rfl, fun c hc => h0 c hc⟩ ?_
  · obtain ⟨M', e1, e2, e3⟩ := this
    rw [List.take_length] at e3
    exact ⟨M', e1, e2, e3⟩
  intro k M' _ hk ⟨hf, hG⟩
  obtain ⟨q5, q6, q7, qn⟩ := hgl k hk
  have a0 : M' g = M g := hf g (by omega)
  have a5 : M' (g + 5) k = nI gl[k].1 := by rw [hf _ (by omega)]; exact q5
  have a6 : M' (g + 6) k = nI gl[k].2.1 := by rw [hf _ (by omega)]; exact q6
  have b6 : M' g 6 = nI gl.length := by rw [a0]; exact hgn
  have efl := @C_flexShares X M' g k gl[k].1 gl[k].2.1 hg (by omega) a5 a6 (by omega)
  have k1 : ∀ d, d < gl[k].2.1 → M' (g + 1) (gl[k].1 + d) = kd (gl[k].1 + d) := fun d hd => by rw [hf _ (by omega)]; exact (hkd _ (by omega)).1
  have k3 : ∀ d, d < gl[k].2.1 → M' (g + 3) (gl[k].1 + d) = sz (gl[k].1 + d) := fun d hd => by rw [hf _ (by omega)]; exact hs _ (by omega)
  obtain ⟨S, eS, S1, S2⟩ := @flex_S (M' (g + 1)) (M' (g + 2)) gl[k].1 gl[k].2.1 (fun d hd hz => by
    rw [k1 d hd] at hz
    rw [hf _ (by omega), (hkd _ (by omega)).2]
    exact hnb _ (by omega) hz)
  rw [eS] at efl
  rw [fc_ext k1] at S1 S2
  have hfl := fc_le kd gl[k].1 gl[k].2.1
  have etk : (gl.take (k + 1)).foldl (gr1 kd sz gap v) (fun _ => 0) = gr1 kd sz gap v ((gl.take k).foldl (gr1 kd sz gap v) (fun _ => 0)) gl[k] := by
    rw [List.take_succ_eq_append_getElem hk, List.foldl_append]
    rfl
  rw [etk]
  generalize (gl.take k).foldl (gr1 kd sz gap v) (fun _ => 0) = G at *
  by_cases hc : gl[k].2.1 = v ∧ fc kd gl[k].1 gl[k].2.1 = 0
  · have hS0 : S = 0 := by omega
    have eac := ac_sm (M' (g + 1)) gl[k].1 gl[k].2.1
    have hacle := ac_le (M' (g + 1)) gl[k].1 gl[k].2.1
    have elk : M' (g + 7) k - ((if gl[k].2.1 ≤ 1 then 0 else M' g 1 * (nI gl[k].2.1 - 1)) + sm (fun d => M' (g + 3) (gl[k].1 + d)) gl[k].2.1) = lk kd sz gap gl[k] := by
      rw [hf (g + 7) (by omega), q7, a0, hgap, sm_ext k3]
      exact lk_C (fun d hd hz => absurd hz (fc_0.mp hc.2 d hd))
    have ed := @C_deal X M' g k gl[k].1 gl[k].2.1 (ac (M' (g + 1)) gl[k].1 gl[k].2.1) _ hg (by omega) a5 a6 (by omega) eac (by omega) elk
    have eax := ac_ext k1
    by_cases h2 : ac (M' (g + 1)) gl[k].1 gl[k].2.1 = 0 ∨ lk kd sz gap gl[k] ≤ 0
    · rw [if_pos h2] at ed
      refine ⟨M', ?_, hf, fun c hc2 => ?_⟩
      · conv => lhs; rw [iX0_growBy_10]
        simp (disch := omega) only [iX0_growBy_11, iX0_growBy_12, iX0_growBy_15, iX0_growBy_18, iX0_growBy_19, iX0_growBy_22, iX0_growBy_23, iX0_growBy_24, iX0_growBy_25, iX0_growBy_28, iX0_growBy_29, iX0_growBy_30, iX0_growBy_33, iX0_growBy_36, iX0_growBy_37, iX0_growBy_38, iX0_growBy_41, iX0_growBy_44, true_or, or_true, Option.bind_some, Option.bind_none, kk_hp, kn_hp, el_i, el_b, el_z, am_cat_nil, am_cat_i, am_cat_r, am_cat_l, am_cat_n, gd_i, gd_r, gd_n, gd_u, List.length_cons, List.length_nil, true_and, and_true, ↓reduceIte, Nat.zero_le, Nat.reduceLeDiff, Nat.reduceAdd, e_10, e_01, e_00, e_11, Int32.reduceLE, Int32.reduceLT, Int32.reduceAdd, Int32.reduceSub, b01, if_true, if_false, ite_self, nl_add, nl_add', nl_mul, nI_add, in_t, cl_n, le_nn, lt_nn, le_ln, le_nl, lt_nl, lt_ln, eq_nn, eq_nl, in_lit, cl_lit, Nat.le_refl, Nat.add_zero, gA6 hg, gA8 hg, aA6 hg, rcA hg, b6, a6, show ¬ gl.length ≤ k by omega, hc.1, efl, hS0, nI_0, ed]
      · rw [eax] at h2
        rw [gr1, if_pos hc, if_pos h2]; exact hG c hc2
    · rw [if_neg h2] at ed
      refine ⟨ua M' (g + 4) (dlX (M' (g + 1)) (M' (g + 4)) gl[k].1 (lk kd sz gap gl[k]) (nI (ac (M' (g + 1)) gl[k].1 gl[k].2.1)) gl[k].2.1).1, ?_, fun a ha => by rw [ua_n _ _ ha]; exact hf a ha, fun c hc2 => ?_⟩
      · conv => lhs; rw [iX0_growBy_10]
        simp (disch := omega) only [iX0_growBy_11, iX0_growBy_12, iX0_growBy_15, iX0_growBy_18, iX0_growBy_19, iX0_growBy_22, iX0_growBy_23, iX0_growBy_24, iX0_growBy_25, iX0_growBy_28, iX0_growBy_29, iX0_growBy_30, iX0_growBy_33, iX0_growBy_36, iX0_growBy_37, iX0_growBy_38, iX0_growBy_41, iX0_growBy_44, true_or, or_true, Option.bind_some, Option.bind_none, kk_hp, kn_hp, el_i, el_b, el_z, am_cat_nil, am_cat_i, am_cat_r, am_cat_l, am_cat_n, gd_i, gd_r, gd_n, gd_u, List.length_cons, List.length_nil, true_and, and_true, ↓reduceIte, Nat.zero_le, Nat.reduceLeDiff, Nat.reduceAdd, e_10, e_01, e_00, e_11, Int32.reduceLE, Int32.reduceLT, Int32.reduceAdd, Int32.reduceSub, b01, if_true, if_false, ite_self, nl_add, nl_add', nl_mul, nI_add, in_t, cl_n, le_nn, lt_nn, le_ln, le_nl, lt_nl, lt_ln, eq_nn, eq_nl, in_lit, cl_lit, Nat.le_refl, Nat.add_zero, gA6 hg, gA8 hg, aA6 hg, rcA hg, b6, a6, show ¬ gl.length ≤ k by omega, hc.1, efl, hS0, nI_0, ed]
      · rw [eax] at h2 ⊢
        rw [ua_s, gr1, if_pos hc, if_neg h2]
        exact (dlX_ext (by omega) k1 hG).2 c hc2
  · refine ⟨M', ?_, hf, fun c hc2 => ?_⟩
    · conv => lhs; rw [iX0_growBy_10]
      by_cases hv1 : gl[k].2.1 = v
      · have hS0 : 0 < S := by
          have : fc kd gl[k].1 gl[k].2.1 ≠ 0 := fun z => hc ⟨hv1, z⟩
          omega
        simp (disch := omega) only [iX0_growBy_11, iX0_growBy_12, iX0_growBy_15, iX0_growBy_18, iX0_growBy_19, iX0_growBy_22, iX0_growBy_23, iX0_growBy_24, iX0_growBy_25, iX0_growBy_28, iX0_growBy_29, iX0_growBy_30, iX0_growBy_33, iX0_growBy_36, iX0_growBy_37, iX0_growBy_38, iX0_growBy_41, iX0_growBy_44, true_or, or_true, Option.bind_some, Option.bind_none, kk_hp, kn_hp, el_i, el_b, el_z, am_cat_nil, am_cat_i, am_cat_r, am_cat_l, am_cat_n, gd_i, gd_r, gd_n, gd_u, List.length_cons, List.length_nil, true_and, and_true, ↓reduceIte, Nat.zero_le, Nat.reduceLeDiff, Nat.reduceAdd, e_10, e_01, e_00, e_11, Int32.reduceLE, Int32.reduceLT, Int32.reduceAdd, Int32.reduceSub, b01, if_true, if_false, ite_self, nl_add, nl_add', nl_mul, nI_add, in_t, cl_n, le_nn, lt_nn, le_ln, le_nl, lt_nl, lt_ln, eq_nn, eq_nl, in_lit, cl_lit, Nat.le_refl, Nat.add_zero, gA6 hg, gA8 hg, aA6 hg, rcA hg, b6, a6, show ¬ gl.length ≤ k by omega, hv1, efl, nI_ne0 hS0 (show S < 2 ^ 31 by omega)]
      · simp (disch := omega) only [iX0_growBy_11, iX0_growBy_12, iX0_growBy_15, iX0_growBy_18, iX0_growBy_19, iX0_growBy_22, iX0_growBy_23, iX0_growBy_24, iX0_growBy_25, iX0_growBy_28, iX0_growBy_29, iX0_growBy_30, iX0_growBy_33, iX0_growBy_36, iX0_growBy_37, iX0_growBy_38, iX0_growBy_41, iX0_growBy_44, true_or, or_true, Option.bind_some, Option.bind_none, kk_hp, kn_hp, el_i, el_b, el_z, am_cat_nil, am_cat_i, am_cat_r, am_cat_l, am_cat_n, gd_i, gd_r, gd_n, gd_u, List.length_cons, List.length_nil, true_and, and_true, ↓reduceIte, Nat.zero_le, Nat.reduceLeDiff, Nat.reduceAdd, e_10, e_01, e_00, e_11, Int32.reduceLE, Int32.reduceLT, Int32.reduceAdd, Int32.reduceSub, b01, if_true, if_false, ite_self, nl_add, nl_add', nl_mul, nI_add, in_t, cl_n, le_nn, lt_nn, le_ln, le_nl, lt_nl, lt_ln, eq_nn, eq_nl, in_lit, cl_lit, Nat.le_refl, Nat.add_zero, gA6 hg, gA8 hg, aA6 hg, rcA hg, b6, a6, show ¬ gl.length ≤ k by omega, hv1]
    · rw [gr1, if_neg hc]; exact hG c hc2
theorem C_growBy {g n v : Nat} {kd nb sz : Nat → Int32} {gap : Int32} {gl : List (Nat × Nat × Int32)} (hg : isA g) (hA : RA M g n kd nb gap gl) (hv : v ≤ 12) (hs : ∀ c, c < n → M (g + 3) c = sz c) :
    ∃ M', am_ev X kX0_growBy 0 [.ref g, .int (nI v), am_u] [] (hp M) = some (none, hp M') ∧ (∀ a, a ≠ g + 3 → a ≠ g + 4 → M' a = M a) ∧ ∀ c, c < n → M' (g + 3) c = sz c + gl.foldl (gr1 kd sz gap v) (fun _ => 0) c := by
  have hn12 := hA.2.1
  have hn := hA.1
  have hgl := hA.2.2.2.2.2.1
  have hg10 := hA.2.2.2.2.2.2.1
  have ef := @C_fill X M (g + 4) 12 0 (layA4 hg) (by decide)
  have hA' : RA (ua M (g + 4) (fil (M (g + 4)) (fun _ => 0) 12)) g n kd nb gap gl := by
    have e : ∀ a, a ≠ g + 4 → ua M (g + 4) (fil (M (g + 4)) (fun _ => 0) 12) a = M a := fun a ha => ua_n _ _ ha
    unfold RA
    rw [e g (by omega), e (g + 1) (by omega), e (g + 2) (by omega), e (g + 5) (by omega), e (g + 6) (by omega), e (g + 7) (by omega)]
    exact hA
  obtain ⟨M1, e1, f1, g1⟩ := @growBy_i X (ua M (g + 4) (fil (M (g + 4)) (fun _ => 0) 12)) g n v kd nb sz gap gl hg hA' hv (fun c hc => by rw [ua_n _ _ (by omega)]; exact hs c hc) (fun c hc => by rw [ua_s, fil_in hc])
  have f1' : ∀ a, a ≠ g + 4 → M1 a = M a := fun a ha => by rw [f1 a ha, ua_n _ _ ha]
  have b6 : M1 g 6 = nI gl.length := by rw [f1' g (by omega)]; exact hgl
  have e2 := chain (fun t => am_ev X kX0_growBy 49 [.ref g, .int (nI v), .int (nI t)] [] (hp (ua M1 (g + 3) (fil (M1 (g + 3)) (fun c => M1 (g + 3) c + M1 (g + 4) c) t)))) 0 n (by omega) (fun t _ ht => by
    have c0 : ∀ f, (ua M1 (g + 3) f) g 0 = nI n := fun f => by rw [ua_n _ _ (by omega), f1' g (by omega)]; exact hn
    have c4 : ∀ f, (ua M1 (g + 3) f) (g + 4) = M1 (g + 4) := fun f => ua_n _ _ (by omega)
    conv => lhs; rw [iX0_growBy_49]
    simp (disch := omega) only [iX0_growBy_50, iX0_growBy_51, iX0_growBy_54, iX0_growBy_57, iX0_growBy_58, iX0_growBy_61, iX0_growBy_62, iX0_growBy_63, iX0_growBy_64, iX0_growBy_65, iX0_growBy_68, iX0_growBy_69, iX0_growBy_70, iX0_growBy_71, iX0_growBy_72, iX0_growBy_75, true_or, or_true, Option.bind_some, Option.bind_none, kk_hp, kn_hp, el_i, el_b, el_z, am_cat_nil, am_cat_i, am_cat_r, am_cat_l, am_cat_n, gd_i, gd_r, gd_n, gd_u, List.length_cons, List.length_nil, true_and, and_true, ↓reduceIte, Nat.zero_le, Nat.reduceLeDiff, Nat.reduceAdd, e_10, e_01, e_00, e_11, Int32.reduceLE, Int32.reduceLT, Int32.reduceAdd, Int32.reduceSub, b01, if_true, if_false, ite_self, nl_add, nl_add', nl_mul, nI_add, in_t, cl_n, le_nn, lt_nn, le_ln, le_nl, lt_nl, lt_ln, eq_nn, eq_nl, in_lit, cl_lit, Nat.le_refl, Nat.add_zero, gA0 hg, gA4 hg, gA5 hg, aA3 hg, aA4 hg, wA3 hg, c0, c4, show ¬ n ≤ t by omega, ua_s, up_of, fil_out, ← fil_s])
  simp only [fil_0, ua_self, nI_0] at e2
  refine ⟨ua M1 (g + 3) (fil (M1 (g + 3)) (fun c => M1 (g + 3) c + M1 (g + 4) c) n), ?_, fun a h3 h4 => by rw [ua_n _ _ h3, f1' a h4], fun c hc => ?_⟩
  · rw [nI_0] at e1
    simp (disch := omega) only [iX0_growBy_0, iX0_growBy_1, iX0_growBy_4, iX0_growBy_5, iX0_growBy_8, iX0_growBy_9, true_or, or_true, Option.bind_some, Option.bind_none, kk_hp, kn_hp, el_i, el_b, el_z, am_cat_nil, am_cat_i, am_cat_r, am_cat_l, am_cat_n, gd_i, gd_r, gd_n, gd_u, List.length_cons, List.length_nil, true_and, and_true, ↓reduceIte, Nat.zero_le, Nat.reduceLeDiff, Nat.reduceAdd, e_10, e_01, e_00, e_11, Int32.reduceLE, Int32.reduceLT, Int32.reduceAdd, Int32.reduceSub, b01, if_true, if_false, ite_self, nl_add, nl_add', nl_mul, nI_add, in_t, cl_n, le_nn, lt_nn, le_ln, le_nl, lt_nl, lt_ln, eq_nn, eq_nl, in_lit, cl_lit, Nat.le_refl, Nat.add_zero, gA5 hg, ef]
    rw [e1]
    simp (disch := omega) only [iX0_growBy_10, iX0_growBy_11, iX0_growBy_12, iX0_growBy_15, iX0_growBy_47, iX0_growBy_48, true_or, or_true, Option.bind_some, Option.bind_none, kk_hp, kn_hp, el_i, el_b, el_z, am_cat_nil, am_cat_i, am_cat_r, am_cat_l, am_cat_n, gd_i, gd_r, gd_n, gd_u, List.length_cons, List.length_nil, true_and, and_true, ↓reduceIte, Nat.zero_le, Nat.reduceLeDiff, Nat.reduceAdd, e_10, e_01, e_00, e_11, Int32.reduceLE, Int32.reduceLT, Int32.reduceAdd, Int32.reduceSub, b01, if_true, if_false, ite_self, nl_add, nl_add', nl_mul, nI_add, in_t, cl_n, le_nn, lt_nn, le_ln, le_nl, lt_nl, lt_ln, eq_nn, eq_nl, in_lit, cl_lit, Nat.le_refl, Nat.add_zero, gA6 hg, b6]
    rw [e2]
    have c0 : ∀ f, (ua M1 (g + 3) f) g 0 = nI n := fun f => by rw [ua_n _ _ (by omega), f1' g (by omega)]; exact hn
    simp (disch := omega) only [iX0_growBy_49, iX0_growBy_50, iX0_growBy_51, iX0_growBy_54, iX0_growBy_78, true_or, or_true, Option.bind_some, Option.bind_none, kk_hp, kn_hp, el_i, el_b, el_z, am_cat_nil, am_cat_i, am_cat_r, am_cat_l, am_cat_n, gd_i, gd_r, gd_n, gd_u, List.length_cons, List.length_nil, true_and, and_true, ↓reduceIte, Nat.zero_le, Nat.reduceLeDiff, Nat.reduceAdd, e_10, e_01, e_00, e_11, Int32.reduceLE, Int32.reduceLT, Int32.reduceAdd, Int32.reduceSub, b01, if_true, if_false, ite_self, nl_add, nl_add', nl_mul, nI_add, in_t, cl_n, le_nn, lt_nn, le_ln, le_nl, lt_nl, lt_ln, eq_nn, eq_nl, in_lit, cl_lit, Nat.le_refl, Nat.add_zero, gA0 hg, c0]
  · rw [ua_s, fil_in hc, f1' (g + 3) (by omega), hs c hc, g1 c (by omega)]
end S45
