/-! the reference places, iv -/
def PT : Type := (Nat → Int32) × (Nat → Int32) × (Nat → Int32) × Int32
def getP (M : Nat → Nat → Int32) : PT := (M 89, M 90, M 91, M 82 16)
def sk (s : Nat → Int32) (i : Nat) (P : PT) : PT :=
  match hoI s P.1 i with
  | none => (P.1, upd P.2.1 i (-4), upd P.2.2.1 i (-4), P.2.2.2)
  | some q => (fiB P.1 (nI i) q.2 q.1 (wI s i) (tI s i), upd P.2.1 i (nI q.2), upd P.2.2.1 i (nI q.1), if nI (q.1 + tI s i) ≤ P.2.2.2 then P.2.2.2 else nI (q.1 + tI s i))
def trn (s : Nat → Int32) (i : Nat) : Nat := if s (26 + 6 * i + 5) = -4 then 2 else if s (26 + 6 * i + 4) = -4 then 1 else 0
def skF (s : Nat → Int32) (turn : Nat) (P : PT) : Nat → PT
  | 0 => P
  | i + 1 => if trn s i = turn then sk s i (skF s turn P i) else skF s turn P i
def plc (s : Nat → Int32) (P : PT) : PT := skF s 2 (skF s 1 (skF s 0 P (mI s)) (mI s)) (mI s)
/-- all cells as they were but those of a placing -/
def frP (M M' : Nat → Nat → Int32) : Prop := (∀ a, a ≠ 82 → a ≠ 89 → a ≠ 90 → a ≠ 91 → M' a = M a) ∧ ∀ j, j ≠ 16 → M' 82 j = M 82 j
theorem frP_t {M M' M'' : Nat → Nat → Int32} (h : frP M M') (h' : frP M' M'') : frP M M'' :=
  ⟨fun a h1 h2 h3 h4 => (h'.1 a h1 h2 h3 h4).trans (h.1 a h1 h2 h3 h4), fun j hj => (h'.2 j hj).trans (h.2 j hj)⟩
theorem skM_fr (M : Nat → Nat → Int32) (i : Nat) : frP M (skM M i) := by
  unfold skM
  cases hoI (M 83) (M 89) i with
  | none => exact ⟨fun a h1 h2 h3 h4 => by dsimp only; rw [up_n _ _ _ h4, up_n _ _ _ h3], fun j hj => rfl⟩
  | some q => exact ⟨fun a h1 h2 h3 h4 => by dsimp only; rw [up_n _ _ _ h1, up_n _ _ _ h4, up_n _ _ _ h3, ua_n _ _ h2], fun j hj => by dsimp only; rw [up_s, pk_un hj]; rfl⟩
theorem skM_P (M : Nat → Nat → Int32) (i : Nat) : getP (skM M i) = sk (M 83) i (getP M) := by
  unfold skM sk getP
  dsimp only
  cases hoI (M 83) (M 89) i with
  | none => rfl
  | some q =>
    dsimp only
    rw [up_s, pk_us]
    rfl
theorem trn_I (s : Nat → Int32) (i : Nat) : (if s (26 + 6 * i + 5) = -4 then (2 : Int32) else if s (26 + 6 * i + 4) = -4 then 1 else 0) = nI (trn s i) := by
  unfold trn
  split
  · rfl
  · split <;> rfl
theorem trn_3 (s : Nat → Int32) (i : Nat) : trn s i < 3 := by
  unfold trn
  split
  · omega
  · split <;> omega
section S35
variable {X : am_X} {M : Nat → Nat → Int32}
theorem place_i {turn : Nat} (hwf : wf (M 83)) (ht : turn < 3) (P : PT) (hP : getP M = P) : ∃ M', am_ev X kX9_place 36 [.ref 82, .int (nI turn), .int (nI 0)] [] (hp M) = am_ev X kX9_place 36 [.ref 82, .int (nI turn), .int (nI (mI (M 83)))] [] (hp M') ∧ frP M M' ∧ getP M' = skF (M 83) turn P (mI (M 83)) := by
  refine loop_inv (fun j M' => am_ev X kX9_place 36 [.ref 82, .int (nI turn), .int (nI j)] [] (hp M')) (fun j M' => frP M M' ∧ getP M' = skF (M 83) turn P j) 0 (mI (M 83)) (by omega) M ⟨⟨fun _ _ _ _ _ => rfl, fun _ _ => rfl⟩, hP⟩ ?_
  intro j M' _ hj ⟨hf, hg⟩
  have h83 : M' 83 = M 83 := hf.1 83 (by decide) (by decide) (by decide) (by decide)
  have h25 : M' 83 25 = nI (mI (M 83)) := by rw [h83]; exact hwf.2.1.1
  have hm := hwf.2.1.2
  have et := @M_turnOf X M' j (by omega)
  rw [trn_I, h83] at et
  have es := @M_seeks X M' j (by rw [h83]; exact hwf) (by rw [h83]; exact hj)
  have ht3 := trn_3 (M 83) j
  by_cases h : trn (M 83) j = turn
  · refine ⟨skM M' j, ?_, frP_t hf (skM_fr M' j), ?_⟩
    · conv => lhs; rw [iX9_place_36]
      simp (disch := omega) only [iX9_place_37, iX9_place_38, iX9_place_41, iX9_place_43, iX9_place_44, iX9_place_47, iX9_place_48, iX9_place_49, iX9_place_52, iX9_place_53, iX9_place_56, iX9_place_57, iX9_place_58, iX9_place_61, iX9_place_64, true_or, or_true, Option.bind_some, Option.bind_none, kk_hp, kn_hp, el_i, el_b, el_z, am_cat_nil, am_cat_i, am_cat_r, am_cat_l, am_cat_n, gd_i, gd_r, gd_n, gd_u, List.length_cons, List.length_nil, true_and, and_true, ↓reduceIte, Nat.zero_le, Nat.reduceLeDiff, Nat.reduceAdd, e_10, e_01, e_00, e_11, Int32.reduceLE, Int32.reduceLT, Int32.reduceAdd, Int32.reduceSub, b01, if_true, if_false, ite_self, rc_82, gf_82_0, gf_82_1, gf_82_2, gf_82_3, gf_82_4, gf_82_5, gf_82_6, pf_82_6, gf_82_7, pf_82_7, gf_82_8, pf_82_8, gf_82_9, pf_82_9, gf_82_10, pf_82_10, gf_82_11, pf_82_11, gf_82_12, pf_82_12, gf_82_13, gf_82_14, gf_82_15, gf_82_16, pf_82_16, gf_82_17, gf_82_18, gf_82_19, gf_82_20, gf_82_21, gf_82_22, gf_82_23, gf_82_24, gf_82_25, pf_82_25, ga_83, wi_83, ga_84, wi_84, ga_85, wb_85, ga_86, wi_86, ga_87, wb_87, ga_88, wi_88, ga_89, wi_89, ga_90, wi_90, ga_91, wi_91, ga_92, wi_92, ga_93, wi_93, ga_94, wi_94, ga_95, wi_95, ga_96, wb_96, ga_97, wi_97, ga_98, wi_98, ga_99, wi_99, nl_add, nl_add', nl_mul, nI_add, in_t, cl_n, le_nn, lt_nn, le_ln, le_nl, lt_nl, lt_ln, eq_nn, eq_nl, in_lit, cl_lit, Nat.le_refl, Nat.add_zero, h25, show ¬ mI (M 83) ≤ j by omega, et, h, es]
    · rw [skM_P, hg, h83, skF, if_pos h]
  · refine ⟨M', ?_, hf, ?_⟩
    · conv => lhs; rw [iX9_place_36]
      simp (disch := omega) only [iX9_place_37, iX9_place_38, iX9_place_41, iX9_place_43, iX9_place_44, iX9_place_47, iX9_place_48, iX9_place_49, iX9_place_52, iX9_place_53, iX9_place_56, iX9_place_57, iX9_place_58, iX9_place_61, iX9_place_64, true_or, or_true, Option.bind_some, Option.bind_none, kk_hp, kn_hp, el_i, el_b, el_z, am_cat_nil, am_cat_i, am_cat_r, am_cat_l, am_cat_n, gd_i, gd_r, gd_n, gd_u, List.length_cons, List.length_nil, true_and, and_true, ↓reduceIte, Nat.zero_le, Nat.reduceLeDiff, Nat.reduceAdd, e_10, e_01, e_00, e_11, Int32.reduceLE, Int32.reduceLT, Int32.reduceAdd, Int32.reduceSub, b01, if_true, if_false, ite_self, rc_82, gf_82_0, gf_82_1, gf_82_2, gf_82_3, gf_82_4, gf_82_5, gf_82_6, pf_82_6, gf_82_7, pf_82_7, gf_82_8, pf_82_8, gf_82_9, pf_82_9, gf_82_10, pf_82_10, gf_82_11, pf_82_11, gf_82_12, pf_82_12, gf_82_13, gf_82_14, gf_82_15, gf_82_16, pf_82_16, gf_82_17, gf_82_18, gf_82_19, gf_82_20, gf_82_21, gf_82_22, gf_82_23, gf_82_24, gf_82_25, pf_82_25, ga_83, wi_83, ga_84, wi_84, ga_85, wb_85, ga_86, wi_86, ga_87, wb_87, ga_88, wi_88, ga_89, wi_89, ga_90, wi_90, ga_91, wi_91, ga_92, wi_92, ga_93, wi_93, ga_94, wi_94, ga_95, wi_95, ga_96, wb_96, ga_97, wi_97, ga_98, wi_98, ga_99, wi_99, nl_add, nl_add', nl_mul, nI_add, in_t, cl_n, le_nn, lt_nn, le_ln, le_nl, lt_nl, lt_ln, eq_nn, eq_nl, in_lit, cl_lit, Nat.le_refl, Nat.add_zero, h25, show ¬ mI (M 83) ≤ j by omega, et, h]
    · rw [skF, if_neg h]; exact hg
def P0 (M : Nat → Nat → Int32) : PT := (fil (M 89) (fun _ => -4) 72, M 90, M 91, 0)
theorem M_place (hwf : wf (M 83)) : ∃ M', am_ev X kX9_place 0 [.ref 82, am_u, am_u] [] (hp M) = some (none, hp M') ∧ frP M M' ∧ getP M' = plc (M 83) (P0 M) := by
  have hm := hwf.2.1.2
  have e := chain (fun j => am_ev X kX9_place 2 [.ref 82, .int (nI j), am_u] [] (hp (ua M 89 (fil (M 89) (fun _ => -4) j)))) (0) (72) (by omega) (fun j hj0 hj => by
    have hj1 : ¬ (72) ≤ j := by omega
    conv => lhs; rw [iX9_place_2]
    simp (disch := omega) only [iX9_place_3, iX9_place_5, iX9_place_8, iX9_place_9, iX9_place_12, iX9_place_13, iX9_place_15, iX9_place_16, iX9_place_19, iX9_place_22, iX9_place_23, iX9_place_24, iX9_place_27, iX9_place_28, iX9_place_29, iX9_place_30, iX9_place_31, iX9_place_34, iX9_place_35, iX9_place_36, iX9_place_37, iX9_place_38, iX9_place_41, iX9_place_43, iX9_place_44, iX9_place_47, iX9_place_48, iX9_place_49, iX9_place_52, iX9_place_53, iX9_place_56, iX9_place_57, iX9_place_58, iX9_place_61, iX9_place_64, iX9_place_67, iX9_place_70, iX9_place_73, true_or, or_true, Option.bind_some, Option.bind_none, kk_hp, kn_hp, el_i, el_b, el_z, am_cat_nil, am_cat_i, am_cat_r, am_cat_l, am_cat_n, gd_i, gd_r, gd_n, gd_u, List.length_cons, List.length_nil, true_and, and_true, ↓reduceIte, Nat.zero_le, Nat.reduceLeDiff, Nat.reduceAdd, e_10, e_01, e_00, e_11, Int32.reduceLE, Int32.reduceLT, Int32.reduceAdd, Int32.reduceSub, b01, if_true, if_false, ite_self, rc_82, gf_82_0, gf_82_1, gf_82_2, gf_82_3, gf_82_4, gf_82_5, gf_82_6, pf_82_6, gf_82_7, pf_82_7, gf_82_8, pf_82_8, gf_82_9, pf_82_9, gf_82_10, pf_82_10, gf_82_11, pf_82_11, gf_82_12, pf_82_12, gf_82_13, gf_82_14, gf_82_15, gf_82_16, pf_82_16, gf_82_17, gf_82_18, gf_82_19, gf_82_20, gf_82_21, gf_82_22, gf_82_23, gf_82_24, gf_82_25, pf_82_25, ga_83, wi_83, ga_84, wi_84, ga_85, wb_85, ga_86, wi_86, ga_87, wb_87, ga_88, wi_88, ga_89, wi_89, ga_90, wi_90, ga_91, wi_91, ga_92, wi_92, ga_93, wi_93, ga_94, wi_94, ga_95, wi_95, ga_96, wb_96, ga_97, wi_97, ga_98, wi_98, ga_99, wi_99, nl_add, nl_add', nl_mul, nI_add, in_t, cl_n, le_nn, lt_nn, le_ln, le_nl, lt_nl, lt_ln, eq_nn, eq_nl, in_lit, cl_lit, Nat.le_refl, Nat.add_zero, hj1, up_of, ← fil_s])
  simp only [fil_0, ua_self, nI_0] at e
  have ex : ∀ (K : Nat → Nat → Int32) (turn : Nat), turn < 3 → K 83 25 = nI (mI (M 83)) → am_ev X kX9_place 36 [.ref 82, .int (nI turn), .int (nI (mI (M 83)))] [] (hp K) = am_ev X kX9_place 29 [.ref 82, .int (nI (turn + 1)), .int (nI (mI (M 83)))] [] (hp K) := by
    intro K turn _ h25
    simp (disch := omega) only [iX9_place_36, iX9_place_37, iX9_place_38, iX9_place_41, iX9_place_43, iX9_place_44, iX9_place_67, iX9_place_70, true_or, or_true, Option.bind_some, Option.bind_none, kk_hp, kn_hp, el_i, el_b, el_z, am_cat_nil, am_cat_i, am_cat_r, am_cat_l, am_cat_n, gd_i, gd_r, gd_n, gd_u, List.length_cons, List.length_nil, true_and, and_true, ↓reduceIte, Nat.zero_le, Nat.reduceLeDiff, Nat.reduceAdd, e_10, e_01, e_00, e_11, Int32.reduceLE, Int32.reduceLT, Int32.reduceAdd, Int32.reduceSub, b01, if_true, if_false, ite_self, rc_82, gf_82_0, gf_82_1, gf_82_2, gf_82_3, gf_82_4, gf_82_5, gf_82_6, pf_82_6, gf_82_7, pf_82_7, gf_82_8, pf_82_8, gf_82_9, pf_82_9, gf_82_10, pf_82_10, gf_82_11, pf_82_11, gf_82_12, pf_82_12, gf_82_13, gf_82_14, gf_82_15, gf_82_16, pf_82_16, gf_82_17, gf_82_18, gf_82_19, gf_82_20, gf_82_21, gf_82_22, gf_82_23, gf_82_24, gf_82_25, pf_82_25, ga_83, wi_83, ga_84, wi_84, ga_85, wb_85, ga_86, wi_86, ga_87, wb_87, ga_88, wi_88, ga_89, wi_89, ga_90, wi_90, ga_91, wi_91, ga_92, wi_92, ga_93, wi_93, ga_94, wi_94, ga_95, wi_95, ga_96, wb_96, ga_97, wi_97, ga_98, wi_98, ga_99, wi_99, nl_add, nl_add', nl_mul, nI_add, in_t, cl_n, le_nn, lt_nn, le_ln, le_nl, lt_nl, lt_ln, eq_nn, eq_nl, in_lit, cl_lit, Nat.le_refl, Nat.add_zero, h25]
  have en : ∀ (K : Nat → Nat → Int32) (turn : Nat) (v : Value), turn < 3 → am_ev X kX9_place 29 [.ref 82, .int (nI turn), v] [] (hp K) = am_ev X kX9_place 36 [.ref 82, .int (nI turn), .int (nI 0)] [] (hp K) := by
    intro K turn v _
    simp (disch := omega) only [iX9_place_29, iX9_place_30, iX9_place_31, iX9_place_34, iX9_place_35, true_or, or_true, Option.bind_some, Option.bind_none, kk_hp, kn_hp, el_i, el_b, el_z, am_cat_nil, am_cat_i, am_cat_r, am_cat_l, am_cat_n, gd_i, gd_r, gd_n, gd_u, List.length_cons, List.length_nil, true_and, and_true, ↓reduceIte, Nat.zero_le, Nat.reduceLeDiff, Nat.reduceAdd, e_10, e_01, e_00, e_11, Int32.reduceLE, Int32.reduceLT, Int32.reduceAdd, Int32.reduceSub, b01, if_true, if_false, ite_self, nl_add, nl_add', nl_mul, nI_add, in_t, cl_n, le_nn, lt_nn, le_ln, le_nl, lt_nl, lt_ln, eq_nn, eq_nl, in_lit, cl_lit, Nat.le_refl, Nat.add_zero, show ¬ 3 ≤ turn by omega, nI_0]
  have one : ∀ (K : Nat → Nat → Int32) (turn : Nat) (v : Value), turn < 3 → K 83 = M 83 → ∃ K', am_ev X kX9_place 29 [.ref 82, .int (nI turn), v] [] (hp K) = am_ev X kX9_place 29 [.ref 82, .int (nI (turn + 1)), .int (nI (mI (M 83)))] [] (hp K') ∧ frP K K' ∧ getP K' = skF (M 83) turn (getP K) (mI (M 83)) := by
    intro K turn v ht hK
    obtain ⟨K', e1, e2, e3⟩ := @place_i X K turn (by rw [hK]; exact hwf) ht (getP K) rfl
    rw [hK] at e1 e3
    refine ⟨K', ?_, e2, e3⟩
    rw [en K turn v ht, e1, ex K' turn ht]
    rw [e2.1 83 (by decide) (by decide) (by decide) (by decide), hK]
    exact hwf.2.1.1
  obtain ⟨K1, a1, b1, c1⟩ := one (up (ua M 89 (fil (M 89) (fun _ => -4) 72)) 82 16 0) 0 am_u (by omega) rfl
  have k1 : K1 83 = M 83 := b1.1 83 (by decide) (by decide) (by decide) (by decide)
  obtain ⟨K2, a2, b2, c2⟩ := one K1 1 (.int (nI (mI (M 83)))) (by omega) k1
  have k2 : K2 83 = M 83 := (b2.1 83 (by decide) (by decide) (by decide) (by decide)).trans k1
  obtain ⟨K3, a3, b3, c3⟩ := one K2 2 (.int (nI (mI (M 83)))) (by omega) k2
  refine ⟨K3, ?_, ?_, ?_⟩
  · simp (disch := omega) only [iX9_place_0, iX9_place_1, true_or, or_true, Option.bind_some, Option.bind_none, kk_hp, kn_hp, el_i, el_b, el_z, am_cat_nil, am_cat_i, am_cat_r, am_cat_l, am_cat_n, gd_i, gd_r, gd_n, gd_u, List.length_cons, List.length_nil, true_and, and_true, ↓reduceIte, Nat.zero_le, Nat.reduceLeDiff, Nat.reduceAdd, e_10, e_01, e_00, e_11, Int32.reduceLE, Int32.reduceLT, Int32.reduceAdd, Int32.reduceSub, b01, if_true, if_false, ite_self]
    rw [e]
    simp (disch := omega) only [iX9_place_2, iX9_place_3, iX9_place_5, iX9_place_22, iX9_place_23, iX9_place_24, iX9_place_27, iX9_place_28, true_or, or_true, Option.bind_some, Option.bind_none, kk_hp, kn_hp, el_i, el_b, el_z, am_cat_nil, am_cat_i, am_cat_r, am_cat_l, am_cat_n, gd_i, gd_r, gd_n, gd_u, List.length_cons, List.length_nil, true_and, and_true, ↓reduceIte, Nat.zero_le, Nat.reduceLeDiff, Nat.reduceAdd, e_10, e_01, e_00, e_11, Int32.reduceLE, Int32.reduceLT, Int32.reduceAdd, Int32.reduceSub, b01, if_true, if_false, ite_self, rc_82, gf_82_0, gf_82_1, gf_82_2, gf_82_3, gf_82_4, gf_82_5, gf_82_6, pf_82_6, gf_82_7, pf_82_7, gf_82_8, pf_82_8, gf_82_9, pf_82_9, gf_82_10, pf_82_10, gf_82_11, pf_82_11, gf_82_12, pf_82_12, gf_82_13, gf_82_14, gf_82_15, gf_82_16, pf_82_16, gf_82_17, gf_82_18, gf_82_19, gf_82_20, gf_82_21, gf_82_22, gf_82_23, gf_82_24, gf_82_25, pf_82_25, ga_83, wi_83, ga_84, wi_84, ga_85, wb_85, ga_86, wi_86, ga_87, wb_87, ga_88, wi_88, ga_89, wi_89, ga_90, wi_90, ga_91, wi_91, ga_92, wi_92, ga_93, wi_93, ga_94, wi_94, ga_95, wi_95, ga_96, wb_96, ga_97, wi_97, ga_98, wi_98, ga_99, wi_99, nl_add, nl_add', nl_mul, nI_add, in_t, cl_n, le_nn, lt_nn, le_ln, le_nl, lt_nl, lt_ln, eq_nn, eq_nl, in_lit, cl_lit, Nat.le_refl, Nat.add_zero]
    rw [nI_0] at a1
    rw [a1, a2, a3]
    simp (disch := omega) only [iX9_place_29, iX9_place_30, iX9_place_31, iX9_place_34, iX9_place_35, iX9_place_73, true_or, or_true, Option.bind_some, Option.bind_none, kk_hp, kn_hp, el_i, el_b, el_z, am_cat_nil, am_cat_i, am_cat_r, am_cat_l, am_cat_n, gd_i, gd_r, gd_n, gd_u, List.length_cons, List.length_nil, true_and, and_true, ↓reduceIte, Nat.zero_le, Nat.reduceLeDiff, Nat.reduceAdd, e_10, e_01, e_00, e_11, Int32.reduceLE, Int32.reduceLT, Int32.reduceAdd, Int32.reduceSub, b01, if_true, if_false, ite_self, nl_add, nl_add', nl_mul, nI_add, in_t, cl_n, le_nn, lt_nn, le_ln, le_nl, lt_nl, lt_ln, eq_nn, eq_nl, in_lit, cl_lit, Nat.le_refl, Nat.add_zero]
  · refine frP_t ?_ (frP_t b1 (frP_t b2 b3))
    exact ⟨fun a h1 h2 h3 h4 => by rw [up_n _ _ _ h1, ua_n _ _ h2], fun j hj => by rw [up_s, pk_un hj]; rfl⟩
  · rw [c3, c2, c1]
    rfl
end S35
