/-! shares of a width, the reference -/
def uc (F : Nat → Bool) : Nat → Nat
  | 0 => 0
  | n + 1 => uc F n + if F n = true then 0 else 1
theorem uc_le (F : Nat → Bool) (n : Nat) : uc F n ≤ n := by
  induction n with
  | zero => exact Nat.le_refl 0
  | succ n ih => rw [uc]; split <;> omega
theorem uc_mono {F G : Nat → Bool} (h : ∀ t, F t = true → G t = true) (n : Nat) : uc G n ≤ uc F n := by
  induction n with
  | zero => exact Nat.le_refl 0
  | succ n ih =>
    rw [uc, uc]
    by_cases hf : F n = true
    · rw [if_pos hf, if_pos (h n hf)]; omega
    · rw [if_neg hf]; split <;> omega
theorem uc_lt {F G : Nat → Bool} (h : ∀ t, F t = true → G t = true) {n t : Nat} (ht : t < n) (h1 : F t = false) (h2 : G t = true) : uc G n < uc F n := by
  induction n with
  | zero => omega
  | succ n ih =>
    rw [uc, uc]
    by_cases htn : t = n
    · have := uc_mono h n
      rw [← htn] at this ⊢
      rw [if_pos h2, if_neg (by rw [h1]; decide)]; omega
    · have := ih (by omega)
      by_cases hf : F n = true
      · rw [if_pos hf, if_pos (h n hf)]; omega
      · rw [if_neg hf]; split <;> omega
section S62
variable {X : am_X} {M : Nat → Nat → Int32}
theorem findFlexIn_l {L s : Nat → Int32} {x : Int32} (hwf : wf s) (k : Nat) : ∀ M F, M 83 = s → uc F (nC s) ≤ k → (∀ c, c < nC s → M 96 c = bI (F c)) → (∀ c, c < nC s → M 95 c = L c) →
    ∃ M', am_ev X kX9_findFlexIn 11 [.ref 82, .int x, .int 1, am_u, am_u, am_u, am_u] [] (hp M) = am_ev X kX9_findFlexIn 24 [.ref 82, .int x, .int 0, am_u, am_u, am_u, am_u] [] (hp M') ∧ (∀ a, a ≠ 94 → a ≠ 96 → M' a = M a) ∧ ∀ c, c < nC s → M' 96 c = bI (frR (kdX s) (nbX s) L (nC s) x (k + 1) F c) := by
  have stop : ∀ M F k, M 83 = s → anF (fz (kdX s) (nbX s) L (nC s) x F) (nC s) = false → (∀ c, c < nC s → M 96 c = bI (F c)) → (∀ c, c < nC s → M 95 c = L c) →
      ∃ M', am_ev X kX9_findFlexIn 11 [.ref 82, .int x, .int 1, am_u, am_u, am_u, am_u] [] (hp M) = am_ev X kX9_findFlexIn 24 [.ref 82, .int x, .int 0, am_u, am_u, am_u, am_u] [] (hp M') ∧ (∀ a, a ≠ 94 → a ≠ 96 → M' a = M a) ∧ ∀ c, c < nC s → M' 96 c = bI (frR (kdX s) (nbX s) L (nC s) x (k + 1) F c) := by
    intro M F k h83 ha h96 h95
    obtain ⟨M1, e1, f1, g1⟩ := @M_freezes X M L F x (by rw [h83]; exact hwf) (by rw [h83]; exact h96) (by rw [h83]; exact h95)
    rw [h83] at e1 g1
    rw [ha, bI_f] at e1
    refine ⟨M1, ?_, f1, fun c hc => ?_⟩
    · conv => lhs; rw [iX9_findFlexIn_11]
      simp (disch := omega) only [iX9_findFlexIn_12, iX9_findFlexIn_15, iX9_findFlexIn_16, iX9_findFlexIn_17, iX9_findFlexIn_20, iX9_findFlexIn_21, true_or, or_true, Option.bind_some, Option.bind_none, kk_hp, kn_hp, el_i, el_b, el_z, am_cat_nil, am_cat_i, am_cat_r, am_cat_l, am_cat_n, gd_i, gd_r, gd_n, gd_u, List.length_cons, List.length_nil, true_and, and_true, ↓reduceIte, Nat.zero_le, Nat.reduceLeDiff, Nat.reduceAdd, e_10, e_01, e_00, e_11, Int32.reduceLE, Int32.reduceLT, Int32.reduceAdd, Int32.reduceSub, b01, if_true, if_false, ite_self, nl_add, nl_add', nl_mul, nI_add, in_t, cl_n, le_nn, lt_nn, le_ln, le_nl, lt_nl, lt_ln, eq_nn, eq_nl, in_lit, cl_lit, Nat.le_refl, Nat.add_zero, rc_82, gf_82_0, gf_82_1, gf_82_2, gf_82_3, gf_82_4, gf_82_5, gf_82_6, pf_82_6, gf_82_7, pf_82_7, gf_82_8, pf_82_8, gf_82_9, pf_82_9, gf_82_10, pf_82_10, gf_82_11, pf_82_11, gf_82_12, pf_82_12, gf_82_13, gf_82_14, gf_82_15, gf_82_16, pf_82_16, gf_82_17, gf_82_18, gf_82_19, gf_82_20, gf_82_21, gf_82_22, gf_82_23, gf_82_24, gf_82_25, pf_82_25, ga_83, wi_83, ga_84, wi_84, ga_85, wb_85, ga_86, wi_86, ga_87, wb_87, ga_88, wi_88, ga_89, wi_89, ga_90, wi_90, ga_91, wi_91, ga_92, wi_92, ga_93, wi_93, ga_94, wi_94, ga_95, wi_95, ga_96, wb_96, ga_97, wi_97, ga_98, wi_98, ga_99, wi_99, e1]
      rw [iX9_findFlexIn_11]
      simp (disch := omega) only [iX9_findFlexIn_12, true_or, or_true, Option.bind_some, Option.bind_none, kk_hp, kn_hp, el_i, el_b, el_z, am_cat_nil, am_cat_i, am_cat_r, am_cat_l, am_cat_n, gd_i, gd_r, gd_n, gd_u, List.length_cons, List.length_nil, true_and, and_true, ↓reduceIte, Nat.zero_le, Nat.reduceLeDiff, Nat.reduceAdd, e_10, e_01, e_00, e_11, Int32.reduceLE, Int32.reduceLT, Int32.reduceAdd, Int32.reduceSub, b01, if_true, if_false, ite_self, nl_add, nl_add', nl_mul, nI_add, in_t, cl_n, le_nn, lt_nn, le_ln, le_nl, lt_nl, lt_ln, eq_nn, eq_nl, in_lit, cl_lit, Nat.le_refl, Nat.add_zero, rc_82, gf_82_0, gf_82_1, gf_82_2, gf_82_3, gf_82_4, gf_82_5, gf_82_6, pf_82_6, gf_82_7, pf_82_7, gf_82_8, pf_82_8, gf_82_9, pf_82_9, gf_82_10, pf_82_10, gf_82_11, pf_82_11, gf_82_12, pf_82_12, gf_82_13, gf_82_14, gf_82_15, gf_82_16, pf_82_16, gf_82_17, gf_82_18, gf_82_19, gf_82_20, gf_82_21, gf_82_22, gf_82_23, gf_82_24, gf_82_25, pf_82_25, ga_83, wi_83, ga_84, wi_84, ga_85, wb_85, ga_86, wi_86, ga_87, wb_87, ga_88, wi_88, ga_89, wi_89, ga_90, wi_90, ga_91, wi_91, ga_92, wi_92, ga_93, wi_93, ga_94, wi_94, ga_95, wi_95, ga_96, wb_96, ga_97, wi_97, ga_98, wi_98, ga_99, wi_99]
    · rw [g1 c hc, frR, if_neg (by rw [ha]; decide)]
      unfold fzN
      rw [anF_f ha c hc, Bool.or_false]
  induction k with
  | zero =>
    intro M F h83 hu h96 h95
    refine stop M F 0 h83 ?_ h96 h95
    cases ha : anF (fz (kdX s) (nbX s) L (nC s) x F) (nC s) with
    | false => rfl
    | true =>
      obtain ⟨t, ht, hp1⟩ := anF_t ha
      have hop : op (kdX s) F t = true := by unfold fz at hp1; rw [Bool.and_eq_true] at hp1; exact hp1.1
      have := uc_lt (F := F) (G := fun _ => true) (fun _ _ => rfl) ht (op_iff.mp hop).2 rfl
      omega
  | succ k ih =>
    intro M F h83 hu h96 h95
    cases ha : anF (fz (kdX s) (nbX s) L (nC s) x F) (nC s) with
    | false => exact stop M F (k + 1) h83 ha h96 h95
    | true =>
      obtain ⟨t, ht, hp1⟩ := anF_t ha
      have hop : op (kdX s) F t = true := by unfold fz at hp1; rw [Bool.and_eq_true] at hp1; exact hp1.1
      have hlt := uc_lt (F := F) (G := fzN (kdX s) (nbX s) L (nC s) x F) (fun y hy => by unfold fzN; rw [hy, Bool.true_or]) ht (op_iff.mp hop).2 (by unfold fzN; rw [hp1, Bool.or_true])
      obtain ⟨M1, e1, f1, g1⟩ := @M_freezes X M L F x (by rw [h83]; exact hwf) (by rw [h83]; exact h96) (by rw [h83]; exact h95)
      rw [h83] at e1 g1
      rw [ha, bI_t] at e1
      obtain ⟨M2, e2, f2, g2⟩ := ih M1 (fzN (kdX s) (nbX s) L (nC s) x F) (by rw [f1 _ (by decide) (by decide)]; exact h83) (by omega) g1 (by rw [f1 _ (by decide) (by decide)]; exact h95)
      refine ⟨M2, ?_, fun a h1 h2 => by rw [f2 a h1 h2, f1 a h1 h2], fun c hc => ?_⟩
      · rw [← e2]
        conv => lhs; rw [iX9_findFlexIn_11]
        simp (disch := omega) only [iX9_findFlexIn_12, iX9_findFlexIn_15, iX9_findFlexIn_16, iX9_findFlexIn_17, iX9_findFlexIn_20, iX9_findFlexIn_21, true_or, or_true, Option.bind_some, Option.bind_none, kk_hp, kn_hp, el_i, el_b, el_z, am_cat_nil, am_cat_i, am_cat_r, am_cat_l, am_cat_n, gd_i, gd_r, gd_n, gd_u, List.length_cons, List.length_nil, true_and, and_true, ↓reduceIte, Nat.zero_le, Nat.reduceLeDiff, Nat.reduceAdd, e_10, e_01, e_00, e_11, Int32.reduceLE, Int32.reduceLT, Int32.reduceAdd, Int32.reduceSub, b01, if_true, if_false, ite_self, nl_add, nl_add', nl_mul, nI_add, in_t, cl_n, le_nn, lt_nn, le_ln, le_nl, lt_nl, lt_ln, eq_nn, eq_nl, in_lit, cl_lit, Nat.le_refl, Nat.add_zero, rc_82, gf_82_0, gf_82_1, gf_82_2, gf_82_3, gf_82_4, gf_82_5, gf_82_6, pf_82_6, gf_82_7, pf_82_7, gf_82_8, pf_82_8, gf_82_9, pf_82_9, gf_82_10, pf_82_10, gf_82_11, pf_82_11, gf_82_12, pf_82_12, gf_82_13, gf_82_14, gf_82_15, gf_82_16, pf_82_16, gf_82_17, gf_82_18, gf_82_19, gf_82_20, gf_82_21, gf_82_22, gf_82_23, gf_82_24, gf_82_25, pf_82_25, ga_83, wi_83, ga_84, wi_84, ga_85, wb_85, ga_86, wi_86, ga_87, wb_87, ga_88, wi_88, ga_89, wi_89, ga_90, wi_90, ga_91, wi_91, ga_92, wi_92, ga_93, wi_93, ga_94, wi_94, ga_95, wi_95, ga_96, wb_96, ga_97, wi_97, ga_98, wi_98, ga_99, wi_99, e1]
      · rw [g2 c hc]
        conv => rhs; rw [frR, if_pos ha]
theorem M_findFlexIn {sz : Nat → Int32} (hwf : wf (M 83)) (hC : stX (M 83) (M 90)) (hs : ∀ c, c < nC (M 83) → M 92 c = sz c) :
    ∃ M', am_ev X kX9_findFlexIn 0 [.ref 82, am_u, am_u, am_u, am_u, am_u, am_u] [] (hp M) = some (none, hp M') ∧ (∀ a, a ≠ 92 → a ≠ 94 → a ≠ 95 → a ≠ 96 → M' a = M a) ∧ ∀ c, c < nC (M 83) → M' 92 c =
      fsz (kdX (M 83)) (nbX (M 83)) ((glX (M 83) (M 90) (mI (M 83))).foldl ls1 (fun _ => 0)) (nC (M 83)) (lw (kdX (M 83)) sz (M 83 1) (nC (M 83)) (M 83 3)) sz (frR (kdX (M 83)) (nbX (M 83)) ((glX (M 83) (M 90) (mI (M 83))).foldl ls1 (fun _ => 0)) (nC (M 83)) (lw (kdX (M 83)) sz (M 83 1) (nC (M 83)) (M 83 3)) (nC (M 83) + 1) (fun _ => false)) c := by
  have hn := hwf.1.2
  have hn0 := hwf.1.1
  have hnb : ∀ c, c < nC (M 83) → kdX (M 83) c = 2 → ∃ k, 1 ≤ k ∧ k ≤ 9 ∧ nbX (M 83) c = nI k := hwf.2.2.2
  have e0 := @M_leftWidth X M (nC (M 83)) hn hn0
  have elw : (if (M 83 3 - if nC (M 83) ≤ 0 then 0 else (nI (nC (M 83)) - 1) * M 83 1) - sm (fun c => if M 83 (5 + c) = 2 then 0 else M 92 c) (nC (M 83)) ≤ 0 then 0 else (M 83 3 - if nC (M 83) ≤ 0 then 0 else (nI (nC (M 83)) - 1) * M 83 1) - sm (fun c => if M 83 (5 + c) = 2 then 0 else M 92 c) (nC (M 83))) = lw (kdX (M 83)) sz (M 83 1) (nC (M 83)) (M 83 3) := by
    have : sm (fun c => if M 83 (5 + c) = 2 then 0 else M 92 c) (nC (M 83)) = sm (fun d => if kdX (M 83) (0 + d) = 2 then 0 else sz (0 + d)) (nC (M 83)) := sm_ext (fun c hc => by rw [hs c hc, Nat.zero_add]; rfl)
    rw [this]
    rfl
  rw [elw] at e0
  obtain ⟨M1, e1, f1, g1⟩ := @M_findLeast X M hwf hC
  generalize (glX (M 83) (M 90) (mI (M 83))).foldl ls1 (fun _ => 0) = L at *
  generalize lw (kdX (M 83)) sz (M 83 1) (nC (M 83)) (M 83 3) = x at *
  have s83 : M1 83 = M 83 := f1 83 (by decide) (by decide)
  obtain ⟨M2, e2, f2, g2⟩ := @findFlexIn_l X L (M 83) x hwf (nC (M 83)) M1 (fun _ => false) s83 (uc_le _ _) (fun c hc => (g1 c hc).2) (fun c hc => (g1 c hc).1)
  have hkF := @frR_kd (kdX (M 83)) (nbX (M 83)) L (nC (M 83)) x (nC (M 83) + 1) (fun _ => false) (fun _ z => absurd z (by decide))
  generalize frR (kdX (M 83)) (nbX (M 83)) L (nC (M 83)) x (nC (M 83) + 1) (fun _ => false) = F at *
  have q83 : M2 83 = M 83 := by rw [f2 _ (by decide) (by decide), s83]
  have q92 : M2 92 = M 92 := by rw [f2 _ (by decide) (by decide), f1 _ (by decide) (by decide)]
  have q95 : ∀ c, c < nC (M 83) → M2 95 c = L c := fun c hc => by rw [f2 _ (by decide) (by decide)]; exact (g1 c hc).1
  have hq0 : M2 83 0 = nI (nC (M 83)) := by rw [q83]; exact hn0
  have eS := @M_oS X M2 (nC (M 83)) F hn hq0 g2
  have eW := @M_oW X M2 (nC (M 83)) L F x hn hq0 g2 q95
  rw [q83] at eS
  obtain ⟨S, hS, hS9, hS0⟩ := @oS_p (kdX (M 83)) (nbX (M 83)) (nC (M 83)) F hnb
  generalize hs0 : M 83 = s at *
  generalize hnn : nC s = n at *
  have hlp := loop_inv (fun t M' => am_ev X kX9_findFlexIn 42 [.ref 82, .int x, .int 0, .int (oW L n x F), .int (nI S), .int (oW L n x F - sm (fun t => if op (kdX s) F t = true then oW L n x F * nbX s t / oS (kdX s) (nbX s) n F else 0) t), .int (nI t)] [] (hp M')) (fun t M' => (∀ a, a ≠ 92 → M' a = M2 a) ∧ ∀ c, c < n → M' 92 c = if c < t then bsz (kdX s) (nbX s) L n x sz F c else sz c) 0 n (by omega) M2 ⟨fun _ _ => rfl, fun c hc => by rw [if_neg (by omega), q92]; exact hs c hc⟩ ?_
  · obtain ⟨M3, e3, f3, g3⟩ := hlp
    have hlp2 := loop_inv (fun t M' => am_ev X kX9_findFlexIn 135 [.ref 82, .int x, .int 0, .int (oW L n x F), .int (nI S), .int (rsF (kdX s) (nbX s) L n x F t), .int (nI t)] [] (hp M')) (fun t M' => (∀ a, a ≠ 92 → M' a = M2 a) ∧ ∀ c, c < n → M' 92 c = if c < t then fsz (kdX s) (nbX s) L n x sz F c else bsz (kdX s) (nbX s) L n x sz F c) 0 n (by omega) M3 ⟨f3, fun c hc => by rw [g3 c hc, if_pos hc, if_neg (by omega)]⟩ ?_
    · obtain ⟨M4, e4, f4, g4⟩ := hlp2
      have z3 : M3 83 0 = nI n := by rw [f3 _ (by decide)]; exact hq0
      have z4 : M4 83 0 = nI n := by rw [f4 _ (by decide)]; exact hq0
      rw [hS] at eS
      refine ⟨M4, ?_, fun a h1 h2 h3 h4 => by rw [f4 a h1, f2 a h2 h4, f1 a h3 h4], fun c hc => by rw [g4 c hc, if_pos hc]⟩
      simp only [sm_0, nI_0, sub_0, rsF] at e3 e4
      simp (disch := omega) only [iX9_findFlexIn_0, iX9_findFlexIn_1, iX9_findFlexIn_4, iX9_findFlexIn_5, iX9_findFlexIn_6, iX9_findFlexIn_9, iX9_findFlexIn_10, true_or, or_true, Option.bind_some, Option.bind_none, kk_hp, kn_hp, el_i, el_b, el_z, am_cat_nil, am_cat_i, am_cat_r, am_cat_l, am_cat_n, gd_i, gd_r, gd_n, gd_u, List.length_cons, List.length_nil, true_and, and_true, ↓reduceIte, Nat.zero_le, Nat.reduceLeDiff, Nat.reduceAdd, e_10, e_01, e_00, e_11, Int32.reduceLE, Int32.reduceLT, Int32.reduceAdd, Int32.reduceSub, b01, if_true, if_false, ite_self, nl_add, nl_add', nl_mul, nI_add, in_t, cl_n, le_nn, lt_nn, le_ln, le_nl, lt_nl, lt_ln, eq_nn, eq_nl, in_lit, cl_lit, Nat.le_refl, Nat.add_zero, rc_82, gf_82_0, gf_82_1, gf_82_2, gf_82_3, gf_82_4, gf_82_5, gf_82_6, pf_82_6, gf_82_7, pf_82_7, gf_82_8, pf_82_8, gf_82_9, pf_82_9, gf_82_10, pf_82_10, gf_82_11, pf_82_11, gf_82_12, pf_82_12, gf_82_13, gf_82_14, gf_82_15, gf_82_16, pf_82_16, gf_82_17, gf_82_18, gf_82_19, gf_82_20, gf_82_21, gf_82_22, gf_82_23, gf_82_24, gf_82_25, pf_82_25, ga_83, wi_83, ga_84, wi_84, ga_85, wb_85, ga_86, wi_86, ga_87, wb_87, ga_88, wi_88, ga_89, wi_89, ga_90, wi_90, ga_91, wi_91, ga_92, wi_92, ga_93, wi_93, ga_94, wi_94, ga_95, wi_95, ga_96, wb_96, ga_97, wi_97, ga_98, wi_98, ga_99, wi_99, e0, e1]
      rw [e2]
      simp (disch := omega) only [iX9_findFlexIn_24, iX9_findFlexIn_25, iX9_findFlexIn_26, iX9_findFlexIn_29, iX9_findFlexIn_30, iX9_findFlexIn_31, iX9_findFlexIn_34, iX9_findFlexIn_36, iX9_findFlexIn_37, iX9_findFlexIn_39, iX9_findFlexIn_40, true_or, or_true, Option.bind_some, Option.bind_none, kk_hp, kn_hp, el_i, el_b, el_z, am_cat_nil, am_cat_i, am_cat_r, am_cat_l, am_cat_n, gd_i, gd_r, gd_n, gd_u, List.length_cons, List.length_nil, true_and, and_true, ↓reduceIte, Nat.zero_le, Nat.reduceLeDiff, Nat.reduceAdd, e_10, e_01, e_00, e_11, Int32.reduceLE, Int32.reduceLT, Int32.reduceAdd, Int32.reduceSub, b01, if_true, if_false, ite_self, nl_add, nl_add', nl_mul, nI_add, in_t, cl_n, le_nn, lt_nn, le_ln, le_nl, lt_nl, lt_ln, eq_nn, eq_nl, in_lit, cl_lit, Nat.le_refl, Nat.add_zero, rc_82, gf_82_0, gf_82_1, gf_82_2, gf_82_3, gf_82_4, gf_82_5, gf_82_6, pf_82_6, gf_82_7, pf_82_7, gf_82_8, pf_82_8, gf_82_9, pf_82_9, gf_82_10, pf_82_10, gf_82_11, pf_82_11, gf_82_12, pf_82_12, gf_82_13, gf_82_14, gf_82_15, gf_82_16, pf_82_16, gf_82_17, gf_82_18, gf_82_19, gf_82_20, gf_82_21, gf_82_22, gf_82_23, gf_82_24, gf_82_25, pf_82_25, ga_83, wi_83, ga_84, wi_84, ga_85, wb_85, ga_86, wi_86, ga_87, wb_87, ga_88, wi_88, ga_89, wi_89, ga_90, wi_90, ga_91, wi_91, ga_92, wi_92, ga_93, wi_93, ga_94, wi_94, ga_95, wi_95, ga_96, wb_96, ga_97, wi_97, ga_98, wi_98, ga_99, wi_99, eS, eW]
      rw [e3]
      simp (disch := omega) only [iX9_findFlexIn_42, iX9_findFlexIn_44, iX9_findFlexIn_45, iX9_findFlexIn_48, iX9_findFlexIn_49, iX9_findFlexIn_50, iX9_findFlexIn_132, iX9_findFlexIn_133, true_or, or_true, Option.bind_some, Option.bind_none, kk_hp, kn_hp, el_i, el_b, el_z, am_cat_nil, am_cat_i, am_cat_r, am_cat_l, am_cat_n, gd_i, gd_r, gd_n, gd_u, List.length_cons, List.length_nil, true_and, and_true, ↓reduceIte, Nat.zero_le, Nat.reduceLeDiff, Nat.reduceAdd, e_10, e_01, e_00, e_11, Int32.reduceLE, Int32.reduceLT, Int32.reduceAdd, Int32.reduceSub, b01, if_true, if_false, ite_self, nl_add, nl_add', nl_mul, nI_add, in_t, cl_n, le_nn, lt_nn, le_ln, le_nl, lt_nl, lt_ln, eq_nn, eq_nl, in_lit, cl_lit, Nat.le_refl, Nat.add_zero, rc_82, gf_82_0, gf_82_1, gf_82_2, gf_82_3, gf_82_4, gf_82_5, gf_82_6, pf_82_6, gf_82_7, pf_82_7, gf_82_8, pf_82_8, gf_82_9, pf_82_9, gf_82_10, pf_82_10, gf_82_11, pf_82_11, gf_82_12, pf_82_12, gf_82_13, gf_82_14, gf_82_15, gf_82_16, pf_82_16, gf_82_17, gf_82_18, gf_82_19, gf_82_20, gf_82_21, gf_82_22, gf_82_23, gf_82_24, gf_82_25, pf_82_25, ga_83, wi_83, ga_84, wi_84, ga_85, wb_85, ga_86, wi_86, ga_87, wb_87, ga_88, wi_88, ga_89, wi_89, ga_90, wi_90, ga_91, wi_91, ga_92, wi_92, ga_93, wi_93, ga_94, wi_94, ga_95, wi_95, ga_96, wb_96, ga_97, wi_97, ga_98, wi_98, ga_99, wi_99, z3]
      rw [e4]
      simp (disch := omega) only [iX9_findFlexIn_135, iX9_findFlexIn_137, iX9_findFlexIn_138, iX9_findFlexIn_141, iX9_findFlexIn_142, iX9_findFlexIn_143, iX9_findFlexIn_180, true_or, or_true, Option.bind_some, Option.bind_none, kk_hp, kn_hp, el_i, el_b, el_z, am_cat_nil, am_cat_i, am_cat_r, am_cat_l, am_cat_n, gd_i, gd_r, gd_n, gd_u, List.length_cons, List.length_nil, true_and, and_true, ↓reduceIte, Nat.zero_le, Nat.reduceLeDiff, Nat.reduceAdd, e_10, e_01, e_00, e_11, Int32.reduceLE, Int32.reduceLT, Int32.reduceAdd, Int32.reduceSub, b01, if_true, if_false, ite_self, nl_add, nl_add', nl_mul, nI_add, in_t, cl_n, le_nn, lt_nn, le_ln, le_nl, lt_nl, lt_ln, eq_nn, eq_nl, in_lit, cl_lit, Nat.le_refl, Nat.add_zero, rc_82, gf_82_0, gf_82_1, gf_82_2, gf_82_3, gf_82_4, gf_82_5, gf_82_6, pf_82_6, gf_82_7, pf_82_7, gf_82_8, pf_82_8, gf_82_9, pf_82_9, gf_82_10, pf_82_10, gf_82_11, pf_82_11, gf_82_12, pf_82_12, gf_82_13, gf_82_14, gf_82_15, gf_82_16, pf_82_16, gf_82_17, gf_82_18, gf_82_19, gf_82_20, gf_82_21, gf_82_22, gf_82_23, gf_82_24, gf_82_25, pf_82_25, ga_83, wi_83, ga_84, wi_84, ga_85, wb_85, ga_86, wi_86, ga_87, wb_87, ga_88, wi_88, ga_89, wi_89, ga_90, wi_90, ga_91, wi_91, ga_92, wi_92, ga_93, wi_93, ga_94, wi_94, ga_95, wi_95, ga_96, wb_96, ga_97, wi_97, ga_98, wi_98, ga_99, wi_99, z4]
    intro t M' _ ht ⟨hf, hG⟩
    have w83 : M' 83 = s := by rw [hf _ (by decide)]; exact q83
    have w0 : M' 83 0 = nI n := by rw [hf _ (by decide)]; exact hq0
    have eo := @M_op X M' t n F hn ht (by rw [hf _ (by decide)]; exact g2)
    rw [w83] at eo
    have hGt := hG t ht
    rw [if_neg (by omega)] at hGt
    by_cases hc : op (kdX s) F t = true ∧ ¬ rsF (kdX s) (nbX s) L n x F t ≤ 0
    · rw [hc.1, bI_t] at eo
      refine ⟨up M' 92 t (M' 92 t + 1), ?_, fun a ha => by rw [up_n _ _ _ ha]; exact hf a ha, fun c hcn => ?_⟩
      · rw [rsF, if_pos hc]
        conv => lhs; rw [iX9_findFlexIn_135]
        simp (disch := omega) only [iX9_findFlexIn_137, iX9_findFlexIn_138, iX9_findFlexIn_141, iX9_findFlexIn_142, iX9_findFlexIn_143, iX9_findFlexIn_146, iX9_findFlexIn_147, iX9_findFlexIn_149, iX9_findFlexIn_152, iX9_findFlexIn_155, iX9_findFlexIn_157, iX9_findFlexIn_160, iX9_findFlexIn_161, iX9_findFlexIn_164, iX9_findFlexIn_166, iX9_findFlexIn_167, iX9_findFlexIn_168, iX9_findFlexIn_169, iX9_findFlexIn_170, iX9_findFlexIn_171, iX9_findFlexIn_174, iX9_findFlexIn_177, true_or, or_true, Option.bind_some, Option.bind_none, kk_hp, kn_hp, el_i, el_b, el_z, am_cat_nil, am_cat_i, am_cat_r, am_cat_l, am_cat_n, gd_i, gd_r, gd_n, gd_u, List.length_cons, List.length_nil, true_and, and_true, ↓reduceIte, Nat.zero_le, Nat.reduceLeDiff, Nat.reduceAdd, e_10, e_01, e_00, e_11, Int32.reduceLE, Int32.reduceLT, Int32.reduceAdd, Int32.reduceSub, b01, if_true, if_false, ite_self, nl_add, nl_add', nl_mul, nI_add, in_t, cl_n, le_nn, lt_nn, le_ln, le_nl, lt_nl, lt_ln, eq_nn, eq_nl, in_lit, cl_lit, Nat.le_refl, Nat.add_zero, rc_82, gf_82_0, gf_82_1, gf_82_2, gf_82_3, gf_82_4, gf_82_5, gf_82_6, pf_82_6, gf_82_7, pf_82_7, gf_82_8, pf_82_8, gf_82_9, pf_82_9, gf_82_10, pf_82_10, gf_82_11, pf_82_11, gf_82_12, pf_82_12, gf_82_13, gf_82_14, gf_82_15, gf_82_16, pf_82_16, gf_82_17, gf_82_18, gf_82_19, gf_82_20, gf_82_21, gf_82_22, gf_82_23, gf_82_24, gf_82_25, pf_82_25, ga_83, wi_83, ga_84, wi_84, ga_85, wb_85, ga_86, wi_86, ga_87, wb_87, ga_88, wi_88, ga_89, wi_89, ga_90, wi_90, ga_91, wi_91, ga_92, wi_92, ga_93, wi_93, ga_94, wi_94, ga_95, wi_95, ga_96, wb_96, ga_97, wi_97, ga_98, wi_98, ga_99, wi_99, w0, show ¬ n ≤ t by omega, eo, hc.2]
      · rw [up_s]
        by_cases hct : c = t
        · rw [hct, pk_us, if_pos (by omega), fsz, if_pos hc, hGt]
        · rw [pk_un hct, hG c hcn]
          by_cases hc2 : c < t
          · rw [if_pos hc2, if_pos (by omega)]
          · rw [if_neg hc2, if_neg (by omega)]
    · refine ⟨M', ?_, hf, fun c hcn => ?_⟩
      · rw [rsF, if_neg hc]
        conv => lhs; rw [iX9_findFlexIn_135]
        cases ho : op (kdX s) F t with
        | false =>
          rw [ho, bI_f] at eo
          simp (disch := omega) only [iX9_findFlexIn_137, iX9_findFlexIn_138, iX9_findFlexIn_141, iX9_findFlexIn_142, iX9_findFlexIn_143, iX9_findFlexIn_146, iX9_findFlexIn_147, iX9_findFlexIn_149, iX9_findFlexIn_152, iX9_findFlexIn_155, iX9_findFlexIn_157, iX9_findFlexIn_160, iX9_findFlexIn_161, iX9_findFlexIn_164, iX9_findFlexIn_166, iX9_findFlexIn_167, iX9_findFlexIn_168, iX9_findFlexIn_169, iX9_findFlexIn_170, iX9_findFlexIn_171, iX9_findFlexIn_174, iX9_findFlexIn_177, true_or, or_true, Option.bind_some, Option.bind_none, kk_hp, kn_hp, el_i, el_b, el_z, am_cat_nil, am_cat_i, am_cat_r, am_cat_l, am_cat_n, gd_i, gd_r, gd_n, gd_u, List.length_cons, List.length_nil, true_and, and_true, ↓reduceIte, Nat.zero_le, Nat.reduceLeDiff, Nat.reduceAdd, e_10, e_01, e_00, e_11, Int32.reduceLE, Int32.reduceLT, Int32.reduceAdd, Int32.reduceSub, b01, if_true, if_false, ite_self, nl_add, nl_add', nl_mul, nI_add, in_t, cl_n, le_nn, lt_nn, le_ln, le_nl, lt_nl, lt_ln, eq_nn, eq_nl, in_lit, cl_lit, Nat.le_refl, Nat.add_zero, rc_82, gf_82_0, gf_82_1, gf_82_2, gf_82_3, gf_82_4, gf_82_5, gf_82_6, pf_82_6, gf_82_7, pf_82_7, gf_82_8, pf_82_8, gf_82_9, pf_82_9, gf_82_10, pf_82_10, gf_82_11, pf_82_11, gf_82_12, pf_82_12, gf_82_13, gf_82_14, gf_82_15, gf_82_16, pf_82_16, gf_82_17, gf_82_18, gf_82_19, gf_82_20, gf_82_21, gf_82_22, gf_82_23, gf_82_24, gf_82_25, pf_82_25, ga_83, wi_83, ga_84, wi_84, ga_85, wb_85, ga_86, wi_86, ga_87, wb_87, ga_88, wi_88, ga_89, wi_89, ga_90, wi_90, ga_91, wi_91, ga_92, wi_92, ga_93, wi_93, ga_94, wi_94, ga_95, wi_95, ga_96, wb_96, ga_97, wi_97, ga_98, wi_98, ga_99, wi_99, w0, show ¬ n ≤ t by omega, eo]
        | true =>
          rw [ho, bI_t] at eo
          have hr : rsF (kdX s) (nbX s) L n x F t ≤ 0 := Decidable.byContradiction (fun z => hc ⟨ho, z⟩)
          simp (disch := omega) only [iX9_findFlexIn_137, iX9_findFlexIn_138, iX9_findFlexIn_141, iX9_findFlexIn_142, iX9_findFlexIn_143, iX9_findFlexIn_146, iX9_findFlexIn_147, iX9_findFlexIn_149, iX9_findFlexIn_152, iX9_findFlexIn_155, iX9_findFlexIn_157, iX9_findFlexIn_160, iX9_findFlexIn_161, iX9_findFlexIn_164, iX9_findFlexIn_166, iX9_findFlexIn_167, iX9_findFlexIn_168, iX9_findFlexIn_169, iX9_findFlexIn_170, iX9_findFlexIn_171, iX9_findFlexIn_174, iX9_findFlexIn_177, true_or, or_true, Option.bind_some, Option.bind_none, kk_hp, kn_hp, el_i, el_b, el_z, am_cat_nil, am_cat_i, am_cat_r, am_cat_l, am_cat_n, gd_i, gd_r, gd_n, gd_u, List.length_cons, List.length_nil, true_and, and_true, ↓reduceIte, Nat.zero_le, Nat.reduceLeDiff, Nat.reduceAdd, e_10, e_01, e_00, e_11, Int32.reduceLE, Int32.reduceLT, Int32.reduceAdd, Int32.reduceSub, b01, if_true, if_false, ite_self, nl_add, nl_add', nl_mul, nI_add, in_t, cl_n, le_nn, lt_nn, le_ln, le_nl, lt_nl, lt_ln, eq_nn, eq_nl, in_lit, cl_lit, Nat.le_refl, Nat.add_zero, rc_82, gf_82_0, gf_82_1, gf_82_2, gf_82_3, gf_82_4, gf_82_5, gf_82_6, pf_82_6, gf_82_7, pf_82_7, gf_82_8, pf_82_8, gf_82_9, pf_82_9, gf_82_10, pf_82_10, gf_82_11, pf_82_11, gf_82_12, pf_82_12, gf_82_13, gf_82_14, gf_82_15, gf_82_16, pf_82_16, gf_82_17, gf_82_18, gf_82_19, gf_82_20, gf_82_21, gf_82_22, gf_82_23, gf_82_24, gf_82_25, pf_82_25, ga_83, wi_83, ga_84, wi_84, ga_85, wb_85, ga_86, wi_86, ga_87, wb_87, ga_88, wi_88, ga_89, wi_89, ga_90, wi_90, ga_91, wi_91, ga_92, wi_92, ga_93, wi_93, ga_94, wi_94, ga_95, wi_95, ga_96, wb_96, ga_97, wi_97, ga_98, wi_98, ga_99, wi_99, w0, show ¬ n ≤ t by omega, eo, hr]
      · rw [hG c hcn]
        by_cases hct : c = t
        · rw [hct, if_neg (by omega), if_pos (by omega), fsz, if_neg hc]
        · by_cases hc2 : c < t
          · rw [if_pos hc2, if_pos (by omega)]
          · rw [if_neg hc2, if_neg (by omega)]
  intro t M' _ ht ⟨hf, hG⟩
  have w83 : M' 83 = s := by rw [hf _ (by decide)]; exact q83
  have w0 : M' 83 0 = nI n := by rw [hf _ (by decide)]; exact hq0
  have w95 : M' 95 t = L t := by rw [hf _ (by decide)]; exact q95 t ht
  have eo := @M_op X M' t n F hn ht (by rw [hf _ (by decide)]; exact g2)
  rw [w83] at eo
  have hl : ¬ n ≤ t := by omega
  have hother : ∀ v c, c < n → v = bsz (kdX s) (nbX s) L n x sz F t → (upd (M' 92) t v) c = if c < t + 1 then bsz (kdX s) (nbX s) L n x sz F c else sz c := by
    intro v c hcn hv
    by_cases hct : c = t
    · rw [hct, pk_us, if_pos (by omega)]; exact hv
    · rw [pk_un hct, hG c hcn]
      by_cases hc2 : c < t
      · rw [if_pos hc2, if_pos (by omega)]
      · rw [if_neg hc2, if_neg (by omega)]
  rw [sub_sm]
  cases ho : op (kdX s) F t with
  | true =>
    rw [ho, bI_t] at eo
    have hSp := hS0 ⟨t, ht, ho⟩
    have w11 : M' 83 (11 + t) = nbX s t := by rw [w83]; rfl
    refine ⟨up M' 92 t (oW L n x F * nbX s t / oS (kdX s) (nbX s) n F), ?_, fun a ha => by rw [up_n _ _ _ ha]; exact hf a ha, fun c hcn => by rw [up_s]; exact hother _ c hcn (by rw [bsz, if_pos ho])⟩
    rw [if_pos rfl, hS]
    conv => lhs; rw [iX9_findFlexIn_42]
    simp (disch := omega) only [iX9_findFlexIn_44, iX9_findFlexIn_45, iX9_findFlexIn_48, iX9_findFlexIn_49, iX9_findFlexIn_50, iX9_findFlexIn_53, iX9_findFlexIn_54, iX9_findFlexIn_56, iX9_findFlexIn_59, iX9_findFlexIn_62, iX9_findFlexIn_63, iX9_findFlexIn_66, iX9_findFlexIn_68, iX9_findFlexIn_69, iX9_findFlexIn_70, iX9_findFlexIn_73, iX9_findFlexIn_75, iX9_findFlexIn_77, iX9_findFlexIn_78, iX9_findFlexIn_79, iX9_findFlexIn_80, iX9_findFlexIn_82, iX9_findFlexIn_83, iX9_findFlexIn_84, iX9_findFlexIn_86, iX9_findFlexIn_87, iX9_findFlexIn_90, iX9_findFlexIn_92, iX9_findFlexIn_93, iX9_findFlexIn_94, iX9_findFlexIn_96, iX9_findFlexIn_99, iX9_findFlexIn_100, iX9_findFlexIn_103, iX9_findFlexIn_104, iX9_findFlexIn_106, iX9_findFlexIn_107, iX9_findFlexIn_108, iX9_findFlexIn_109, iX9_findFlexIn_112, iX9_findFlexIn_113, iX9_findFlexIn_116, iX9_findFlexIn_118, iX9_findFlexIn_119, iX9_findFlexIn_122, iX9_findFlexIn_124, iX9_findFlexIn_125, iX9_findFlexIn_126, iX9_findFlexIn_129, true_or, or_true, Option.bind_some, Option.bind_none, kk_hp, kn_hp, el_i, el_b, el_z, am_cat_nil, am_cat_i, am_cat_r, am_cat_l, am_cat_n, gd_i, gd_r, gd_n, gd_u, List.length_cons, List.length_nil, true_and, and_true, ↓reduceIte, Nat.zero_le, Nat.reduceLeDiff, Nat.reduceAdd, e_10, e_01, e_00, e_11, Int32.reduceLE, Int32.reduceLT, Int32.reduceAdd, Int32.reduceSub, b01, if_true, if_false, ite_self, nl_add, nl_add', nl_mul, nI_add, in_t, cl_n, le_nn, lt_nn, le_ln, le_nl, lt_nl, lt_ln, eq_nn, eq_nl, in_lit, cl_lit, Nat.le_refl, Nat.add_zero, rc_82, gf_82_0, gf_82_1, gf_82_2, gf_82_3, gf_82_4, gf_82_5, gf_82_6, pf_82_6, gf_82_7, pf_82_7, gf_82_8, pf_82_8, gf_82_9, pf_82_9, gf_82_10, pf_82_10, gf_82_11, pf_82_11, gf_82_12, pf_82_12, gf_82_13, gf_82_14, gf_82_15, gf_82_16, pf_82_16, gf_82_17, gf_82_18, gf_82_19, gf_82_20, gf_82_21, gf_82_22, gf_82_23, gf_82_24, gf_82_25, pf_82_25, ga_83, wi_83, ga_84, wi_84, ga_85, wb_85, ga_86, wi_86, ga_87, wb_87, ga_88, wi_88, ga_89, wi_89, ga_90, wi_90, ga_91, wi_91, ga_92, wi_92, ga_93, wi_93, ga_94, wi_94, ga_95, wi_95, ga_96, wb_96, ga_97, wi_97, ga_98, wi_98, ga_99, wi_99, w0, w11, hl, eo, up_s, pk_us, nI_ne0 (show 0 < S by omega) (show S < 2 ^ 31 by omega)]
  | false =>
    rw [ho, bI_f] at eo
    rw [if_neg (by decide), sub_0]
    by_cases hk2 : M' 83 (5 + t) = 2
    · refine ⟨up M' 92 t (L t), ?_, fun a ha => by rw [up_n _ _ _ ha]; exact hf a ha, fun c hcn => by
        rw [up_s]
        refine hother _ c hcn ?_
        rw [bsz, if_neg (by rw [ho]; decide), if_pos]
        rw [w83] at hk2
        cases hft : F t with
        | true => rfl
        | false => exact absurd ((op_iff (kd := kdX s) (F := F) (t := t)).mpr ⟨hk2, hft⟩) (by rw [ho]; decide)⟩
      conv => lhs; rw [iX9_findFlexIn_42]
      simp (disch := omega) only [iX9_findFlexIn_44, iX9_findFlexIn_45, iX9_findFlexIn_48, iX9_findFlexIn_49, iX9_findFlexIn_50, iX9_findFlexIn_53, iX9_findFlexIn_54, iX9_findFlexIn_56, iX9_findFlexIn_59, iX9_findFlexIn_62, iX9_findFlexIn_63, iX9_findFlexIn_66, iX9_findFlexIn_68, iX9_findFlexIn_69, iX9_findFlexIn_70, iX9_findFlexIn_73, iX9_findFlexIn_75, iX9_findFlexIn_77, iX9_findFlexIn_78, iX9_findFlexIn_79, iX9_findFlexIn_80, iX9_findFlexIn_82, iX9_findFlexIn_83, iX9_findFlexIn_84, iX9_findFlexIn_86, iX9_findFlexIn_87, iX9_findFlexIn_90, iX9_findFlexIn_92, iX9_findFlexIn_93, iX9_findFlexIn_94, iX9_findFlexIn_96, iX9_findFlexIn_99, iX9_findFlexIn_100, iX9_findFlexIn_103, iX9_findFlexIn_104, iX9_findFlexIn_106, iX9_findFlexIn_107, iX9_findFlexIn_108, iX9_findFlexIn_109, iX9_findFlexIn_112, iX9_findFlexIn_113, iX9_findFlexIn_116, iX9_findFlexIn_118, iX9_findFlexIn_119, iX9_findFlexIn_122, iX9_findFlexIn_124, iX9_findFlexIn_125, iX9_findFlexIn_126, iX9_findFlexIn_129, true_or, or_true, Option.bind_some, Option.bind_none, kk_hp, kn_hp, el_i, el_b, el_z, am_cat_nil, am_cat_i, am_cat_r, am_cat_l, am_cat_n, gd_i, gd_r, gd_n, gd_u, List.length_cons, List.length_nil, true_and, and_true, ↓reduceIte, Nat.zero_le, Nat.reduceLeDiff, Nat.reduceAdd, e_10, e_01, e_00, e_11, Int32.reduceLE, Int32.reduceLT, Int32.reduceAdd, Int32.reduceSub, b01, if_true, if_false, ite_self, nl_add, nl_add', nl_mul, nI_add, in_t, cl_n, le_nn, lt_nn, le_ln, le_nl, lt_nl, lt_ln, eq_nn, eq_nl, in_lit, cl_lit, Nat.le_refl, Nat.add_zero, rc_82, gf_82_0, gf_82_1, gf_82_2, gf_82_3, gf_82_4, gf_82_5, gf_82_6, pf_82_6, gf_82_7, pf_82_7, gf_82_8, pf_82_8, gf_82_9, pf_82_9, gf_82_10, pf_82_10, gf_82_11, pf_82_11, gf_82_12, pf_82_12, gf_82_13, gf_82_14, gf_82_15, gf_82_16, pf_82_16, gf_82_17, gf_82_18, gf_82_19, gf_82_20, gf_82_21, gf_82_22, gf_82_23, gf_82_24, gf_82_25, pf_82_25, ga_83, wi_83, ga_84, wi_84, ga_85, wb_85, ga_86, wi_86, ga_87, wb_87, ga_88, wi_88, ga_89, wi_89, ga_90, wi_90, ga_91, wi_91, ga_92, wi_92, ga_93, wi_93, ga_94, wi_94, ga_95, wi_95, ga_96, wb_96, ga_97, wi_97, ga_98, wi_98, ga_99, wi_99, w0, hl, eo, hk2, w95]
    · refine ⟨M', ?_, hf, fun c hcn => ?_⟩
      · conv => lhs; rw [iX9_findFlexIn_42]
        simp (disch := omega) only [iX9_findFlexIn_44, iX9_findFlexIn_45, iX9_findFlexIn_48, iX9_findFlexIn_49, iX9_findFlexIn_50, iX9_findFlexIn_53, iX9_findFlexIn_54, iX9_findFlexIn_56, iX9_findFlexIn_59, iX9_findFlexIn_62, iX9_findFlexIn_63, iX9_findFlexIn_66, iX9_findFlexIn_68, iX9_findFlexIn_69, iX9_findFlexIn_70, iX9_findFlexIn_73, iX9_findFlexIn_75, iX9_findFlexIn_77, iX9_findFlexIn_78, iX9_findFlexIn_79, iX9_findFlexIn_80, iX9_findFlexIn_82, iX9_findFlexIn_83, iX9_findFlexIn_84, iX9_findFlexIn_86, iX9_findFlexIn_87, iX9_findFlexIn_90, iX9_findFlexIn_92, iX9_findFlexIn_93, iX9_findFlexIn_94, iX9_findFlexIn_96, iX9_findFlexIn_99, iX9_findFlexIn_100, iX9_findFlexIn_103, iX9_findFlexIn_104, iX9_findFlexIn_106, iX9_findFlexIn_107, iX9_findFlexIn_108, iX9_findFlexIn_109, iX9_findFlexIn_112, iX9_findFlexIn_113, iX9_findFlexIn_116, iX9_findFlexIn_118, iX9_findFlexIn_119, iX9_findFlexIn_122, iX9_findFlexIn_124, iX9_findFlexIn_125, iX9_findFlexIn_126, iX9_findFlexIn_129, true_or, or_true, Option.bind_some, Option.bind_none, kk_hp, kn_hp, el_i, el_b, el_z, am_cat_nil, am_cat_i, am_cat_r, am_cat_l, am_cat_n, gd_i, gd_r, gd_n, gd_u, List.length_cons, List.length_nil, true_and, and_true, ↓reduceIte, Nat.zero_le, Nat.reduceLeDiff, Nat.reduceAdd, e_10, e_01, e_00, e_11, Int32.reduceLE, Int32.reduceLT, Int32.reduceAdd, Int32.reduceSub, b01, if_true, if_false, ite_self, nl_add, nl_add', nl_mul, nI_add, in_t, cl_n, le_nn, lt_nn, le_ln, le_nl, lt_nl, lt_ln, eq_nn, eq_nl, in_lit, cl_lit, Nat.le_refl, Nat.add_zero, rc_82, gf_82_0, gf_82_1, gf_82_2, gf_82_3, gf_82_4, gf_82_5, gf_82_6, pf_82_6, gf_82_7, pf_82_7, gf_82_8, pf_82_8, gf_82_9, pf_82_9, gf_82_10, pf_82_10, gf_82_11, pf_82_11, gf_82_12, pf_82_12, gf_82_13, gf_82_14, gf_82_15, gf_82_16, pf_82_16, gf_82_17, gf_82_18, gf_82_19, gf_82_20, gf_82_21, gf_82_22, gf_82_23, gf_82_24, gf_82_25, pf_82_25, ga_83, wi_83, ga_84, wi_84, ga_85, wb_85, ga_86, wi_86, ga_87, wb_87, ga_88, wi_88, ga_89, wi_89, ga_90, wi_90, ga_91, wi_91, ga_92, wi_92, ga_93, wi_93, ga_94, wi_94, ga_95, wi_95, ga_96, wb_96, ga_97, wi_97, ga_98, wi_98, ga_99, wi_99, w0, hl, eo, hk2]
      · have hGt := hG t ht
        rw [if_neg (by omega)] at hGt
        have := hother (M' 92 t) c hcn (by
          rw [hGt, bsz, if_neg (by rw [ho]; decide), if_neg]
          intro z
          rw [w83] at hk2
          exact hk2 (hkF t z))
        by_cases hct : c = t
        · rw [hct] at this ⊢; rw [pk_us] at this; exact this
        · rw [pk_un hct] at this; exact this
end S62
