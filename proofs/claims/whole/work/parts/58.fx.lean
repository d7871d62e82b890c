/-! freezing, purely; the class's round -/
def op (kd : Nat → Int32) (F : Nat → Bool) (t : Nat) : Bool := decide (kd t = 2) && !F t
theorem op_iff {kd : Nat → Int32} {F : Nat → Bool} {t : Nat} : op kd F t = true ↔ kd t = 2 ∧ F t = false := by
  unfold op
  by_cases h : kd t = 2 <;> cases hf : F t <;> simp [h]
def oS (kd nb : Nat → Int32) (n : Nat) (F : Nat → Bool) : Int32 := sm (fun t => if op kd F t = true then nb t else 0) n
def oW (L : Nat → Int32) (n : Nat) (x : Int32) (F : Nat → Bool) : Int32 := if x - sm (fun t => if F t = false then 0 else L t) n ≤ 0 then 0 else x - sm (fun t => if F t = false then 0 else L t) n
def fz (kd nb L : Nat → Int32) (n : Nat) (x : Int32) (F : Nat → Bool) (t : Nat) : Bool := op kd F t && !decide (L t * oS kd nb n F ≤ oW L n x F * nb t)
def fzN (kd nb L : Nat → Int32) (n : Nat) (x : Int32) (F : Nat → Bool) : Nat → Bool := fun t => F t || fz kd nb L n x F t
def anF (p : Nat → Bool) : Nat → Bool
  | 0 => false
  | n + 1 => anF p n || p n
def frR (kd nb L : Nat → Int32) (n : Nat) (x : Int32) : Nat → (Nat → Bool) → (Nat → Bool)
  | 0, F => F
  | k + 1, F => if anF (fz kd nb L n x F) n = true then frR kd nb L n x k (fzN kd nb L n x F) else F
theorem oS_p {kd nb : Nat → Int32} {n : Nat} {F : Nat → Bool} (h : ∀ t, t < n → kd t = 2 → ∃ k, 1 ≤ k ∧ k ≤ 9 ∧ nb t = nI k) : ∃ S, oS kd nb n F = nI S ∧ S ≤ 9 * n ∧ ((∃ t, t < n ∧ op kd F t = true) → 0 < S) := by
  unfold oS
  induction n with
  | zero => exact ⟨0, rfl, Nat.le_refl 0, fun ⟨t, ht, _⟩ => absurd ht (Nat.not_lt_zero t)⟩
  | succ n ih =>
    obtain ⟨S, e, h1, h2⟩ := ih (fun t ht => h t (by omega))
    rw [sm_s, e]
    by_cases ho : op kd F n = true
    · obtain ⟨k, k1, k9, ek⟩ := h n (by omega) (op_iff.mp ho).1
      refine ⟨S + k, ?_, by omega, fun _ => by omega⟩
      rw [if_pos ho, ek, nI_add]
    · refine ⟨S, ?_, by omega, fun ⟨t, ht, hto⟩ => ?_⟩
      · rw [if_neg ho, Int32.add_zero]
      · by_cases htn : t = n
        · rw [htn] at hto; exact absurd hto ho
        · exact h2 ⟨t, by omega, hto⟩
/-- the class's axis holds the frozen ones -/
def FC (M : Nat → Nat → Int32) (g n : Nat) (L sz : Nat → Int32) (F : Nat → Bool) : Prop :=
  ∃ b, b < 64 ∧ M 80 1 = nI b ∧ (∀ t, t < n → b.testBit t = F t) ∧ ∀ t, t < n → M (g + 3) t = if F t = true then L t else sz t
theorem FC_ext {M : Nat → Nat → Int32} {g n : Nat} {L sz : Nat → Int32} {F F' : Nat → Bool} (h : FC M g n L sz F) (e : ∀ t, t < n → F t = F' t) : FC M g n L sz F' := by
  obtain ⟨b, hb, h80, hbF, hsz⟩ := h
  exact ⟨b, hb, h80, fun t ht => by rw [← e t ht]; exact hbF t ht, fun t ht => by rw [← e t ht]; exact hsz t ht⟩
theorem dec_s {y t : Nat} (h : y ≠ t) : decide (y < t + 1) = decide (y < t) := by
  by_cases hy2 : y < t
  · rw [decide_eq_true hy2, decide_eq_true (by omega)]
  · rw [decide_eq_false hy2, decide_eq_false (by omega)]
section S58
variable {X : am_X} {M : Nat → Nat → Int32}
theorem C_oS {g n : Nat} {kd nb L sz : Nat → Int32} {F : Nat → Bool} (hg : isA g) (h0 : M g 0 = nI n) (hn : n ≤ 6) (hk : ∀ c, c < n → M (g + 1) c = kd c ∧ M (g + 2) c = nb c) (hF : FC M g n L sz F) :
    am_ev X kX4_openShares 0 [.ref 80, .ref g, am_u, am_u] [] (hp M) = some (some (.int (oS kd nb n F)), hp M) := by
  obtain ⟨b, hb, h80, hbF, hsz⟩ := hF
  rw [C_openShares hg hb hn h80 h0]
  congr 4
  unfold oS
  refine sm_ext (fun t ht => ?_)
  rw [(hk t ht).1, (hk t ht).2, hbF t ht]
  by_cases ho : op kd F t = true
  · rw [if_pos ho, if_pos (op_iff.mp ho)]
  · rw [if_neg ho, if_neg (fun z => ho (op_iff.mpr z))]
theorem C_oW {g n : Nat} {L sz : Nat → Int32} {F : Nat → Bool} {x : Int32} (hg : isA g) (h0 : M g 0 = nI n) (hn : n ≤ 6) (hF : FC M g n L sz F) :
    am_ev X kX4_openWidth 0 [.ref 80, .ref g, .int x, am_u, am_u] [] (hp M) = some (some (.int (oW L n x F)), hp M) := by
  obtain ⟨b, hb, h80, hbF, hsz⟩ := hF
  rw [C_openWidth hg hb hn h80 h0, mx_if]
  have e : sm (fun t => if b.testBit t = false then 0 else M (g + 3) t) n = sm (fun t => if F t = false then 0 else L t) n := by
    refine sm_ext (fun t ht => ?_)
    rw [hbF t ht, hsz t ht]
    cases hf : F t <;> simp
  rw [e]
  rfl
theorem C_op {g n t : Nat} {kd nb L sz : Nat → Int32} {F : Nat → Bool} (hg : isA g) (hn : n ≤ 6) (ht : t < n) (hk : ∀ c, c < n → M (g + 1) c = kd c ∧ M (g + 2) c = nb c) (hF : FC M g n L sz F) :
    am_ev X kX4_isOpen 0 [.ref 80, .ref g, .int (nI t)] [] (hp M) = some (some (.int (bI (op kd F t))), hp M) := by
  obtain ⟨b, hb, h80, hbF, hsz⟩ := hF
  rw [C_isOpen hg hb (by omega) h80, (hk t ht).1, hbF t ht]
  rfl
theorem C_freeze {g n : Nat} {kd nb L sz : Nat → Int32} {F : Nat → Bool} {x : Int32} (hg : isA g) (h0 : M g 0 = nI n) (hn : n ≤ 6) (hk : ∀ c, c < n → M (g + 1) c = kd c ∧ M (g + 2) c = nb c) (hL : ∀ t, t < n → M 81 t = L t) (hF : FC M g n L sz F) :
    ∃ M', am_ev X kX4_freeze 0 [.ref 80, .ref g, .int x, am_u, am_u, am_u, am_u] [] (hp M) = some (some (.int (bI (anF (fz kd nb L n x F) n))), hp M') ∧ (∀ a, a ≠ g + 3 → a ≠ 80 → M' a = M a) ∧ FC M' g n L sz (fzN kd nb L n x F) := by
  have eS := @C_oS X M g n kd nb L sz F hg h0 hn hk hF
  have eW := @C_oW X M g n L sz F x hg h0 hn hF
  have hgr := isA_1 hg
  have hpd : ∀ t, fz kd nb L n x F t = (op kd F t && !decide (L t * oS kd nb n F ≤ oW L n x F * nb t)) := fun _ => rfl
  unfold fzN
  generalize fz kd nb L n x F = p at *
  generalize oS kd nb n F = S at *
  generalize oW L n x F = W at *
  have hlp := loop_inv (fun t M' => am_ev X kX4_freeze 20 [.ref 80, .ref g, .int x, .int S, .int W, .int (bI (anF p t)), .int (nI t)] [] (hp M')) (fun t M' => (∀ a, a ≠ g + 3 → a ≠ 80 → M' a = M a) ∧ FC M' g n L sz (fun y => F y || (decide (y < t) && p y))) 0 n (by omega) M ⟨fun _ _ _ => rfl, by
    have : (fun y => F y || (decide (y < 0) && p y)) = F := by funext y; simp
    rw [this]; exact hF⟩ ?_
  · obtain ⟨M1, e1, f1, c1⟩ := hlp
    refine ⟨M1, ?_, f1, ?_⟩
    · simp only [nI_0, anF, bI_f] at e1
      have b0 : M1 g 0 = nI n := by rw [f1 g (by omega) (by omega)]; exact h0
      simp (disch := omega) only [iX4_freeze_0, iX4_freeze_1, iX4_freeze_2, iX4_freeze_5, iX4_freeze_6, iX4_freeze_7, iX4_freeze_8, iX4_freeze_9, iX4_freeze_12, iX4_freeze_14, iX4_freeze_15, iX4_freeze_17, iX4_freeze_18, true_or, or_true, Option.bind_some, Option.bind_none, kk_hp, kn_hp, el_i, el_b, el_z, am_cat_nil, am_cat_i, am_cat_r, am_cat_l, am_cat_n, gd_i, gd_r, gd_n, gd_u, List.length_cons, List.length_nil, true_and, and_true, ↓reduceIte, Nat.zero_le, Nat.reduceLeDiff, Nat.reduceAdd, e_10, e_01, e_00, e_11, Int32.reduceLE, Int32.reduceLT, Int32.reduceAdd, Int32.reduceSub, b01, if_true, if_false, ite_self, rc_80, gf_80_0, gf_80_1, pf_80_1, nl_add, nl_add', nl_mul, nI_add, in_t, cl_n, le_nn, lt_nn, le_ln, le_nl, lt_nl, lt_ln, eq_nn, eq_nl, in_lit, cl_lit, Nat.le_refl, Nat.add_zero, eS, eW]
      rw [e1]
      simp (disch := omega) only [iX4_freeze_20, iX4_freeze_22, iX4_freeze_23, iX4_freeze_26, iX4_freeze_97, iX4_freeze_99, true_or, or_true, Option.bind_some, Option.bind_none, kk_hp, kn_hp, el_i, el_b, el_z, am_cat_nil, am_cat_i, am_cat_r, am_cat_l, am_cat_n, gd_i, gd_r, gd_n, gd_u, List.length_cons, List.length_nil, true_and, and_true, ↓reduceIte, Nat.zero_le, Nat.reduceLeDiff, Nat.reduceAdd, e_10, e_01, e_00, e_11, Int32.reduceLE, Int32.reduceLT, Int32.reduceAdd, Int32.reduceSub, b01, if_true, if_false, ite_self, nl_add, nl_add', nl_mul, nI_add, in_t, cl_n, le_nn, lt_nn, le_ln, le_nl, lt_nl, lt_ln, eq_nn, eq_nl, in_lit, cl_lit, Nat.le_refl, Nat.add_zero, gA0 hg, b0, bI_b]
    · exact FC_ext c1 (fun t ht => by rw [decide_eq_true ht, Bool.true_and])
  intro t M' _ ht ⟨hf, hC⟩
  have b0 : M' g 0 = nI n := by rw [hf g (by omega) (by omega)]; exact h0
  have b1 : M' (g + 1) = M (g + 1) := hf _ (by omega) (by omega)
  have b2 : M' (g + 2) = M (g + 2) := hf _ (by omega) (by omega)
  have b81 : M' 81 t = L t := by rw [hf 81 (by omega) (by omega)]; exact hL t ht
  have b2t : M' (g + 2) t = nb t := by rw [b2]; exact (hk t ht).2
  have hk' : ∀ c, c < n → M' (g + 1) c = kd c ∧ M' (g + 2) c = nb c := by rw [b1, b2]; exact hk
  have eo := @C_op X M' g n t kd nb L sz _ hg hn ht hk' hC
  have eop : op kd (fun y => F y || (decide (y < t) && p y)) t = op kd F t := by
    unfold op
    simp
  rw [eop] at eo
  have hl : ¬ n ≤ t := by omega
  have hpt := hpd t
  cases ho : op kd F t with
  | false =>
    rw [ho, Bool.false_and] at hpt
    rw [ho, bI_f] at eo
    refine ⟨M', ?_, hf, ?_⟩
    · conv => lhs; rw [iX4_freeze_20]
      rw [anF, hpt, Bool.or_false]
      simp (disch := omega) only [iX4_freeze_22, iX4_freeze_23, iX4_freeze_26, iX4_freeze_29, iX4_freeze_30, iX4_freeze_31, iX4_freeze_33, iX4_freeze_36, iX4_freeze_39, iX4_freeze_40, iX4_freeze_43, iX4_freeze_45, iX4_freeze_46, iX4_freeze_47, iX4_freeze_48, iX4_freeze_50, iX4_freeze_51, iX4_freeze_54, iX4_freeze_56, iX4_freeze_57, iX4_freeze_58, iX4_freeze_61, iX4_freeze_62, iX4_freeze_65, iX4_freeze_67, iX4_freeze_68, iX4_freeze_71, iX4_freeze_73, iX4_freeze_74, iX4_freeze_75, iX4_freeze_76, iX4_freeze_77, iX4_freeze_80, iX4_freeze_81, iX4_freeze_83, iX4_freeze_84, iX4_freeze_85, iX4_freeze_88, iX4_freeze_89, iX4_freeze_91, iX4_freeze_94, true_or, or_true, Option.bind_some, Option.bind_none, kk_hp, kn_hp, el_i, el_b, el_z, am_cat_nil, am_cat_i, am_cat_r, am_cat_l, am_cat_n, gd_i, gd_r, gd_n, gd_u, List.length_cons, List.length_nil, true_and, and_true, ↓reduceIte, Nat.zero_le, Nat.reduceLeDiff, Nat.reduceAdd, e_10, e_01, e_00, e_11, Int32.reduceLE, Int32.reduceLT, Int32.reduceAdd, Int32.reduceSub, b01, if_true, if_false, ite_self, rc_80, gf_80_0, gf_80_1, pf_80_1, nl_add, nl_add', nl_mul, nI_add, in_t, cl_n, le_nn, lt_nn, le_ln, le_nl, lt_nl, lt_ln, eq_nn, eq_nl, in_lit, cl_lit, Nat.le_refl, Nat.add_zero, gA0 hg, b0, eo, hl]
    · refine FC_ext hC (fun y hy => ?_)
      try dsimp only
      by_cases hyt : y = t
      · rw [hyt, hpt, Bool.and_false, Bool.and_false]
      · rw [dec_s hyt]
  | true =>
    rw [ho, Bool.true_and] at hpt
    rw [ho, bI_t] at eo
    by_cases hq : L t * S ≤ W * nb t
    · rw [decide_eq_true hq] at hpt
      refine ⟨M', ?_, hf, ?_⟩
      · conv => lhs; rw [iX4_freeze_20]
        rw [anF, hpt, Bool.not_true, Bool.or_false]
        simp (disch := omega) only [iX4_freeze_22, iX4_freeze_23, iX4_freeze_26, iX4_freeze_29, iX4_freeze_30, iX4_freeze_31, iX4_freeze_33, iX4_freeze_36, iX4_freeze_39, iX4_freeze_40, iX4_freeze_43, iX4_freeze_45, iX4_freeze_46, iX4_freeze_47, iX4_freeze_48, iX4_freeze_50, iX4_freeze_51, iX4_freeze_54, iX4_freeze_56, iX4_freeze_57, iX4_freeze_58, iX4_freeze_61, iX4_freeze_62, iX4_freeze_65, iX4_freeze_67, iX4_freeze_68, iX4_freeze_71, iX4_freeze_73, iX4_freeze_74, iX4_freeze_75, iX4_freeze_76, iX4_freeze_77, iX4_freeze_80, iX4_freeze_81, iX4_freeze_83, iX4_freeze_84, iX4_freeze_85, iX4_freeze_88, iX4_freeze_89, iX4_freeze_91, iX4_freeze_94, true_or, or_true, Option.bind_some, Option.bind_none, kk_hp, kn_hp, el_i, el_b, el_z, am_cat_nil, am_cat_i, am_cat_r, am_cat_l, am_cat_n, gd_i, gd_r, gd_n, gd_u, List.length_cons, List.length_nil, true_and, and_true, ↓reduceIte, Nat.zero_le, Nat.reduceLeDiff, Nat.reduceAdd, e_10, e_01, e_00, e_11, Int32.reduceLE, Int32.reduceLT, Int32.reduceAdd, Int32.reduceSub, b01, if_true, if_false, ite_self, rc_80, gf_80_0, gf_80_1, pf_80_1, ga_81, wi_81, nl_add, nl_add', nl_mul, nI_add, in_t, cl_n, le_nn, lt_nn, le_ln, le_nl, lt_nl, lt_ln, eq_nn, eq_nl, in_lit, cl_lit, Nat.le_refl, Nat.add_zero, gA0 hg, gA3 hg, aA2 hg, b0, b81, b2t, eo, hl, hq]
      · refine FC_ext hC (fun y hy => ?_)
        try dsimp only
        by_cases hyt : y = t
        · rw [hyt, hpt, Bool.not_true, Bool.and_false, Bool.and_false]
        · rw [dec_s hyt]
    · rw [decide_eq_false hq] at hpt
      obtain ⟨b, hb, h80, hbF, hsz⟩ := hC
      obtain ⟨b', hb', eb', tb'⟩ := @bit_or b t hb (by omega)
      have u80 : ∀ j y, (up M' (g + 3) j y) 80 1 = nI b := fun j y => by rw [up_n _ _ _ (by omega)]; exact h80
      refine ⟨up (up M' (g + 3) t (L t)) 80 1 (nI b'), ?_, fun a h1 h2 => by rw [up_n _ _ _ h2, up_n _ _ _ h1]; exact hf a h1 h2, b', hb', ?_, fun y hy => ?_, fun y hy => ?_⟩
      · conv => lhs; rw [iX4_freeze_20]
        rw [anF, hpt, Bool.not_false, Bool.or_true, bI_t, ← eb']
        simp (disch := omega) only [iX4_freeze_22, iX4_freeze_23, iX4_freeze_26, iX4_freeze_29, iX4_freeze_30, iX4_freeze_31, iX4_freeze_33, iX4_freeze_36, iX4_freeze_39, iX4_freeze_40, iX4_freeze_43, iX4_freeze_45, iX4_freeze_46, iX4_freeze_47, iX4_freeze_48, iX4_freeze_50, iX4_freeze_51, iX4_freeze_54, iX4_freeze_56, iX4_freeze_57, iX4_freeze_58, iX4_freeze_61, iX4_freeze_62, iX4_freeze_65, iX4_freeze_67, iX4_freeze_68, iX4_freeze_71, iX4_freeze_73, iX4_freeze_74, iX4_freeze_75, iX4_freeze_76, iX4_freeze_77, iX4_freeze_80, iX4_freeze_81, iX4_freeze_83, iX4_freeze_84, iX4_freeze_85, iX4_freeze_88, iX4_freeze_89, iX4_freeze_91, iX4_freeze_94, true_or, or_true, Option.bind_some, Option.bind_none, kk_hp, kn_hp, el_i, el_b, el_z, am_cat_nil, am_cat_i, am_cat_r, am_cat_l, am_cat_n, gd_i, gd_r, gd_n, gd_u, List.length_cons, List.length_nil, true_and, and_true, ↓reduceIte, Nat.zero_le, Nat.reduceLeDiff, Nat.reduceAdd, e_10, e_01, e_00, e_11, Int32.reduceLE, Int32.reduceLT, Int32.reduceAdd, Int32.reduceSub, b01, if_true, if_false, ite_self, rc_80, gf_80_0, gf_80_1, pf_80_1, ga_81, wi_81, nl_add, nl_add', nl_mul, nI_add, in_t, cl_n, le_nn, lt_nn, le_ln, le_nl, lt_nl, lt_ln, eq_nn, eq_nl, in_lit, cl_lit, Nat.le_refl, Nat.add_zero, gA0 hg, gA3 hg, gA4 hg, aA2 hg, wA3 hg, b0, b81, b2t, eo, hl, hq, u80]
      · rw [up_s, pk_us]
      · rw [tb' y (by omega), hbF y hy]
        try dsimp only
        by_cases hyt : y = t
        · rw [hyt, hpt]; simp
        · rw [dec_s hyt, decide_eq_false hyt, Bool.or_false]
      · rw [up_n _ _ _ (by omega), up_s]
        try dsimp only
        by_cases hyt : y = t
        · rw [hyt, pk_us]; simp [hpt]
        · simp only [dec_s hyt, pk_un hyt]; exact hsz y hy
end S58
