/-! lines: gap, width, high -/
def dI (d : Nat → Int32) (i : Nat) : Prop := (∃ w, d (26 + 6 * i) = nI w ∧ 1 ≤ w ∧ w ≤ 6) ∧ (∃ t, d (26 + 6 * i + 1) = nI t ∧ 1 ≤ t ∧ t ≤ 4) ∧ (d (26 + 6 * i + 4) = -4 ∨ ∃ c, c ≤ 6 ∧ d (26 + 6 * i + 4) = nI c) ∧ (d (26 + 6 * i + 5) = -4 ∨ ∃ r, r ≤ 11 ∧ d (26 + 6 * i + 5) = nI r)
/-- a draft under way -/
def dW (d : Nat → Int32) : Prop := (d 0 = nI (nC d) ∧ nC d ≤ 6) ∧ (d 25 = nI (mI d) ∧ mI d ≤ 10) ∧ (∀ i, i < mI d → dI d i) ∧ (∀ v, v < 8 → d (17 + v) = -4 ∨ ∃ c, c ≤ 6 ∧ d (17 + v) = nI c) ∧ ∀ c, c < nC d → d (5 + c) = 2 → ∃ k, 1 ≤ k ∧ k ≤ 9 ∧ d (11 + c) = nI k
theorem dI_ext {d d' : Nat → Int32} {i : Nat} (h : dI d i) (e : ∀ w, w < 6 → d' (26 + 6 * i + w) = d (26 + 6 * i + w)) : dI d' i := by
  unfold dI at h ⊢
  rw [show d' (26 + 6 * i) = d (26 + 6 * i) from e 0 (by decide), e 1 (by decide), e 4 (by decide), e 5 (by decide)]
  exact h
theorem dW_ext {d d' : Nat → Int32} (h : dW d) (e : ∀ j, j = 0 ∨ 5 ≤ j → d' j = d j) : dW d' := by
  have en : nC d' = nC d := by unfold nC; rw [e 0 (by omega)]
  have em : mI d' = mI d := by unfold mI; rw [e 25 (by omega)]
  obtain ⟨h1, h2, h3, h4, h5⟩ := h
  refine ⟨by rw [e 0 (by omega), en]; exact h1, by rw [e 25 (by omega), em]; exact h2, fun i hi => dI_ext (h3 i (by omega)) (fun w _ => e _ (by omega)), fun v hv => by rw [e _ (by omega)]; exact h4 v hv, fun c hc => by rw [e _ (by omega), e _ (by omega)]; exact h5 c (by omega)⟩
def tdC (M : Nat → Nat → Int32) (td : Nat → Bool) : Prop := ∀ k, k < 4 → M 12 (4 + k) = bI (td k)
def tdM (M : Nat → Nat → Int32) (td : Nat → Bool) : Prop := ∀ k, k < 4 → M 87 k = bI (td k)
def tdS (td : Nat → Bool) (k : Nat) : Nat → Bool := fun j => td j || decide (j = k)
/-- frames of a line -/
def cX (M M' : Nat → Nat → Int32) : Prop := ∀ a, a ≠ 12 → a ≠ 13 → ¬ (15 ≤ a ∧ a ≤ 25) → M' a = M a
def rX (M M' : Nat → Nat → Int32) : Prop := (∀ a, a ≠ 82 → a ≠ 86 → a ≠ 87 → M' a = M a) ∧ ∀ j, j < 7 ∨ 12 < j → M' 82 j = M 82 j
theorem rX_S {M M' : Nat → Nat → Int32} (h : rS M M') : rX M M' := ⟨fun a h1 _ _ => h.1 a h1, h.2⟩
theorem rX_t {M M1 M2 : Nat → Nat → Int32} (h : rX M M1) (h' : rX M1 M2) : rX M M2 := ⟨fun a h1 h2 h3 => (h'.1 a h1 h2 h3).trans (h.1 a h1 h2 h3), fun j hj => (h'.2 j hj).trans (h.2 j hj)⟩
theorem rX_u {M : Nat → Nat → Int32} {j : Nat} {x : Int32} : rX M (up M 86 j x) := ⟨fun a _ h2 _ => up_n _ _ _ h2, fun j _ => rfl⟩
theorem cX_S {M M' : Nat → Nat → Int32} (h : cS M M') : cX M M' := fun a h1 h2 _ => h a h1 h2
theorem cX_t {M M1 M2 : Nat → Nat → Int32} (h : cX M M1) (h' : cX M1 M2) : cX M M2 := fun a h1 h2 h3 => (h' a h1 h2 h3).trans (h a h1 h2 h3)
/-- what a line leaves behind: a place and a draft, or a fault and its place -/
def LOut : Type := (Nat × (Nat → Int32)) ⊕ (Int32 × Nat)
def lnC (M M' : Nat → Nat → Int32) (n : Nat) (b : Nat → Nat) (q : Nat) (td : Nat → Bool) (v : Int32) : LOut → Prop
  | .inl (q', d') => v = 1 ∧ TP M' n b ∧ M' 13 5 = nI q' ∧ q < q' ∧ q' ≤ n ∧ RG M' 15 d' ∧ dW d' ∧ tdC M' td ∧ M' 12 2 = M 12 2 ∧ (M' 15 0 = M 15 0 ∨ td 0 = true)
  | .inr (c, s) => v = 0 ∧ cF M' c s ∧ 0 < c
def lnM (M' : Nat → Nat → Int32) (n : Nat) (b : Nat → Nat) (td : Nat → Bool) : LOut → Prop
  | .inl (q', d') => TQ M' n b ∧ TK M' n b q' ∧ M' 86 = d' ∧ tdM M' td
  | .inr (c, s) => rF M' c s
theorem TK_u {M M' : Nat → Nat → Int32} {n q : Nat} {b : Nat → Nat} (h : TK M n b q) (e : M' 82 = M 82) : TK M' n b q := by
  unfold TK
  rw [e]
  exact h
theorem tB_3 {n q : Nat} {b : Nat → Nat} (hq : q ≤ n) (h : tK n b q = 3) : q < tB n b q := by
  obtain ⟨s1, s2, s3, s4⟩ := @tS_p n q b hq
  obtain ⟨b1, b2, b3, b4⟩ := @tB_p n q b hq
  have := b3 (by omega)
  omega
theorem tB_ge {n q : Nat} {b : Nat → Nat} (hq : q ≤ n) : q ≤ tB n b q ∧ tB n b q ≤ n := by
  obtain ⟨s1, s2, s3, s4⟩ := @tS_p n q b hq
  obtain ⟨b1, b2, b3, b4⟩ := @tB_p n q b hq
  omega
section S94
variable {X : am_X} {M : Nat → Nat → Int32}
theorem Lwidth {n q : Nat} {b : Nat → Nat} {d : Nat → Int32} {td : Nat → Bool} (ht : TP M n b) (h5 : M 13 5 = nI q) (hq : q ≤ n) (hR : RG M 15 d) (hd : dW d) (htd : tdC M td) (h0 : td 2 = false) :
    ∃ r v M', am_ev X kX6_takeWidth 0 [.ref 12] [] (hp M) = some (some (.int v), hp M') ∧ cX M M' ∧ lnC M M' n b q (tdS td 2) v r ∧
      ∀ Mr u, TQ Mr n b → TK Mr n b q → Mr 86 = d → tdM Mr (tdS td 2) → ∃ Mr1 Mr', am_ev X kX9_readLineOf 0 [.ref 82, .int 2] [] (hp Mr) = some (none, hp Mr1) ∧ am_ev X kX9_readLine 107 [.ref 82, .int u] [] (hp Mr1) = some (none, hp Mr') ∧ rX Mr Mr' ∧ lnM Mr' n b (tdS td 2) r := by
  have t0 : M 12 6 = 0 := by have := htd 2 (by decide); rw [h0] at this; exact this
  have htd' : ∀ K : Nat → Nat → Int32, K 12 = (up M 12 6 1) 12 → tdC K (tdS td 2) := fun K hK k hk => by
    rw [hK, up_s]
    unfold tdS
    by_cases hkk : k = 2
    · subst hkk; rw [decide_eq_true rfl, Bool.or_true, pk_us]; rfl
    · rw [decide_eq_false hkk, Bool.or_false, pk_un (by omega)]; exact htd k hk
  obtain ⟨g1, g2⟩ := @tB_ge n q b hq
  obtain ⟨g3, g4⟩ := @tB_ge n (tB n b q) b g2
  obtain ⟨K1, e1, c1, p1, k1, n1, s1⟩ := @C_takeNumber X (up M 12 6 1) n q b 0 999 ht h5 hq
  cases hO : nO n b q 0 999 with
  | some c =>
    rw [hO, if_neg (by simp)] at e1
    refine ⟨.inr (c, tS n b q), 0, K1, ?_, fun a i1 i2 i3 => by rw [c1 a i1 i2, up_n _ _ _ i1], ⟨rfl, s1 c hO, nO_p hO⟩, fun Mr u q1 q2 q3 q4 => ?_⟩
    · simp (disch := omega) only [iX6_takeWidth_0, iX6_takeWidth_1, iX6_takeWidth_4, iX6_takeWidth_7, iX6_takeWidth_8, iX6_takeWidth_9, iX6_takeWidth_12, iX6_takeWidth_13, iX6_takeWidth_14, iX6_takeWidth_15, iX6_takeWidth_18, iX6_takeWidth_19, iX6_takeWidth_20, iX6_takeWidth_23, iX6_takeWidth_26, iX6_takeWidth_29, iX6_takeWidth_30, iX6_takeWidth_31, iX6_takeWidth_32, iX6_takeWidth_35, iX6_takeWidth_36, iX6_takeWidth_39, iX6_takeWidth_42, iX6_takeWidth_45, iX6_takeWidth_46, iX6_takeWidth_49, true_or, or_true, Option.bind_some, Option.bind_none, kk_hp, kn_hp, el_i, el_b, el_z, am_cat_nil, am_cat_i, am_cat_r, am_cat_l, am_cat_n, gd_i, gd_r, gd_n, gd_u, List.length_cons, List.length_nil, true_and, and_true, ↓reduceIte, Nat.zero_le, Nat.reduceLeDiff, Nat.reduceAdd, e_10, e_01, e_00, e_11, Int32.reduceLE, Int32.reduceLT, Int32.reduceAdd, Int32.reduceSub, b01, if_true, if_false, ite_self, rc_12, gf_12_0, gf_12_1, gf_12_2, pf_12_2, gf_12_3, pf_12_3, gf_12_4, pf_12_4, gf_12_5, pf_12_5, gf_12_6, pf_12_6, gf_12_7, pf_12_7, rc_13, gf_13_0, gf_13_1, pf_13_1, gf_13_2, pf_13_2, gf_13_3, pf_13_3, gf_13_4, pf_13_4, gf_13_5, pf_13_5, t0, e1]
    · obtain ⟨R1, r1, r2, r3, r4⟩ := @M_readNumber X Mr n q b 0 999 q1 q2 hq
      rw [hO, if_neg (by simp)] at r1
      have hf := r4 c hO
      refine ⟨up R1 86 3 0, up R1 86 3 0, ?_, M_tailF (by show 0 < R1 82 11; rw [hf.1]; exact nO_p hO), rX_t (rX_S r2) rX_u, hf⟩
      simp (disch := omega) only [iX9_readLineOf_0, iX9_readLineOf_1, iX9_readLineOf_72, iX9_readLineOf_73, iX9_readLineOf_76, iX9_readLineOf_77, iX9_readLineOf_78, iX9_readLineOf_79, iX9_readLineOf_82, iX9_readLineOf_85, iX9_readLineOf_86, iX9_readLineOf_116, true_or, or_true, Option.bind_some, Option.bind_none, kk_hp, kn_hp, el_i, el_b, el_z, am_cat_nil, am_cat_i, am_cat_r, am_cat_l, am_cat_n, gd_i, gd_r, gd_n, gd_u, List.length_cons, List.length_nil, true_and, and_true, ↓reduceIte, Nat.zero_le, Nat.reduceLeDiff, Nat.reduceAdd, e_10, e_01, e_00, e_11, Int32.reduceLE, Int32.reduceLT, Int32.reduceAdd, Int32.reduceSub, b01, if_true, if_false, ite_self, rc_82, gf_82_0, gf_82_1, gf_82_2, gf_82_3, gf_82_4, gf_82_5, gf_82_6, pf_82_6, gf_82_7, pf_82_7, gf_82_8, pf_82_8, gf_82_9, pf_82_9, gf_82_10, pf_82_10, gf_82_11, pf_82_11, gf_82_12, pf_82_12, gf_82_13, gf_82_14, gf_82_15, gf_82_16, pf_82_16, gf_82_17, gf_82_18, gf_82_19, gf_82_20, gf_82_21, gf_82_22, gf_82_23, gf_82_24, gf_82_25, pf_82_25, ga_83, wi_83, ga_84, wi_84, ga_85, wb_85, ga_86, wi_86, ga_87, wb_87, ga_88, wi_88, ga_89, wi_89, ga_90, wi_90, ga_91, wi_91, ga_92, wi_92, ga_93, wi_93, ga_94, wi_94, ga_95, wi_95, ga_96, wb_96, ga_97, wi_97, ga_98, wi_98, ga_99, wi_99, nl_add, nl_add', nl_mul, nI_add, in_t, cl_n, le_nn, lt_nn, le_ln, le_nl, lt_nl, lt_ln, eq_nn, eq_nl, in_lit, cl_lit, Nat.le_refl, Nat.add_zero, eq_ll, Nat.reduceEqDiff, r1]
  | none =>
    rw [hO, if_pos rfl] at e1
    obtain ⟨hk2, hlo, hhi⟩ := nO_n hO
    have kv := k1.2.2.2 hk2
    obtain ⟨K2, e2, c2, p2, k2, n2, s2⟩ := @C_takeSemicolon X (up K1 15 5 (tV n b q)) n (tB n b q) b p1 k1.2.2.1 g2
    have hR1 : RG (up K1 15 5 (tV n b q)) 15 (upd d 3 (tV n b q)) := by
      have hRK : RG K1 15 d := RG_fa (fun k hk => by rw [c1 _ (by omega) (by omega), up_n _ _ _ (by omega)]) hR
      have r := hRK.1
      exact RG_sc hRK (fun k i1 i2 => up_n _ _ _ (by omega)) (fun j hj => pk_un (by omega)) (Nat.le_refl _) (Nat.le_refl _) ⟨r.1, r.2.1, r.2.2.1, rfl, r.2.2.2.2.1, r.2.2.2.2.2⟩ hd.1.2
    have hd1 : dW (upd d 3 (tV n b q)) := dW_ext hd (fun j hj => pk_un (by omega))
    cases hS : sO n b (tB n b q) with
    | some c =>
      rw [hS, if_neg (by simp)] at e2
      refine ⟨.inr (c, tS n b (tB n b q)), 0, K2, ?_, fun a i1 i2 i3 => by rw [c2 a i1 i2, up_n _ _ _ (by omega), c1 a i1 i2, up_n _ _ _ i1], ⟨rfl, s2 c hS, sO_p hS⟩, fun Mr u q1 q2 q3 q4 => ?_⟩
      · simp (disch := omega) only [iX6_takeWidth_0, iX6_takeWidth_1, iX6_takeWidth_4, iX6_takeWidth_7, iX6_takeWidth_8, iX6_takeWidth_9, iX6_takeWidth_12, iX6_takeWidth_13, iX6_takeWidth_14, iX6_takeWidth_15, iX6_takeWidth_18, iX6_takeWidth_19, iX6_takeWidth_20, iX6_takeWidth_23, iX6_takeWidth_26, iX6_takeWidth_29, iX6_takeWidth_30, iX6_takeWidth_31, iX6_takeWidth_32, iX6_takeWidth_35, iX6_takeWidth_36, iX6_takeWidth_39, iX6_takeWidth_42, iX6_takeWidth_45, iX6_takeWidth_46, iX6_takeWidth_49, true_or, or_true, Option.bind_some, Option.bind_none, kk_hp, kn_hp, el_i, el_b, el_z, am_cat_nil, am_cat_i, am_cat_r, am_cat_l, am_cat_n, gd_i, gd_r, gd_n, gd_u, List.length_cons, List.length_nil, true_and, and_true, ↓reduceIte, Nat.zero_le, Nat.reduceLeDiff, Nat.reduceAdd, e_10, e_01, e_00, e_11, Int32.reduceLE, Int32.reduceLT, Int32.reduceAdd, Int32.reduceSub, b01, if_true, if_false, ite_self, rc_12, gf_12_0, gf_12_1, gf_12_2, pf_12_2, gf_12_3, pf_12_3, gf_12_4, pf_12_4, gf_12_5, pf_12_5, gf_12_6, pf_12_6, gf_12_7, pf_12_7, rc_13, gf_13_0, gf_13_1, pf_13_1, gf_13_2, pf_13_2, gf_13_3, pf_13_3, gf_13_4, pf_13_4, gf_13_5, pf_13_5, rc_15, gf_15_0, pf_15_0, gf_15_1, gf_15_2, gf_15_3, pf_15_3, gf_15_4, pf_15_4, gf_15_5, pf_15_5, gf_15_6, pf_15_6, gf_15_7, pf_15_7, gf_15_8, gf_15_9, t0, e1, kv, e2]
      · obtain ⟨R1, r1, r2, r3, r4⟩ := @M_readNumber X Mr n q b 0 999 q1 q2 hq
        rw [hO, if_pos rfl] at r1
        obtain ⟨R2, w1, w2, w3, w4⟩ := @M_tail X (up R1 86 3 (tV n b q)) n (tB n b q) b u (TQ_fr (TQ_S q1 r2) rfl rfl) (TK_u (r3 hO) rfl) g2
        refine ⟨up R1 86 3 (tV n b q), R2, ?_, w1, rX_t (rX_t (rX_S r2) rX_u) (rX_S w2), w4 c hS⟩
        simp (disch := omega) only [iX9_readLineOf_0, iX9_readLineOf_1, iX9_readLineOf_72, iX9_readLineOf_73, iX9_readLineOf_76, iX9_readLineOf_77, iX9_readLineOf_78, iX9_readLineOf_79, iX9_readLineOf_82, iX9_readLineOf_85, iX9_readLineOf_86, iX9_readLineOf_116, true_or, or_true, Option.bind_some, Option.bind_none, kk_hp, kn_hp, el_i, el_b, el_z, am_cat_nil, am_cat_i, am_cat_r, am_cat_l, am_cat_n, gd_i, gd_r, gd_n, gd_u, List.length_cons, List.length_nil, true_and, and_true, ↓reduceIte, Nat.zero_le, Nat.reduceLeDiff, Nat.reduceAdd, e_10, e_01, e_00, e_11, Int32.reduceLE, Int32.reduceLT, Int32.reduceAdd, Int32.reduceSub, b01, if_true, if_false, ite_self, rc_82, gf_82_0, gf_82_1, gf_82_2, gf_82_3, gf_82_4, gf_82_5, gf_82_6, pf_82_6, gf_82_7, pf_82_7, gf_82_8, pf_82_8, gf_82_9, pf_82_9, gf_82_10, pf_82_10, gf_82_11, pf_82_11, gf_82_12, pf_82_12, gf_82_13, gf_82_14, gf_82_15, gf_82_16, pf_82_16, gf_82_17, gf_82_18, gf_82_19, gf_82_20, gf_82_21, gf_82_22, gf_82_23, gf_82_24, gf_82_25, pf_82_25, ga_83, wi_83, ga_84, wi_84, ga_85, wb_85, ga_86, wi_86, ga_87, wb_87, ga_88, wi_88, ga_89, wi_89, ga_90, wi_90, ga_91, wi_91, ga_92, wi_92, ga_93, wi_93, ga_94, wi_94, ga_95, wi_95, ga_96, wb_96, ga_97, wi_97, ga_98, wi_98, ga_99, wi_99, nl_add, nl_add', nl_mul, nI_add, in_t, cl_n, le_nn, lt_nn, le_ln, le_nl, lt_nl, lt_ln, eq_nn, eq_nl, in_lit, cl_lit, Nat.le_refl, Nat.add_zero, eq_ll, Nat.reduceEqDiff, r1]
    | none =>
      rw [hS, if_pos rfl] at e2
      have h3 := tB_3 g2 (sO_n hS)
      refine ⟨.inl (tB n b (tB n b q), upd d 3 (tV n b q)), 1, K2, ?_, fun a i1 i2 i3 => by rw [c2 a i1 i2, up_n _ _ _ (by omega), c1 a i1 i2, up_n _ _ _ i1], ⟨rfl, p2, k2.2.2.1, by omega, g4, RG_fa (fun k hk => c2 _ (by omega) (by omega)) hR1, hd1, htd' K2 ((n2 hS).trans (n1 hO)), by rw [n2 hS]; show K1 12 2 = _; rw [n1 hO]; rfl, Or.inl (by rw [c2 15 (by decide) (by decide), up_s, pk_un (by decide), c1 15 (by decide) (by decide)]; rfl)⟩, fun Mr u q1 q2 q3 q4 => ?_⟩
      · simp (disch := omega) only [iX6_takeWidth_0, iX6_takeWidth_1, iX6_takeWidth_4, iX6_takeWidth_7, iX6_takeWidth_8, iX6_takeWidth_9, iX6_takeWidth_12, iX6_takeWidth_13, iX6_takeWidth_14, iX6_takeWidth_15, iX6_takeWidth_18, iX6_takeWidth_19, iX6_takeWidth_20, iX6_takeWidth_23, iX6_takeWidth_26, iX6_takeWidth_29, iX6_takeWidth_30, iX6_takeWidth_31, iX6_takeWidth_32, iX6_takeWidth_35, iX6_takeWidth_36, iX6_takeWidth_39, iX6_takeWidth_42, iX6_takeWidth_45, iX6_takeWidth_46, iX6_takeWidth_49, true_or, or_true, Option.bind_some, Option.bind_none, kk_hp, kn_hp, el_i, el_b, el_z, am_cat_nil, am_cat_i, am_cat_r, am_cat_l, am_cat_n, gd_i, gd_r, gd_n, gd_u, List.length_cons, List.length_nil, true_and, and_true, ↓reduceIte, Nat.zero_le, Nat.reduceLeDiff, Nat.reduceAdd, e_10, e_01, e_00, e_11, Int32.reduceLE, Int32.reduceLT, Int32.reduceAdd, Int32.reduceSub, b01, if_true, if_false, ite_self, rc_12, gf_12_0, gf_12_1, gf_12_2, pf_12_2, gf_12_3, pf_12_3, gf_12_4, pf_12_4, gf_12_5, pf_12_5, gf_12_6, pf_12_6, gf_12_7, pf_12_7, rc_13, gf_13_0, gf_13_1, pf_13_1, gf_13_2, pf_13_2, gf_13_3, pf_13_3, gf_13_4, pf_13_4, gf_13_5, pf_13_5, rc_15, gf_15_0, pf_15_0, gf_15_1, gf_15_2, gf_15_3, pf_15_3, gf_15_4, pf_15_4, gf_15_5, pf_15_5, gf_15_6, pf_15_6, gf_15_7, pf_15_7, gf_15_8, gf_15_9, t0, e1, kv, e2]
      · obtain ⟨R1, r1, r2, r3, r4⟩ := @M_readNumber X Mr n q b 0 999 q1 q2 hq
        rw [hO, if_pos rfl] at r1
        obtain ⟨R2, w1, w2, w3, w4⟩ := @M_tail X (up R1 86 3 (tV n b q)) n (tB n b q) b u (TQ_fr (TQ_S q1 r2) rfl rfl) (TK_u (r3 hO) rfl) g2
        refine ⟨up R1 86 3 (tV n b q), R2, ?_, w1, rX_t (rX_t (rX_S r2) rX_u) (rX_S w2), TQ_S (M := up R1 86 _ (tV n b q)) (TQ_fr (TQ_S q1 r2) rfl rfl) w2, w3 hS, ?_, fun k hk => ?_⟩
        · simp (disch := omega) only [iX9_readLineOf_0, iX9_readLineOf_1, iX9_readLineOf_72, iX9_readLineOf_73, iX9_readLineOf_76, iX9_readLineOf_77, iX9_readLineOf_78, iX9_readLineOf_79, iX9_readLineOf_82, iX9_readLineOf_85, iX9_readLineOf_86, iX9_readLineOf_116, true_or, or_true, Option.bind_some, Option.bind_none, kk_hp, kn_hp, el_i, el_b, el_z, am_cat_nil, am_cat_i, am_cat_r, am_cat_l, am_cat_n, gd_i, gd_r, gd_n, gd_u, List.length_cons, List.length_nil, true_and, and_true, ↓reduceIte, Nat.zero_le, Nat.reduceLeDiff, Nat.reduceAdd, e_10, e_01, e_00, e_11, Int32.reduceLE, Int32.reduceLT, Int32.reduceAdd, Int32.reduceSub, b01, if_true, if_false, ite_self, rc_82, gf_82_0, gf_82_1, gf_82_2, gf_82_3, gf_82_4, gf_82_5, gf_82_6, pf_82_6, gf_82_7, pf_82_7, gf_82_8, pf_82_8, gf_82_9, pf_82_9, gf_82_10, pf_82_10, gf_82_11, pf_82_11, gf_82_12, pf_82_12, gf_82_13, gf_82_14, gf_82_15, gf_82_16, pf_82_16, gf_82_17, gf_82_18, gf_82_19, gf_82_20, gf_82_21, gf_82_22, gf_82_23, gf_82_24, gf_82_25, pf_82_25, ga_83, wi_83, ga_84, wi_84, ga_85, wb_85, ga_86, wi_86, ga_87, wb_87, ga_88, wi_88, ga_89, wi_89, ga_90, wi_90, ga_91, wi_91, ga_92, wi_92, ga_93, wi_93, ga_94, wi_94, ga_95, wi_95, ga_96, wb_96, ga_97, wi_97, ga_98, wi_98, ga_99, wi_99, nl_add, nl_add', nl_mul, nI_add, in_t, cl_n, le_nn, lt_nn, le_ln, le_nl, lt_nl, lt_ln, eq_nn, eq_nl, in_lit, cl_lit, Nat.le_refl, Nat.add_zero, eq_ll, Nat.reduceEqDiff, r1]
        · rw [w2.1 86 (by decide), up_s, r2.1 86 (by decide), q3]
        · rw [w2.1 87 (by decide)]
          show R1 87 k = _
          rw [r2.1 87 (by decide)]; exact q4 k hk
theorem Lhigh {n q : Nat} {b : Nat → Nat} {d : Nat → Int32} {td : Nat → Bool} (ht : TP M n b) (h5 : M 13 5 = nI q) (hq : q ≤ n) (hR : RG M 15 d) (hd : dW d) (htd : tdC M td) (h0 : td 3 = false) :
    ∃ r v M', am_ev X kX6_takeHigh 0 [.ref 12] [] (hp M) = some (some (.int v), hp M') ∧ cX M M' ∧ lnC M M' n b q (tdS td 3) v r ∧
      ∀ Mr u, TQ Mr n b → TK Mr n b q → Mr 86 = d → tdM Mr (tdS td 3) → ∃ Mr1 Mr', am_ev X kX9_readLineOf 0 [.ref 82, .int 3] [] (hp Mr) = some (none, hp Mr1) ∧ am_ev X kX9_readLine 107 [.ref 82, .int u] [] (hp Mr1) = some (none, hp Mr') ∧ rX Mr Mr' ∧ lnM Mr' n b (tdS td 3) r := by
  have t0 : M 12 7 = 0 := by have := htd 3 (by decide); rw [h0] at this; exact this
  have htd' : ∀ K : Nat → Nat → Int32, K 12 = (up M 12 7 1) 12 → tdC K (tdS td 3) := fun K hK k hk => by
    rw [hK, up_s]
    unfold tdS
    by_cases hkk : k = 3
    · subst hkk; rw [decide_eq_true rfl, Bool.or_true, pk_us]; rfl
    · rw [decide_eq_false hkk, Bool.or_false, pk_un (by omega)]; exact htd k hk
  obtain ⟨g1, g2⟩ := @tB_ge n q b hq
  obtain ⟨g3, g4⟩ := @tB_ge n (tB n b q) b g2
  obtain ⟨K1, e1, c1, p1, k1, n1, s1⟩ := @C_takeNumber X (up M 12 7 1) n q b 0 99 ht h5 hq
  cases hO : nO n b q 0 99 with
  | some c =>
    rw [hO, if_neg (by simp)] at e1
    refine ⟨.inr (c, tS n b q), 0, K1, ?_, fun a i1 i2 i3 => by rw [c1 a i1 i2, up_n _ _ _ i1], ⟨rfl, s1 c hO, nO_p hO⟩, fun Mr u q1 q2 q3 q4 => ?_⟩
    · simp (disch := omega) only [iX6_takeHigh_0, iX6_takeHigh_1, iX6_takeHigh_4, iX6_takeHigh_7, iX6_takeHigh_8, iX6_takeHigh_9, iX6_takeHigh_12, iX6_takeHigh_13, iX6_takeHigh_14, iX6_takeHigh_15, iX6_takeHigh_18, iX6_takeHigh_19, iX6_takeHigh_20, iX6_takeHigh_22, iX6_takeHigh_25, iX6_takeHigh_28, iX6_takeHigh_29, iX6_takeHigh_30, iX6_takeHigh_31, iX6_takeHigh_34, iX6_takeHigh_35, iX6_takeHigh_38, iX6_takeHigh_41, iX6_takeHigh_44, iX6_takeHigh_45, iX6_takeHigh_48, true_or, or_true, Option.bind_some, Option.bind_none, kk_hp, kn_hp, el_i, el_b, el_z, am_cat_nil, am_cat_i, am_cat_r, am_cat_l, am_cat_n, gd_i, gd_r, gd_n, gd_u, List.length_cons, List.length_nil, true_and, and_true, ↓reduceIte, Nat.zero_le, Nat.reduceLeDiff, Nat.reduceAdd, e_10, e_01, e_00, e_11, Int32.reduceLE, Int32.reduceLT, Int32.reduceAdd, Int32.reduceSub, b01, if_true, if_false, ite_self, rc_12, gf_12_0, gf_12_1, gf_12_2, pf_12_2, gf_12_3, pf_12_3, gf_12_4, pf_12_4, gf_12_5, pf_12_5, gf_12_6, pf_12_6, gf_12_7, pf_12_7, rc_13, gf_13_0, gf_13_1, pf_13_1, gf_13_2, pf_13_2, gf_13_3, pf_13_3, gf_13_4, pf_13_4, gf_13_5, pf_13_5, t0, e1]
    · obtain ⟨R1, r1, r2, r3, r4⟩ := @M_readNumber X Mr n q b 0 99 q1 q2 hq
      rw [hO, if_neg (by simp)] at r1
      have hf := r4 c hO
      refine ⟨up R1 86 4 0, up R1 86 4 0, ?_, M_tailF (by show 0 < R1 82 11; rw [hf.1]; exact nO_p hO), rX_t (rX_S r2) rX_u, hf⟩
      simp (disch := omega) only [iX9_readLineOf_0, iX9_readLineOf_1, iX9_readLineOf_89, iX9_readLineOf_90, iX9_readLineOf_93, iX9_readLineOf_94, iX9_readLineOf_95, iX9_readLineOf_96, iX9_readLineOf_98, iX9_readLineOf_101, iX9_readLineOf_102, iX9_readLineOf_116, true_or, or_true, Option.bind_some, Option.bind_none, kk_hp, kn_hp, el_i, el_b, el_z, am_cat_nil, am_cat_i, am_cat_r, am_cat_l, am_cat_n, gd_i, gd_r, gd_n, gd_u, List.length_cons, List.length_nil, true_and, and_true, ↓reduceIte, Nat.zero_le, Nat.reduceLeDiff, Nat.reduceAdd, e_10, e_01, e_00, e_11, Int32.reduceLE, Int32.reduceLT, Int32.reduceAdd, Int32.reduceSub, b01, if_true, if_false, ite_self, rc_82, gf_82_0, gf_82_1, gf_82_2, gf_82_3, gf_82_4, gf_82_5, gf_82_6, pf_82_6, gf_82_7, pf_82_7, gf_82_8, pf_82_8, gf_82_9, pf_82_9, gf_82_10, pf_82_10, gf_82_11, pf_82_11, gf_82_12, pf_82_12, gf_82_13, gf_82_14, gf_82_15, gf_82_16, pf_82_16, gf_82_17, gf_82_18, gf_82_19, gf_82_20, gf_82_21, gf_82_22, gf_82_23, gf_82_24, gf_82_25, pf_82_25, ga_83, wi_83, ga_84, wi_84, ga_85, wb_85, ga_86, wi_86, ga_87, wb_87, ga_88, wi_88, ga_89, wi_89, ga_90, wi_90, ga_91, wi_91, ga_92, wi_92, ga_93, wi_93, ga_94, wi_94, ga_95, wi_95, ga_96, wb_96, ga_97, wi_97, ga_98, wi_98, ga_99, wi_99, nl_add, nl_add', nl_mul, nI_add, in_t, cl_n, le_nn, lt_nn, le_ln, le_nl, lt_nl, lt_ln, eq_nn, eq_nl, in_lit, cl_lit, Nat.le_refl, Nat.add_zero, eq_ll, Nat.reduceEqDiff, r1]
  | none =>
    rw [hO, if_pos rfl] at e1
    obtain ⟨hk2, hlo, hhi⟩ := nO_n hO
    have kv := k1.2.2.2 hk2
    obtain ⟨K2, e2, c2, p2, k2, n2, s2⟩ := @C_takeSemicolon X (up K1 15 6 (tV n b q)) n (tB n b q) b p1 k1.2.2.1 g2
    have hR1 : RG (up K1 15 6 (tV n b q)) 15 (upd d 4 (tV n b q)) := by
      have hRK : RG K1 15 d := RG_fa (fun k hk => by rw [c1 _ (by omega) (by omega), up_n _ _ _ (by omega)]) hR
      have r := hRK.1
      exact RG_sc hRK (fun k i1 i2 => up_n _ _ _ (by omega)) (fun j hj => pk_un (by omega)) (Nat.le_refl _) (Nat.le_refl _) ⟨r.1, r.2.1, r.2.2.1, r.2.2.2.1, rfl, r.2.2.2.2.2⟩ hd.1.2
    have hd1 : dW (upd d 4 (tV n b q)) := dW_ext hd (fun j hj => pk_un (by omega))
    cases hS : sO n b (tB n b q) with
    | some c =>
      rw [hS, if_neg (by simp)] at e2
      refine ⟨.inr (c, tS n b (tB n b q)), 0, K2, ?_, fun a i1 i2 i3 => by rw [c2 a i1 i2, up_n _ _ _ (by omega), c1 a i1 i2, up_n _ _ _ i1], ⟨rfl, s2 c hS, sO_p hS⟩, fun Mr u q1 q2 q3 q4 => ?_⟩
      · simp (disch := omega) only [iX6_takeHigh_0, iX6_takeHigh_1, iX6_takeHigh_4, iX6_takeHigh_7, iX6_takeHigh_8, iX6_takeHigh_9, iX6_takeHigh_12, iX6_takeHigh_13, iX6_takeHigh_14, iX6_takeHigh_15, iX6_takeHigh_18, iX6_takeHigh_19, iX6_takeHigh_20, iX6_takeHigh_22, iX6_takeHigh_25, iX6_takeHigh_28, iX6_takeHigh_29, iX6_takeHigh_30, iX6_takeHigh_31, iX6_takeHigh_34, iX6_takeHigh_35, iX6_takeHigh_38, iX6_takeHigh_41, iX6_takeHigh_44, iX6_takeHigh_45, iX6_takeHigh_48, true_or, or_true, Option.bind_some, Option.bind_none, kk_hp, kn_hp, el_i, el_b, el_z, am_cat_nil, am_cat_i, am_cat_r, am_cat_l, am_cat_n, gd_i, gd_r, gd_n, gd_u, List.length_cons, List.length_nil, true_and, and_true, ↓reduceIte, Nat.zero_le, Nat.reduceLeDiff, Nat.reduceAdd, e_10, e_01, e_00, e_11, Int32.reduceLE, Int32.reduceLT, Int32.reduceAdd, Int32.reduceSub, b01, if_true, if_false, ite_self, rc_12, gf_12_0, gf_12_1, gf_12_2, pf_12_2, gf_12_3, pf_12_3, gf_12_4, pf_12_4, gf_12_5, pf_12_5, gf_12_6, pf_12_6, gf_12_7, pf_12_7, rc_13, gf_13_0, gf_13_1, pf_13_1, gf_13_2, pf_13_2, gf_13_3, pf_13_3, gf_13_4, pf_13_4, gf_13_5, pf_13_5, rc_15, gf_15_0, pf_15_0, gf_15_1, gf_15_2, gf_15_3, pf_15_3, gf_15_4, pf_15_4, gf_15_5, pf_15_5, gf_15_6, pf_15_6, gf_15_7, pf_15_7, gf_15_8, gf_15_9, t0, e1, kv, e2]
      · obtain ⟨R1, r1, r2, r3, r4⟩ := @M_readNumber X Mr n q b 0 99 q1 q2 hq
        rw [hO, if_pos rfl] at r1
        obtain ⟨R2, w1, w2, w3, w4⟩ := @M_tail X (up R1 86 4 (tV n b q)) n (tB n b q) b u (TQ_fr (TQ_S q1 r2) rfl rfl) (TK_u (r3 hO) rfl) g2
        refine ⟨up R1 86 4 (tV n b q), R2, ?_, w1, rX_t (rX_t (rX_S r2) rX_u) (rX_S w2), w4 c hS⟩
        simp (disch := omega) only [iX9_readLineOf_0, iX9_readLineOf_1, iX9_readLineOf_89, iX9_readLineOf_90, iX9_readLineOf_93, iX9_readLineOf_94, iX9_readLineOf_95, iX9_readLineOf_96, iX9_readLineOf_98, iX9_readLineOf_101, iX9_readLineOf_102, iX9_readLineOf_116, true_or, or_true, Option.bind_some, Option.bind_none, kk_hp, kn_hp, el_i, el_b, el_z, am_cat_nil, am_cat_i, am_cat_r, am_cat_l, am_cat_n, gd_i, gd_r, gd_n, gd_u, List.length_cons, List.length_nil, true_and, and_true, ↓reduceIte, Nat.zero_le, Nat.reduceLeDiff, Nat.reduceAdd, e_10, e_01, e_00, e_11, Int32.reduceLE, Int32.reduceLT, Int32.reduceAdd, Int32.reduceSub, b01, if_true, if_false, ite_self, rc_82, gf_82_0, gf_82_1, gf_82_2, gf_82_3, gf_82_4, gf_82_5, gf_82_6, pf_82_6, gf_82_7, pf_82_7, gf_82_8, pf_82_8, gf_82_9, pf_82_9, gf_82_10, pf_82_10, gf_82_11, pf_82_11, gf_82_12, pf_82_12, gf_82_13, gf_82_14, gf_82_15, gf_82_16, pf_82_16, gf_82_17, gf_82_18, gf_82_19, gf_82_20, gf_82_21, gf_82_22, gf_82_23, gf_82_24, gf_82_25, pf_82_25, ga_83, wi_83, ga_84, wi_84, ga_85, wb_85, ga_86, wi_86, ga_87, wb_87, ga_88, wi_88, ga_89, wi_89, ga_90, wi_90, ga_91, wi_91, ga_92, wi_92, ga_93, wi_93, ga_94, wi_94, ga_95, wi_95, ga_96, wb_96, ga_97, wi_97, ga_98, wi_98, ga_99, wi_99, nl_add, nl_add', nl_mul, nI_add, in_t, cl_n, le_nn, lt_nn, le_ln, le_nl, lt_nl, lt_ln, eq_nn, eq_nl, in_lit, cl_lit, Nat.le_refl, Nat.add_zero, eq_ll, Nat.reduceEqDiff, r1]
    | none =>
      rw [hS, if_pos rfl] at e2
      have h3 := tB_3 g2 (sO_n hS)
      refine ⟨.inl (tB n b (tB n b q), upd d 4 (tV n b q)), 1, K2, ?_, fun a i1 i2 i3 => by rw [c2 a i1 i2, up_n _ _ _ (by omega), c1 a i1 i2, up_n _ _ _ i1], ⟨rfl, p2, k2.2.2.1, by omega, g4, RG_fa (fun k hk => c2 _ (by omega) (by omega)) hR1, hd1, htd' K2 ((n2 hS).trans (n1 hO)), by rw [n2 hS]; show K1 12 2 = _; rw [n1 hO]; rfl, Or.inl (by rw [c2 15 (by decide) (by decide), up_s, pk_un (by decide), c1 15 (by decide) (by decide)]; rfl)⟩, fun Mr u q1 q2 q3 q4 => ?_⟩
      · simp (disch := omega) only [iX6_takeHigh_0, iX6_takeHigh_1, iX6_takeHigh_4, iX6_takeHigh_7, iX6_takeHigh_8, iX6_takeHigh_9, iX6_takeHigh_12, iX6_takeHigh_13, iX6_takeHigh_14, iX6_takeHigh_15, iX6_takeHigh_18, iX6_takeHigh_19, iX6_takeHigh_20, iX6_takeHigh_22, iX6_takeHigh_25, iX6_takeHigh_28, iX6_takeHigh_29, iX6_takeHigh_30, iX6_takeHigh_31, iX6_takeHigh_34, iX6_takeHigh_35, iX6_takeHigh_38, iX6_takeHigh_41, iX6_takeHigh_44, iX6_takeHigh_45, iX6_takeHigh_48, true_or, or_true, Option.bind_some, Option.bind_none, kk_hp, kn_hp, el_i, el_b, el_z, am_cat_nil, am_cat_i, am_cat_r, am_cat_l, am_cat_n, gd_i, gd_r, gd_n, gd_u, List.length_cons, List.length_nil, true_and, and_true, ↓reduceIte, Nat.zero_le, Nat.reduceLeDiff, Nat.reduceAdd, e_10, e_01, e_00, e_11, Int32.reduceLE, Int32.reduceLT, Int32.reduceAdd, Int32.reduceSub, b01, if_true, if_false, ite_self, rc_12, gf_12_0, gf_12_1, gf_12_2, pf_12_2, gf_12_3, pf_12_3, gf_12_4, pf_12_4, gf_12_5, pf_12_5, gf_12_6, pf_12_6, gf_12_7, pf_12_7, rc_13, gf_13_0, gf_13_1, pf_13_1, gf_13_2, pf_13_2, gf_13_3, pf_13_3, gf_13_4, pf_13_4, gf_13_5, pf_13_5, rc_15, gf_15_0, pf_15_0, gf_15_1, gf_15_2, gf_15_3, pf_15_3, gf_15_4, pf_15_4, gf_15_5, pf_15_5, gf_15_6, pf_15_6, gf_15_7, pf_15_7, gf_15_8, gf_15_9, t0, e1, kv, e2]
      · obtain ⟨R1, r1, r2, r3, r4⟩ := @M_readNumber X Mr n q b 0 99 q1 q2 hq
        rw [hO, if_pos rfl] at r1
        obtain ⟨R2, w1, w2, w3, w4⟩ := @M_tail X (up R1 86 4 (tV n b q)) n (tB n b q) b u (TQ_fr (TQ_S q1 r2) rfl rfl) (TK_u (r3 hO) rfl) g2
        refine ⟨up R1 86 4 (tV n b q), R2, ?_, w1, rX_t (rX_t (rX_S r2) rX_u) (rX_S w2), TQ_S (M := up R1 86 _ (tV n b q)) (TQ_fr (TQ_S q1 r2) rfl rfl) w2, w3 hS, ?_, fun k hk => ?_⟩
        · simp (disch := omega) only [iX9_readLineOf_0, iX9_readLineOf_1, iX9_readLineOf_89, iX9_readLineOf_90, iX9_readLineOf_93, iX9_readLineOf_94, iX9_readLineOf_95, iX9_readLineOf_96, iX9_readLineOf_98, iX9_readLineOf_101, iX9_readLineOf_102, iX9_readLineOf_116, true_or, or_true, Option.bind_some, Option.bind_none, kk_hp, kn_hp, el_i, el_b, el_z, am_cat_nil, am_cat_i, am_cat_r, am_cat_l, am_cat_n, gd_i, gd_r, gd_n, gd_u, List.length_cons, List.length_nil, true_and, and_true, ↓reduceIte, Nat.zero_le, Nat.reduceLeDiff, Nat.reduceAdd, e_10, e_01, e_00, e_11, Int32.reduceLE, Int32.reduceLT, Int32.reduceAdd, Int32.reduceSub, b01, if_true, if_false, ite_self, rc_82, gf_82_0, gf_82_1, gf_82_2, gf_82_3, gf_82_4, gf_82_5, gf_82_6, pf_82_6, gf_82_7, pf_82_7, gf_82_8, pf_82_8, gf_82_9, pf_82_9, gf_82_10, pf_82_10, gf_82_11, pf_82_11, gf_82_12, pf_82_12, gf_82_13, gf_82_14, gf_82_15, gf_82_16, pf_82_16, gf_82_17, gf_82_18, gf_82_19, gf_82_20, gf_82_21, gf_82_22, gf_82_23, gf_82_24, gf_82_25, pf_82_25, ga_83, wi_83, ga_84, wi_84, ga_85, wb_85, ga_86, wi_86, ga_87, wb_87, ga_88, wi_88, ga_89, wi_89, ga_90, wi_90, ga_91, wi_91, ga_92, wi_92, ga_93, wi_93, ga_94, wi_94, ga_95, wi_95, ga_96, wb_96, ga_97, wi_97, ga_98, wi_98, ga_99, wi_99, nl_add, nl_add', nl_mul, nI_add, in_t, cl_n, le_nn, lt_nn, le_ln, le_nl, lt_nl, lt_ln, eq_nn, eq_nl, in_lit, cl_lit, Nat.le_refl, Nat.add_zero, eq_ll, Nat.reduceEqDiff, r1]
        · rw [w2.1 86 (by decide), up_s, r2.1 86 (by decide), q3]
        · rw [w2.1 87 (by decide)]
          show R1 87 k = _
          rw [r2.1 87 (by decide)]; exact q4 k hk
end S94
