/-! read, ii -/
theorem P64 {f : Int32} {i : Nat} (hi : i < 10) : (f.toInt64 + (nI (4 * i)).toInt64).toInt = f.toInt + 4 * i ∧ (∀ e, e < 5 → (f.toInt64 + (nI (4 * i)).toInt64 + (nI e).toInt64).toInt = f.toInt + 4 * i + e) ∧ (4 : Int64) * (nI i).toInt64 = (nI (4 * i)).toInt64 := by
  have b := i64 f
  have e1 : (f.toInt64 + (nI (4 * i)).toInt64).toInt = f.toInt + 4 * i := by
    rw [l64 (by omega) (by omega) (by rw [n64 (by omega)]; omega) (by rw [n64 (by omega)]; omega), n64 (by omega), b.2.2]
    omega
  refine ⟨e1, fun e he => ?_, ?_⟩
  · rw [l64 (by omega) (by omega) (by rw [n64 (by omega)]; omega) (by rw [n64 (by omega)]; omega), e1, n64 (by omega)]
  · have : ∀ i, i < 10 → (4 : Int64) * (nI i).toInt64 = (nI (4 * i)).toInt64 := by decide +kernel
    exact this i hi
def rcC (len la lane : Int32) (p : Int64) : Int32 := if len = -4 then 1 else if la = lane then (if p < 0 ∨ len.toInt64 < p + (4 : Int32).toInt64 then 2 else 0) else 3
/-- the sheet q of both -/
def shq (M : Nat → Nat → Int32) (q : Nat) : Prop := (M 97 q = -4 ∧ M (52 + 2 * q) 2 = -4) ∨
  (∃ l, l < 3 ∧ M 97 q = nI l ∧ M (52 + 2 * q) 1 = nI l) ∧ (∃ n, n ≤ 40 ∧ M 98 q = nI n ∧ M (52 + 2 * q) 2 = nI n) ∧ ∀ i, i < 40 → M (53 + 2 * q) i = M 99 (40 * q + i)
theorem rcs_0 {M : Nat → Nat → Int32} {q i : Nat} {lane f : Int32} (hs : shq M q) (hi : i < 10) (h : rcC (M (52 + 2 * q) 2) (M (52 + 2 * q) 1) lane (f.toInt64 + (nI (4 * i)).toInt64) = 0) :
    (∀ e, e < 4 → rcs (M 97 q) lane (M 98 q) (f.toInt64 + (nI (4 * i)).toInt64 + (nI e).toInt64) = 0) ∧ ∃ a : Nat, a + 4 ≤ 40 ∧ f.toInt + 4 * i = (a : Int) ∧ ∀ i, i < 40 → M (53 + 2 * q) i = M 99 (40 * q + i) := by
  obtain ⟨p0, p1, p2⟩ := @P64 f i hi
  unfold rcC at h
  rcases hs with ⟨z1, z2⟩ | ⟨⟨l, hl, l1, l2⟩, ⟨n, hn, n1, n2⟩, hc⟩
  · rw [if_pos z2] at h; exact absurd h (by decide)
  · rw [n2, if_neg (nI_ne (by omega)), l2] at h
    by_cases hq : nI l = lane
    · rw [if_pos hq] at h
      by_cases hb : f.toInt64 + (nI (4 * i)).toInt64 < 0 ∨ (nI n).toInt64 < f.toInt64 + (nI (4 * i)).toInt64 + (4 : Int32).toInt64
      · rw [if_pos hb] at h; exact absurd h (by decide)
      · have h4 := p1 4 (by decide)
        rw [show nI 4 = (4 : Int32) from rfl] at h4
        rw [Int64.lt_iff_toInt_lt, Int64.lt_iff_toInt_lt, h4, p0, n64 (by omega)] at hb
        have e0 : (0 : Int64).toInt = 0 := by decide
        rw [e0] at hb
        refine ⟨fun e he => ?_, (f.toInt + 4 * i).toNat, by omega, by omega, hc⟩
        unfold rcs
        rw [l1, if_neg (nI_ne (by omega)), if_pos hq, if_neg]
        rw [Int64.lt_iff_toInt_lt, Int64.lt_iff_toInt_lt, p1 e (by omega), n1, n64 (by omega), e0]
        omega
    · rw [if_neg hq] at h; exact absurd h (by decide)
theorem rcs_r {M : Nat → Nat → Int32} {q i : Nat} {lane f : Int32} (hs : shq M q) (hi : i < 10) (h : rcC (M (52 + 2 * q) 2) (M (52 + 2 * q) 1) lane (f.toInt64 + (nI (4 * i)).toInt64) ≠ 0) :
    (∀ e, e < 4 → rcs (M 97 q) lane (M 98 q) (f.toInt64 + (nI (4 * i)).toInt64 + (nI e).toInt64) = 0 ∨ rcs (M 97 q) lane (M 98 q) (f.toInt64 + (nI (4 * i)).toInt64 + (nI e).toInt64) = rcC (M (52 + 2 * q) 2) (M (52 + 2 * q) 1) lane (f.toInt64 + (nI (4 * i)).toInt64)) ∧
    ∃ e, e < 4 ∧ rcs (M 97 q) lane (M 98 q) (f.toInt64 + (nI (4 * i)).toInt64 + (nI e).toInt64) = rcC (M (52 + 2 * q) 2) (M (52 + 2 * q) 1) lane (f.toInt64 + (nI (4 * i)).toInt64) := by
  obtain ⟨p0, p1, p2⟩ := @P64 f i hi
  unfold rcC at h ⊢
  rcases hs with ⟨z1, z2⟩ | ⟨⟨l, hl, l1, l2⟩, ⟨n, hn, n1, n2⟩, hc⟩
  · rw [if_pos z2] at h ⊢
    have : ∀ e, rcs (M 97 q) lane (M 98 q) (f.toInt64 + (nI (4 * i)).toInt64 + (nI e).toInt64) = 1 := fun e => by unfold rcs; rw [if_pos z1]
    exact ⟨fun e _ => Or.inr (this e), 0, by decide, this 0⟩
  · rw [n2, if_neg (nI_ne (by omega)), l2] at h ⊢
    by_cases hq : nI l = lane
    · rw [if_pos hq] at h ⊢
      by_cases hb : f.toInt64 + (nI (4 * i)).toInt64 < 0 ∨ (nI n).toInt64 < f.toInt64 + (nI (4 * i)).toInt64 + (4 : Int32).toInt64
      · rw [if_pos hb] at h ⊢
        have h4 := p1 4 (by decide)
        rw [show nI 4 = (4 : Int32) from rfl] at h4
        rw [Int64.lt_iff_toInt_lt, Int64.lt_iff_toInt_lt, h4, p0, n64 (by omega)] at hb
        have e0 : (0 : Int64).toInt = 0 := by decide
        rw [e0] at hb
        refine ⟨fun e he => ?_, ?_⟩
        · unfold rcs
          rw [l1, if_neg (nI_ne (by omega)), if_pos hq]
          split
          · exact Or.inr rfl
          · exact Or.inl rfl
        · by_cases hneg : f.toInt + 4 * i < 0
          · refine ⟨0, by decide, ?_⟩
            unfold rcs
            rw [l1, if_neg (nI_ne (by omega)), if_pos hq, if_pos]
            left
            rw [Int64.lt_iff_toInt_lt, p1 0 (by omega), e0]
            omega
          · refine ⟨3, by decide, ?_⟩
            unfold rcs
            rw [l1, if_neg (nI_ne (by omega)), if_pos hq, if_pos]
            right
            rw [Int64.lt_iff_toInt_lt, p1 3 (by omega), n1, n64 (by omega)]
            omega
      · rw [if_neg hb] at h; exact absurd rfl h
    · rw [if_neg hq] at h ⊢
      have : ∀ e, rcs (M 97 q) lane (M 98 q) (f.toInt64 + (nI (4 * i)).toInt64 + (nI e).toInt64) = 3 := fun e => by unfold rcs; rw [l1, if_neg (nI_ne (by omega)), if_neg hq]
      exact ⟨fun e _ => Or.inr (this e), 0, by decide, this 0⟩
theorem f_a {f : Int32} {i a : Nat} (hi : i < 10) (ha : a ≤ 40) (h : f.toInt + 4 * i = (a : Int)) : f + nI (4 * i) = nI a ∧ (f.toInt64 + (nI (4 * i)).toInt64).toInt32 = nI a := by
  constructor
  · apply Int32.toInt_inj.mp
    rw [Int32.toInt_add, nI_toInt (by omega), nI_toInt (by omega)]
    rw [show f.toInt + ((4 * i : Nat) : Int) = (a : Int) by omega]
    apply Int.bmod_eq_of_le <;> omega
  · apply Int32.toInt_inj.mp
    rw [Int64.toInt_toInt32, (@P64 f i hi).1, h, nI_toInt (by omega)]
    apply Int.bmod_eq_of_le <;> omega
section S87
variable {X : am_X} {M : Nat → Nat → Int32}
theorem C_takeItem {g a : Nat} {s : Nat → Int32} (hg : isH g) (ha : a + 4 ≤ 40) (hR : RG M 1 s) (hwf : wf s) :
    (okA s (M (g + 1) a) (M (g + 1) (a + 1)) (M (g + 1) (a + 2)) (M (g + 1) (a + 3)) → ∃ M1, am_ev X kX8_takeItem 0 [.ref 0, .ref g, .int (nI a)] [] (hp M) = some (some (.int 1), hp M1) ∧ (∀ x, ¬ (x ≤ 11) → M1 x = M x) ∧ M1 0 8 = 1 ∧ M1 0 9 = M 0 9 ∧ RG M1 1 (app s (M (g + 1) a) (M (g + 1) (a + 1)) (M (g + 1) (a + 2)) (M (g + 1) (a + 3)))) ∧
    (¬ okA s (M (g + 1) a) (M (g + 1) (a + 1)) (M (g + 1) (a + 2)) (M (g + 1) (a + 3)) → am_ev X kX8_takeItem 0 [.ref 0, .ref g, .int (nI a)] [] (hp M) = some (some (.int 0), hp M)) := by
  obtain ⟨c1, c2⟩ := @C_add X M s (M (g + 1) a) (M (g + 1) (a + 1)) (M (g + 1) (a + 2)) (M (g + 1) (a + 3)) hR hwf
  refine ⟨fun z => ?_, fun z => ?_⟩
  · obtain ⟨v, M1, hv, e, r⟩ := c1 z
    refine ⟨M1, ?_, r⟩
    simp (disch := omega) only [iX8_takeItem_0, iX8_takeItem_1, iX8_takeItem_2, iX8_takeItem_5, iX8_takeItem_6, iX8_takeItem_7, iX8_takeItem_8, iX8_takeItem_11, iX8_takeItem_12, iX8_takeItem_13, iX8_takeItem_14, iX8_takeItem_15, iX8_takeItem_16, iX8_takeItem_19, iX8_takeItem_20, iX8_takeItem_21, iX8_takeItem_22, iX8_takeItem_23, iX8_takeItem_24, iX8_takeItem_27, iX8_takeItem_28, iX8_takeItem_29, iX8_takeItem_30, iX8_takeItem_31, iX8_takeItem_34, iX8_takeItem_37, iX8_takeItem_38, iX8_takeItem_41, iX8_takeItem_42, true_or, or_true, Option.bind_some, Option.bind_none, kk_hp, kn_hp, el_i, el_b, el_z, am_cat_nil, am_cat_i, am_cat_r, am_cat_l, am_cat_n, gd_i, gd_r, gd_n, gd_u, List.length_cons, List.length_nil, true_and, and_true, ↓reduceIte, Nat.zero_le, Nat.reduceLeDiff, Nat.reduceAdd, e_10, e_01, e_00, e_11, Int32.reduceLE, Int32.reduceLT, Int32.reduceAdd, Int32.reduceSub, b01, if_true, if_false, ite_self, nl_add, nl_add', nl_mul, nI_add, in_t, cl_n, le_nn, lt_nn, le_ln, le_nl, lt_nl, lt_ln, eq_nn, eq_nl, in_lit, cl_lit, Nat.le_refl, Nat.add_zero, rc_0, gf_0_0, gf_0_1, gf_0_2, gf_0_3, gf_0_4, gf_0_5, gf_0_6, gf_0_7, gf_0_8, pf_0_8, gf_0_9, pf_0_9, gH0 hg, aH1 hg, e, Int32.not_le.mpr hv]
  · obtain ⟨v, hv, e⟩ := c2 z
    simp (disch := omega) only [iX8_takeItem_0, iX8_takeItem_1, iX8_takeItem_2, iX8_takeItem_5, iX8_takeItem_6, iX8_takeItem_7, iX8_takeItem_8, iX8_takeItem_11, iX8_takeItem_12, iX8_takeItem_13, iX8_takeItem_14, iX8_takeItem_15, iX8_takeItem_16, iX8_takeItem_19, iX8_takeItem_20, iX8_takeItem_21, iX8_takeItem_22, iX8_takeItem_23, iX8_takeItem_24, iX8_takeItem_27, iX8_takeItem_28, iX8_takeItem_29, iX8_takeItem_30, iX8_takeItem_31, iX8_takeItem_34, iX8_takeItem_37, iX8_takeItem_38, iX8_takeItem_41, iX8_takeItem_42, true_or, or_true, Option.bind_some, Option.bind_none, kk_hp, kn_hp, el_i, el_b, el_z, am_cat_nil, am_cat_i, am_cat_r, am_cat_l, am_cat_n, gd_i, gd_r, gd_n, gd_u, List.length_cons, List.length_nil, true_and, and_true, ↓reduceIte, Nat.zero_le, Nat.reduceLeDiff, Nat.reduceAdd, e_10, e_01, e_00, e_11, Int32.reduceLE, Int32.reduceLT, Int32.reduceAdd, Int32.reduceSub, b01, if_true, if_false, ite_self, nl_add, nl_add', nl_mul, nI_add, in_t, cl_n, le_nn, lt_nn, le_ln, le_nl, lt_nl, lt_ln, eq_nn, eq_nl, in_lit, cl_lit, Nat.le_refl, Nat.add_zero, rc_0, gf_0_0, gf_0_1, gf_0_2, gf_0_3, gf_0_4, gf_0_5, gf_0_6, gf_0_7, gf_0_8, pf_0_8, gf_0_9, pf_0_9, gH0 hg, aH1 hg, e, Int32.le_of_lt hv]
theorem read_l {q nn b0 : Nat} {lane f : Int32} {M0 : Nat → Nat → Int32} (hq : q < 4) (hnn : nn ≤ 10) (hS : shq M0 q) (k : Nat) : ∀ (i : Nat) (Mc : Nat → Nat → Int32) (s : Nat → Int32) (u10 u11 : Value), i + k = nn → (∀ x, ¬ (x ≤ 11) → Mc x = M0 x) → RG Mc 1 s → wf s → b0 ≤ mI s → (Mc 0 8 = 1 ∨ mI s = b0) →
    ∃ v Mc' s' tf, am_ev X kX8_read 50 [.ref 0, .int (nI q), .int lane, .int f, .int (nI nn), .ref (52 + 2 * q), .int (nI b0), .int (nI i), .int 0, .int (nI i), u10, u11] [] (hp Mc) = some (some (.int v), hp Mc') ∧ (∀ x, ¬ (x ≤ 11) → Mc' x = M0 x) ∧ RG Mc' 1 s' ∧ wf s' ∧ Mc' 0 9 = tf ∧ (Mc' 0 8 = 1 ∨ Mc' 0 8 = Mc 0 8 ∧ s' = s) ∧
      ∀ (Mr : Nat → Nat → Int32) (u9 w10 w11 : Value), Mr 83 = s → Mr 97 = M0 97 → Mr 98 = M0 98 → Mr 99 = M0 99 → Mr 82 25 = Mc 0 9 → ∃ Mr', am_ev X kX9_read 41 [.ref 82, .int (nI q), .int lane, .int f, .int (nI nn), .int (nI b0), .int 0, .int (nI i), .int (nI i), u9, w10, w11] [] (hp Mr) = some (some (.int v), hp Mr') ∧ Mr' 83 = s' ∧ (∀ x, x ≠ 83 → x ≠ 82 → Mr' x = Mr x) ∧ (∀ j, j ≠ 25 → Mr' 82 j = Mr 82 j) ∧ Mr' 82 25 = tf := by
  have hg := isH_k hq
  induction k with
  | zero =>
    intro i Mc s u10 u11 hi hF hR hwf hb hst
    refine ⟨nI i, up Mc 0 9 0, s, 0, ?_, fun x hx => by rw [up_n _ _ _ (by omega)]; exact hF x hx, RG_fa (fun k hk => by rw [up_n _ _ _ (by omega)]) hR, hwf, by rw [up_s, pk_us], Or.inr ⟨by rw [up_s, pk_un (by decide)], rfl⟩, fun Mr u9 w10 w11 h83 h97 h98 h99 h25 => ⟨up Mr 82 25 0, ?_, by rw [up_n _ _ _ (by decide)]; exact h83, fun x h1 h2 => up_n _ _ _ h2, fun j hj => by rw [up_s, pk_un hj], by rw [up_s, pk_us]⟩⟩
    · simp (disch := omega) only [iX8_read_50, iX8_read_52, iX8_read_54, iX8_read_126, iX8_read_127, iX8_read_129, iX8_read_132, iX8_read_134, true_or, or_true, Option.bind_some, Option.bind_none, kk_hp, kn_hp, el_i, el_b, el_z, am_cat_nil, am_cat_i, am_cat_r, am_cat_l, am_cat_n, gd_i, gd_r, gd_n, gd_u, List.length_cons, List.length_nil, true_and, and_true, ↓reduceIte, Nat.zero_le, Nat.reduceLeDiff, Nat.reduceAdd, e_10, e_01, e_00, e_11, Int32.reduceLE, Int32.reduceLT, Int32.reduceAdd, Int32.reduceSub, b01, if_true, if_false, ite_self, nl_add, nl_add', nl_mul, nI_add, in_t, cl_n, le_nn, lt_nn, le_ln, le_nl, lt_nl, lt_ln, eq_nn, eq_nl, in_lit, cl_lit, Nat.le_refl, Nat.add_zero, rc_0, gf_0_0, gf_0_1, gf_0_2, gf_0_3, gf_0_4, gf_0_5, gf_0_6, gf_0_7, gf_0_8, pf_0_8, gf_0_9, pf_0_9, show nn ≤ i by omega]
    · simp (disch := omega) only [iX9_read_41, iX9_read_43, iX9_read_45, iX9_read_226, iX9_read_227, iX9_read_229, iX9_read_232, iX9_read_234, true_or, or_true, Option.bind_some, Option.bind_none, kk_hp, kn_hp, el_i, el_b, el_z, am_cat_nil, am_cat_i, am_cat_r, am_cat_l, am_cat_n, gd_i, gd_r, gd_n, gd_u, List.length_cons, List.length_nil, true_and, and_true, ↓reduceIte, Nat.zero_le, Nat.reduceLeDiff, Nat.reduceAdd, e_10, e_01, e_00, e_11, Int32.reduceLE, Int32.reduceLT, Int32.reduceAdd, Int32.reduceSub, b01, if_true, if_false, ite_self, nl_add, nl_add', nl_mul, nI_add, in_t, cl_n, le_nn, lt_nn, le_ln, le_nl, lt_nl, lt_ln, eq_nn, eq_nl, in_lit, cl_lit, Nat.le_refl, Nat.add_zero, rc_82, gf_82_0, gf_82_1, gf_82_2, gf_82_3, gf_82_4, gf_82_5, gf_82_6, pf_82_6, gf_82_7, pf_82_7, gf_82_8, pf_82_8, gf_82_9, pf_82_9, gf_82_10, pf_82_10, gf_82_11, pf_82_11, gf_82_12, pf_82_12, gf_82_13, gf_82_14, gf_82_15, gf_82_16, pf_82_16, gf_82_17, gf_82_18, gf_82_19, gf_82_20, gf_82_21, gf_82_22, gf_82_23, gf_82_24, gf_82_25, pf_82_25, ga_83, wi_83, ga_84, wi_84, ga_85, wb_85, ga_86, wi_86, ga_87, wb_87, ga_88, wi_88, ga_89, wi_89, ga_90, wi_90, ga_91, wi_91, ga_92, wi_92, ga_93, wi_93, ga_94, wi_94, ga_95, wi_95, ga_96, wb_96, ga_97, wi_97, ga_98, wi_98, ga_99, wi_99, show nn ≤ i by omega]
  | succ k ih =>
    intro i Mc s u10 u11 hi hF hR hwf hb hst
    have hli : ¬ nn ≤ i := by omega
    obtain ⟨p0, p1, p2⟩ := @P64 f i (by omega)
    have efa := @C_faultAs X Mc (52 + 2 * q) (f.toInt64 + (nI (4 * i)).toInt64) lane 4 hg
    have cg : Mc (52 + 2 * q) = M0 (52 + 2 * q) := hF _ (by omega)
    have cg1 : Mc (52 + 2 * q + 1) = M0 (52 + 2 * q + 1) := hF _ (by omega)
    rw [cg] at efa
    have efb : am_ev X kX5_faultAs 0 [.ref (52 + 2 * q), .int lane, .long (f.toInt64 + (nI (4 * i)).toInt64), am_u, .int 4] [] (hp Mc) = some (some (.int (rcC (M0 (52 + 2 * q) 2) (M0 (52 + 2 * q) 1) lane (f.toInt64 + (nI (4 * i)).toInt64))), hp Mc) := efa
    by_cases hr : rcC (M0 (52 + 2 * q) 2) (M0 (52 + 2 * q) 1) lane (f.toInt64 + (nI (4 * i)).toInt64) = 0
    · -- no fault
      obtain ⟨z0, a, ha, hfa, hcl⟩ := rcs_0 hS (by omega) hr
      rw [hr] at efb
      obtain ⟨fa1, fa2⟩ := f_a (by omega) (by omega) hfa
      obtain ⟨t1, t2⟩ := @C_takeItem X Mc (52 + 2 * q) a s hg ha hR hwf
      rw [cg1] at t1 t2
      have cell : ∀ c, c < 4 → M0 (52 + 2 * q + 1) (a + c) = M0 99 (40 * q + a + c) := fun c hc => by
        have := hcl (a + c) (by omega)
        rw [show 53 + 2 * q = 52 + 2 * q + 1 by omega] at this
        rw [this, Nat.add_assoc (40 * q)]
      have c0 : M0 (52 + 2 * q + 1) a = M0 99 (40 * q + a) := cell 0 (by decide)
      have c1 := cell 1 (by decide)
      have c2 := cell 2 (by decide)
      have c3 := cell 3 (by decide)
      rw [c0, c1, c2, c3] at t1 t2
      have inner : ∀ (Mr : Nat → Nat → Int32) (u9 w10 w11 : Value), Mr 97 = M0 97 → Mr 98 = M0 98 → ∃ u9' w10' w11', am_ev X kX9_read 41 [.ref 82, .int (nI q), .int lane, .int f, .int (nI nn), .int (nI b0), .int 0, .int (nI i), .int (nI i), u9, w10, w11] [] (hp Mr) = am_ev X kX9_read 143 [.ref 82, .int (nI q), .int lane, .int f, .int (nI nn), .int (nI b0), .int 0, .int (nI i), .int (nI i), u9', w10', w11'] [] (hp Mr) := by
        intro Mr u9 w10 w11 h97 h98
        obtain ⟨x, u9', w10', w11', e1, e2⟩ := @read_in X Mr q i lane f (nI nn) (nI b0) (nI i) 1 hq (by omega) (by decide) 4 0 w10 w11 rfl (fun e _ he => by rw [h97, h98]; exact Or.inl (z0 e he))
        have hx : x = 0 := by
          rcases e2 with ⟨z, -⟩ | ⟨-, e, -, h2, h3⟩
          · exact z
          · rw [h97, h98, z0 e h2] at h3; exact absurd h3 (by decide)
        rw [hx, nI_0] at e1
        refine ⟨u9', w10', w11', ?_⟩
        rw [← e1]
        conv => lhs; rw [iX9_read_41]
        simp (disch := omega) only [iX9_read_43, iX9_read_45, iX9_read_48, iX9_read_50, iX9_read_53, iX9_read_54, true_or, or_true, Option.bind_some, Option.bind_none, kk_hp, kn_hp, el_i, el_b, el_z, am_cat_nil, am_cat_i, am_cat_r, am_cat_l, am_cat_n, gd_i, gd_r, gd_n, gd_u, List.length_cons, List.length_nil, true_and, and_true, ↓reduceIte, Nat.zero_le, Nat.reduceLeDiff, Nat.reduceAdd, e_10, e_01, e_00, e_11, Int32.reduceLE, Int32.reduceLT, Int32.reduceAdd, Int32.reduceSub, b01, if_true, if_false, ite_self, nl_add, nl_add', nl_mul, nI_add, in_t, cl_n, le_nn, lt_nn, le_ln, le_nl, lt_nl, lt_ln, eq_nn, eq_nl, in_lit, cl_lit, Nat.le_refl, Nat.add_zero, hli]
      by_cases hok : okA s (M0 99 (40 * q + a)) (M0 99 (40 * q + a + 1)) (M0 99 (40 * q + a + 2)) (M0 99 (40 * q + a + 3))
      · obtain ⟨M1, e1, f1, g8, g9, gR⟩ := t1 hok
        have hm1 : mI s < 10 := hok.2
        obtain ⟨v, Mc', s', tf, y1, y2, y3, y4, y5, y6, y7⟩ := ih (i + 1) M1 _ (.long (f.toInt64 + (nI (4 * i)).toInt64)) am_u (by omega) (fun x hx => (f1 x hx).trans (hF x hx)) gR (okA_wf hwf hok) (by rw [app_m hm1]; omega) (Or.inl g8)
        refine ⟨v, Mc', s', tf, ?_, y2, y3, y4, y5, Or.inl (y6.elim id (fun z => z.1.trans g8)), fun Mr u9 w10 w11 h83 h97 h98 h99 h25 => ?_⟩
        · rw [← y1]
          conv => lhs; rw [iX8_read_50]
          simp (disch := omega) only [iX8_read_52, iX8_read_54, iX8_read_57, iX8_read_59, iX8_read_62, iX8_read_63, iX8_read_64, iX8_read_67, iX8_read_69, iX8_read_70, iX8_read_71, iX8_read_72, iX8_read_74, iX8_read_74_n, iX8_read_76, iX8_read_77, iX8_read_79, iX8_read_80, iX8_read_83, iX8_read_85, iX8_read_87, iX8_read_90, iX8_read_91, iX8_read_91_n, iX8_read_93, iX8_read_95, iX8_read_96, iX8_read_99, iX8_read_102, iX8_read_103, iX8_read_106, iX8_read_108, iX8_read_111, iX8_read_113, iX8_read_115, iX8_read_116, iX8_read_117, iX8_read_120, iX8_read_123, true_or, or_true, Option.bind_some, Option.bind_none, kk_hp, kn_hp, el_i, el_b, el_z, am_cat_nil, am_cat_i, am_cat_r, am_cat_l, am_cat_n, gd_i, gd_r, gd_n, gd_u, List.length_cons, List.length_nil, true_and, and_true, ↓reduceIte, Nat.zero_le, Nat.reduceLeDiff, Nat.reduceAdd, e_10, e_01, e_00, e_11, Int32.reduceLE, Int32.reduceLT, Int32.reduceAdd, Int32.reduceSub, b01, if_true, if_false, ite_self, nl_add, nl_add', nl_mul, nI_add, in_t, cl_n, le_nn, lt_nn, le_ln, le_nl, lt_nl, lt_ln, eq_nn, eq_nl, in_lit, cl_lit, Nat.le_refl, Nat.add_zero, rc_0, gf_0_0, gf_0_1, gf_0_2, gf_0_3, gf_0_4, gf_0_5, gf_0_6, gf_0_7, gf_0_8, pf_0_8, gf_0_9, pf_0_9, rcH hg, hli, p2, efb, fa2, e1]
        · obtain ⟨u9', w10', w11', e2⟩ := inner Mr u9 w10 w11 h97 h98
          obtain ⟨va, hva, e3⟩ := (@M_add X Mr (M0 99 (40 * q + a)) (M0 99 (40 * q + a + 1)) (M0 99 (40 * q + a + 2)) (M0 99 (40 * q + a + 3)) (by rw [h83]; exact hwf)).1 (by rw [h83]; exact hok)
          rw [h83] at e3
          obtain ⟨Mr', e4, k1, k2, k3, k4⟩ := y7 (ua Mr 83 (app s (M0 99 (40 * q + a)) (M0 99 (40 * q + a + 1)) (M0 99 (40 * q + a + 2)) (M0 99 (40 * q + a + 3)))) (.int (nI (40 * q + a))) w10' w11' (ua_s _ _ _) h97 h98 h99 (by rw [g9]; exact h25)
          refine ⟨Mr', ?_, k1, fun x h1 h2 => by rw [k2 x h1 h2, ua_n _ _ h1], fun j hj => k3 j hj, k4⟩
          rw [e2, ← e4]
          have fa3 : nI (40 * q) + f + nI (4 * i) = nI (40 * q + a) := by rw [Int32.add_assoc, fa1, nI_add]
          simp (disch := omega) only [iX9_read_143, iX9_read_145, iX9_read_148, iX9_read_150, iX9_read_151, iX9_read_152, iX9_read_153, iX9_read_154, iX9_read_155, iX9_read_157, iX9_read_158, iX9_read_159, iX9_read_161, iX9_read_162, iX9_read_163, iX9_read_166, iX9_read_168, iX9_read_169, iX9_read_170, iX9_read_173, iX9_read_175, iX9_read_176, iX9_read_177, iX9_read_178, iX9_read_179, iX9_read_182, iX9_read_184, iX9_read_185, iX9_read_186, iX9_read_187, iX9_read_188, iX9_read_191, iX9_read_193, iX9_read_194, iX9_read_195, iX9_read_196, iX9_read_199, iX9_read_202, iX9_read_203, iX9_read_206, iX9_read_208, iX9_read_210, iX9_read_211, iX9_read_213, iX9_read_215, iX9_read_216, iX9_read_217, iX9_read_220, iX9_read_223, true_or, or_true, Option.bind_some, Option.bind_none, kk_hp, kn_hp, el_i, el_b, el_z, am_cat_nil, am_cat_i, am_cat_r, am_cat_l, am_cat_n, gd_i, gd_r, gd_n, gd_u, List.length_cons, List.length_nil, true_and, and_true, ↓reduceIte, Nat.zero_le, Nat.reduceLeDiff, Nat.reduceAdd, e_10, e_01, e_00, e_11, Int32.reduceLE, Int32.reduceLT, Int32.reduceAdd, Int32.reduceSub, b01, if_true, if_false, ite_self, nl_add, nl_add', nl_mul, nI_add, in_t, cl_n, le_nn, lt_nn, le_ln, le_nl, lt_nl, lt_ln, eq_nn, eq_nl, in_lit, cl_lit, Nat.le_refl, Nat.add_zero, rc_82, gf_82_0, gf_82_1, gf_82_2, gf_82_3, gf_82_4, gf_82_5, gf_82_6, pf_82_6, gf_82_7, pf_82_7, gf_82_8, pf_82_8, gf_82_9, pf_82_9, gf_82_10, pf_82_10, gf_82_11, pf_82_11, gf_82_12, pf_82_12, gf_82_13, gf_82_14, gf_82_15, gf_82_16, pf_82_16, gf_82_17, gf_82_18, gf_82_19, gf_82_20, gf_82_21, gf_82_22, gf_82_23, gf_82_24, gf_82_25, pf_82_25, ga_83, wi_83, ga_84, wi_84, ga_85, wb_85, ga_86, wi_86, ga_87, wb_87, ga_88, wi_88, ga_89, wi_89, ga_90, wi_90, ga_91, wi_91, ga_92, wi_92, ga_93, wi_93, ga_94, wi_94, ga_95, wi_95, ga_96, wb_96, ga_97, wi_97, ga_98, wi_98, ga_99, wi_99, fa3, h99, e3, Int32.le_of_lt hva]
      · have e1 := t2 hok
        have es25 : s 25 = nI (mI s) := hwf.2.1.1
        have hm10 := hwf.2.1.2
        have emi : mI (upd s 25 (nI b0)) = b0 := by show (upd s 25 (nI b0) 25).toNatClampNeg = _; rw [pk_us, nI_clamp (by omega)]
        have enc : nC (upd s 25 (nI b0)) = nC s := by unfold nC; rw [pk_un (by decide)]
        refine ⟨-20 - nI i, up Mc 1 7 (nI b0), upd s 25 (nI b0), Mc 0 9, ?_, fun x hx => by rw [up_n _ _ _ (by omega)]; exact hF x hx, ?_, ?_, by rw [up_n _ _ _ (by decide)], ?_, fun Mr u9 w10 w11 h83 h97 h98 h99 h25 => ?_⟩
        · conv => lhs; rw [iX8_read_50]
          simp (disch := omega) only [iX8_read_52, iX8_read_54, iX8_read_57, iX8_read_59, iX8_read_62, iX8_read_63, iX8_read_64, iX8_read_67, iX8_read_69, iX8_read_70, iX8_read_71, iX8_read_72, iX8_read_74, iX8_read_74_n, iX8_read_76, iX8_read_77, iX8_read_79, iX8_read_80, iX8_read_83, iX8_read_85, iX8_read_87, iX8_read_90, iX8_read_91, iX8_read_91_n, iX8_read_93, iX8_read_95, iX8_read_96, iX8_read_99, iX8_read_102, iX8_read_103, iX8_read_106, iX8_read_108, iX8_read_111, iX8_read_113, iX8_read_115, iX8_read_116, iX8_read_117, iX8_read_120, iX8_read_123, true_or, or_true, Option.bind_some, Option.bind_none, kk_hp, kn_hp, el_i, el_b, el_z, am_cat_nil, am_cat_i, am_cat_r, am_cat_l, am_cat_n, gd_i, gd_r, gd_n, gd_u, List.length_cons, List.length_nil, true_and, and_true, ↓reduceIte, Nat.zero_le, Nat.reduceLeDiff, Nat.reduceAdd, e_10, e_01, e_00, e_11, Int32.reduceLE, Int32.reduceLT, Int32.reduceAdd, Int32.reduceSub, b01, if_true, if_false, ite_self, nl_add, nl_add', nl_mul, nI_add, in_t, cl_n, le_nn, lt_nn, le_ln, le_nl, lt_nl, lt_ln, eq_nn, eq_nl, in_lit, cl_lit, Nat.le_refl, Nat.add_zero, rc_0, gf_0_0, gf_0_1, gf_0_2, gf_0_3, gf_0_4, gf_0_5, gf_0_6, gf_0_7, gf_0_8, pf_0_8, gf_0_9, pf_0_9, rc_1, gf_1_0, pf_1_0, gf_1_1, gf_1_2, gf_1_3, pf_1_3, gf_1_4, pf_1_4, gf_1_5, pf_1_5, gf_1_6, pf_1_6, gf_1_7, pf_1_7, gf_1_8, gf_1_9, rcH hg, hli, p2, efb, fa2, e1]
        · exact RG_sc hR (fun k h1 h2 => by rw [up_n _ _ _ (by omega)]) (fun j hj => pk_un (by omega)) (by omega) (by omega) ⟨hR.1.1, hR.1.2.1, hR.1.2.2.1, hR.1.2.2.2.1, hR.1.2.2.2.2.1, by rw [up_s, pk_us, pk_us]⟩ hwf.1.2
        · refine ⟨by rw [enc, pk_un (by decide)]; exact hwf.1, by rw [emi, pk_us]; exact ⟨rfl, by omega⟩, fun x hx => ?_, fun c hc => ?_⟩
          · rw [emi] at hx
            exact itm_mv (hwf.2.2.1 x (by omega)) (pk_un (by decide)) (fun w hw => pk_un (by omega))
          · rw [enc] at hc
            have := hwf.1.2
            rw [pk_un (by omega), pk_un (by omega)]
            exact hwf.2.2.2 c hc
        · rcases hst with z | z
          · left; rw [up_n _ _ _ (by decide)]; exact z
          · right
            refine ⟨by rw [up_n _ _ _ (by decide)], ?_⟩
            funext y
            by_cases hy : y = 25
            · rw [hy, pk_us, es25, z]
            · rw [pk_un hy]
        · obtain ⟨u9', w10', w11', e2⟩ := inner Mr u9 w10 w11 h97 h98
          obtain ⟨va, hva, e3⟩ := (@M_add X Mr (M0 99 (40 * q + a)) (M0 99 (40 * q + a + 1)) (M0 99 (40 * q + a + 2)) (M0 99 (40 * q + a + 3)) (by rw [h83]; exact hwf)).2 (by rw [h83]; exact hok)
          refine ⟨up Mr 83 25 (nI b0), ?_, by rw [up_s, h83], fun x h1 h2 => up_n _ _ _ h1, fun j hj => by rw [up_n _ _ _ (by decide)], by rw [up_n _ _ _ (by decide)]; exact h25⟩
          rw [e2]
          have fa3 : nI (40 * q) + f + nI (4 * i) = nI (40 * q + a) := by rw [Int32.add_assoc, fa1, nI_add]
          simp (disch := omega) only [iX9_read_143, iX9_read_145, iX9_read_148, iX9_read_150, iX9_read_151, iX9_read_152, iX9_read_153, iX9_read_154, iX9_read_155, iX9_read_157, iX9_read_158, iX9_read_159, iX9_read_161, iX9_read_162, iX9_read_163, iX9_read_166, iX9_read_168, iX9_read_169, iX9_read_170, iX9_read_173, iX9_read_175, iX9_read_176, iX9_read_177, iX9_read_178, iX9_read_179, iX9_read_182, iX9_read_184, iX9_read_185, iX9_read_186, iX9_read_187, iX9_read_188, iX9_read_191, iX9_read_193, iX9_read_194, iX9_read_195, iX9_read_196, iX9_read_199, iX9_read_202, iX9_read_203, iX9_read_206, iX9_read_208, iX9_read_210, iX9_read_211, iX9_read_213, iX9_read_215, iX9_read_216, iX9_read_217, iX9_read_220, iX9_read_223, true_or, or_true, Option.bind_some, Option.bind_none, kk_hp, kn_hp, el_i, el_b, el_z, am_cat_nil, am_cat_i, am_cat_r, am_cat_l, am_cat_n, gd_i, gd_r, gd_n, gd_u, List.length_cons, List.length_nil, true_and, and_true, ↓reduceIte, Nat.zero_le, Nat.reduceLeDiff, Nat.reduceAdd, e_10, e_01, e_00, e_11, Int32.reduceLE, Int32.reduceLT, Int32.reduceAdd, Int32.reduceSub, b01, if_true, if_false, ite_self, nl_add, nl_add', nl_mul, nI_add, in_t, cl_n, le_nn, lt_nn, le_ln, le_nl, lt_nl, lt_ln, eq_nn, eq_nl, in_lit, cl_lit, Nat.le_refl, Nat.add_zero, rc_82, gf_82_0, gf_82_1, gf_82_2, gf_82_3, gf_82_4, gf_82_5, gf_82_6, pf_82_6, gf_82_7, pf_82_7, gf_82_8, pf_82_8, gf_82_9, pf_82_9, gf_82_10, pf_82_10, gf_82_11, pf_82_11, gf_82_12, pf_82_12, gf_82_13, gf_82_14, gf_82_15, gf_82_16, pf_82_16, gf_82_17, gf_82_18, gf_82_19, gf_82_20, gf_82_21, gf_82_22, gf_82_23, gf_82_24, gf_82_25, pf_82_25, ga_83, wi_83, ga_84, wi_84, ga_85, wb_85, ga_86, wi_86, ga_87, wb_87, ga_88, wi_88, ga_89, wi_89, ga_90, wi_90, ga_91, wi_91, ga_92, wi_92, ga_93, wi_93, ga_94, wi_94, ga_95, wi_95, ga_96, wb_96, ga_97, wi_97, ga_98, wi_98, ga_99, wi_99, fa3, h99, e3, Int32.not_le.mpr hva]
    · -- a fault
      obtain ⟨z1, e0, he0, z2⟩ := rcs_r hS (by omega) hr
      generalize rcC (M0 (52 + 2 * q) 2) (M0 (52 + 2 * q) 1) lane (f.toInt64 + (nI (4 * i)).toInt64) = r at *
      refine ⟨nI i, up Mc 0 9 r, s, r, ?_, fun x hx => by rw [up_n _ _ _ (by omega)]; exact hF x hx, RG_fa (fun k hk => by rw [up_n _ _ _ (by omega)]) hR, hwf, by rw [up_s, pk_us], Or.inr ⟨by rw [up_s, pk_un (by decide)], rfl⟩, fun Mr u9 w10 w11 h83 h97 h98 h99 h25 => ⟨up Mr 82 25 r, ?_, by rw [up_n _ _ _ (by decide)]; exact h83, fun x h1 h2 => up_n _ _ _ h2, fun j hj => by rw [up_s, pk_un hj], by rw [up_s, pk_us]⟩⟩
      · conv => lhs; rw [iX8_read_50]
        simp (disch := omega) only [iX8_read_52, iX8_read_54, iX8_read_57, iX8_read_59, iX8_read_62, iX8_read_63, iX8_read_64, iX8_read_67, iX8_read_69, iX8_read_70, iX8_read_71, iX8_read_72, iX8_read_74, iX8_read_74_n, iX8_read_76, iX8_read_77, iX8_read_79, iX8_read_80, iX8_read_83, iX8_read_85, iX8_read_87, iX8_read_90, iX8_read_91, iX8_read_91_n, iX8_read_93, iX8_read_95, iX8_read_96, iX8_read_99, iX8_read_102, iX8_read_103, iX8_read_106, iX8_read_108, iX8_read_111, iX8_read_113, iX8_read_115, iX8_read_116, iX8_read_117, iX8_read_120, iX8_read_123, true_or, or_true, Option.bind_some, Option.bind_none, kk_hp, kn_hp, el_i, el_b, el_z, am_cat_nil, am_cat_i, am_cat_r, am_cat_l, am_cat_n, gd_i, gd_r, gd_n, gd_u, List.length_cons, List.length_nil, true_and, and_true, ↓reduceIte, Nat.zero_le, Nat.reduceLeDiff, Nat.reduceAdd, e_10, e_01, e_00, e_11, Int32.reduceLE, Int32.reduceLT, Int32.reduceAdd, Int32.reduceSub, b01, if_true, if_false, ite_self, nl_add, nl_add', nl_mul, nI_add, in_t, cl_n, le_nn, lt_nn, le_ln, le_nl, lt_nl, lt_ln, eq_nn, eq_nl, in_lit, cl_lit, Nat.le_refl, Nat.add_zero, rc_0, gf_0_0, gf_0_1, gf_0_2, gf_0_3, gf_0_4, gf_0_5, gf_0_6, gf_0_7, gf_0_8, pf_0_8, gf_0_9, pf_0_9, rcH hg, hli, p2, efb, hr]
        rw [iX8_read_50]
        by_cases hn2 : nn ≤ i + 1
        · simp (disch := omega) only [iX8_read_52, iX8_read_54, iX8_read_57, iX8_read_59, iX8_read_126, iX8_read_127, iX8_read_129, iX8_read_132, iX8_read_134, true_or, or_true, Option.bind_some, Option.bind_none, kk_hp, kn_hp, el_i, el_b, el_z, am_cat_nil, am_cat_i, am_cat_r, am_cat_l, am_cat_n, gd_i, gd_r, gd_n, gd_u, List.length_cons, List.length_nil, true_and, and_true, ↓reduceIte, Nat.zero_le, Nat.reduceLeDiff, Nat.reduceAdd, e_10, e_01, e_00, e_11, Int32.reduceLE, Int32.reduceLT, Int32.reduceAdd, Int32.reduceSub, b01, if_true, if_false, ite_self, nl_add, nl_add', nl_mul, nI_add, in_t, cl_n, le_nn, lt_nn, le_ln, le_nl, lt_nl, lt_ln, eq_nn, eq_nl, in_lit, cl_lit, Nat.le_refl, Nat.add_zero, rc_0, gf_0_0, gf_0_1, gf_0_2, gf_0_3, gf_0_4, gf_0_5, gf_0_6, gf_0_7, gf_0_8, pf_0_8, gf_0_9, pf_0_9, hn2]
        · simp (disch := omega) only [iX8_read_52, iX8_read_54, iX8_read_57, iX8_read_59, iX8_read_126, iX8_read_127, iX8_read_129, iX8_read_132, iX8_read_134, true_or, or_true, Option.bind_some, Option.bind_none, kk_hp, kn_hp, el_i, el_b, el_z, am_cat_nil, am_cat_i, am_cat_r, am_cat_l, am_cat_n, gd_i, gd_r, gd_n, gd_u, List.length_cons, List.length_nil, true_and, and_true, ↓reduceIte, Nat.zero_le, Nat.reduceLeDiff, Nat.reduceAdd, e_10, e_01, e_00, e_11, Int32.reduceLE, Int32.reduceLT, Int32.reduceAdd, Int32.reduceSub, b01, if_true, if_false, ite_self, nl_add, nl_add', nl_mul, nI_add, in_t, cl_n, le_nn, lt_nn, le_ln, le_nl, lt_nl, lt_ln, eq_nn, eq_nl, in_lit, cl_lit, Nat.le_refl, Nat.add_zero, rc_0, gf_0_0, gf_0_1, gf_0_2, gf_0_3, gf_0_4, gf_0_5, gf_0_6, gf_0_7, gf_0_8, pf_0_8, gf_0_9, pf_0_9, hn2, hr]
      · obtain ⟨x, u9', w10', w11', e1, e2⟩ := @read_in X Mr q i lane f (nI nn) (nI b0) (nI i) r hq (by omega) hr 4 0 w10 w11 rfl (fun e _ he => by rw [h97, h98]; exact z1 e he)
        have hx : x = r := by
          rcases e2 with ⟨-, z⟩ | ⟨z, -⟩
          · have := z e0 (by omega) he0
            rw [h97, h98, z2] at this
            exact absurd this hr
          · exact z
        rw [hx, nI_0] at e1
        conv => lhs; rw [iX9_read_41]
        simp (disch := omega) only [iX9_read_43, iX9_read_45, iX9_read_48, iX9_read_50, iX9_read_53, iX9_read_54, true_or, or_true, Option.bind_some, Option.bind_none, kk_hp, kn_hp, el_i, el_b, el_z, am_cat_nil, am_cat_i, am_cat_r, am_cat_l, am_cat_n, gd_i, gd_r, gd_n, gd_u, List.length_cons, List.length_nil, true_and, and_true, ↓reduceIte, Nat.zero_le, Nat.reduceLeDiff, Nat.reduceAdd, e_10, e_01, e_00, e_11, Int32.reduceLE, Int32.reduceLT, Int32.reduceAdd, Int32.reduceSub, b01, if_true, if_false, ite_self, nl_add, nl_add', nl_mul, nI_add, in_t, cl_n, le_nn, lt_nn, le_ln, le_nl, lt_nl, lt_ln, eq_nn, eq_nl, in_lit, cl_lit, Nat.le_refl, Nat.add_zero, hli]
        rw [e1]
        simp (disch := omega) only [iX9_read_143, iX9_read_145, iX9_read_220, iX9_read_223, true_or, or_true, Option.bind_some, Option.bind_none, kk_hp, kn_hp, el_i, el_b, el_z, am_cat_nil, am_cat_i, am_cat_r, am_cat_l, am_cat_n, gd_i, gd_r, gd_n, gd_u, List.length_cons, List.length_nil, true_and, and_true, ↓reduceIte, Nat.zero_le, Nat.reduceLeDiff, Nat.reduceAdd, e_10, e_01, e_00, e_11, Int32.reduceLE, Int32.reduceLT, Int32.reduceAdd, Int32.reduceSub, b01, if_true, if_false, ite_self, nl_add, nl_add', nl_mul, nI_add, in_t, cl_n, le_nn, lt_nn, le_ln, le_nl, lt_nl, lt_ln, eq_nn, eq_nl, in_lit, cl_lit, Nat.le_refl, Nat.add_zero, rc_82, gf_82_0, gf_82_1, gf_82_2, gf_82_3, gf_82_4, gf_82_5, gf_82_6, pf_82_6, gf_82_7, pf_82_7, gf_82_8, pf_82_8, gf_82_9, pf_82_9, gf_82_10, pf_82_10, gf_82_11, pf_82_11, gf_82_12, pf_82_12, gf_82_13, gf_82_14, gf_82_15, gf_82_16, pf_82_16, gf_82_17, gf_82_18, gf_82_19, gf_82_20, gf_82_21, gf_82_22, gf_82_23, gf_82_24, gf_82_25, pf_82_25, ga_83, wi_83, ga_84, wi_84, ga_85, wb_85, ga_86, wi_86, ga_87, wb_87, ga_88, wi_88, ga_89, wi_89, ga_90, wi_90, ga_91, wi_91, ga_92, wi_92, ga_93, wi_93, ga_94, wi_94, ga_95, wi_95, ga_96, wb_96, ga_97, wi_97, ga_98, wi_98, ga_99, wi_99, hr]
        rw [iX9_read_41]
        by_cases hn2 : nn ≤ i + 1
        · simp (disch := omega) only [iX9_read_43, iX9_read_45, iX9_read_48, iX9_read_50, iX9_read_226, iX9_read_227, iX9_read_229, iX9_read_232, iX9_read_234, true_or, or_true, Option.bind_some, Option.bind_none, kk_hp, kn_hp, el_i, el_b, el_z, am_cat_nil, am_cat_i, am_cat_r, am_cat_l, am_cat_n, gd_i, gd_r, gd_n, gd_u, List.length_cons, List.length_nil, true_and, and_true, ↓reduceIte, Nat.zero_le, Nat.reduceLeDiff, Nat.reduceAdd, e_10, e_01, e_00, e_11, Int32.reduceLE, Int32.reduceLT, Int32.reduceAdd, Int32.reduceSub, b01, if_true, if_false, ite_self, nl_add, nl_add', nl_mul, nI_add, in_t, cl_n, le_nn, lt_nn, le_ln, le_nl, lt_nl, lt_ln, eq_nn, eq_nl, in_lit, cl_lit, Nat.le_refl, Nat.add_zero, rc_82, gf_82_0, gf_82_1, gf_82_2, gf_82_3, gf_82_4, gf_82_5, gf_82_6, pf_82_6, gf_82_7, pf_82_7, gf_82_8, pf_82_8, gf_82_9, pf_82_9, gf_82_10, pf_82_10, gf_82_11, pf_82_11, gf_82_12, pf_82_12, gf_82_13, gf_82_14, gf_82_15, gf_82_16, pf_82_16, gf_82_17, gf_82_18, gf_82_19, gf_82_20, gf_82_21, gf_82_22, gf_82_23, gf_82_24, gf_82_25, pf_82_25, ga_83, wi_83, ga_84, wi_84, ga_85, wb_85, ga_86, wi_86, ga_87, wb_87, ga_88, wi_88, ga_89, wi_89, ga_90, wi_90, ga_91, wi_91, ga_92, wi_92, ga_93, wi_93, ga_94, wi_94, ga_95, wi_95, ga_96, wb_96, ga_97, wi_97, ga_98, wi_98, ga_99, wi_99, hn2]
        · simp (disch := omega) only [iX9_read_43, iX9_read_45, iX9_read_48, iX9_read_50, iX9_read_226, iX9_read_227, iX9_read_229, iX9_read_232, iX9_read_234, true_or, or_true, Option.bind_some, Option.bind_none, kk_hp, kn_hp, el_i, el_b, el_z, am_cat_nil, am_cat_i, am_cat_r, am_cat_l, am_cat_n, gd_i, gd_r, gd_n, gd_u, List.length_cons, List.length_nil, true_and, and_true, ↓reduceIte, Nat.zero_le, Nat.reduceLeDiff, Nat.reduceAdd, e_10, e_01, e_00, e_11, Int32.reduceLE, Int32.reduceLT, Int32.reduceAdd, Int32.reduceSub, b01, if_true, if_false, ite_self, nl_add, nl_add', nl_mul, nI_add, in_t, cl_n, le_nn, lt_nn, le_ln, le_nl, lt_nl, lt_ln, eq_nn, eq_nl, in_lit, cl_lit, Nat.le_refl, Nat.add_zero, rc_82, gf_82_0, gf_82_1, gf_82_2, gf_82_3, gf_82_4, gf_82_5, gf_82_6, pf_82_6, gf_82_7, pf_82_7, gf_82_8, pf_82_8, gf_82_9, pf_82_9, gf_82_10, pf_82_10, gf_82_11, pf_82_11, gf_82_12, pf_82_12, gf_82_13, gf_82_14, gf_82_15, gf_82_16, pf_82_16, gf_82_17, gf_82_18, gf_82_19, gf_82_20, gf_82_21, gf_82_22, gf_82_23, gf_82_24, gf_82_25, pf_82_25, ga_83, wi_83, ga_84, wi_84, ga_85, wb_85, ga_86, wi_86, ga_87, wb_87, ga_88, wi_88, ga_89, wi_89, ga_90, wi_90, ga_91, wi_91, ga_92, wi_92, ga_93, wi_93, ga_94, wi_94, ga_95, wi_95, ga_96, wb_96, ga_97, wi_97, ga_98, wi_98, ga_99, wi_99, hn2, hr]
theorem S_read (h : RR M) (k l f n : Int32) : St X kX8_read [.ref 0, .int k, .int l, .int f, .int n, am_u, am_u, am_u, am_u, am_u, am_u, am_u] kX9_read [.ref 82, .int k, .int l, .int f, .int n, am_u, am_u, am_u, am_u, am_u, am_u, am_u] M := by
  have hwf := h.1
  have em := fun K : Nat → Nat → Int32 => @M_isSheet X K k l
  have en := fun K : Nat → Nat → Int32 => @M_in X K n.toInt64 0 10
  simp (disch := decide) only [wl, wl_l, wl_r] at en
  have el := @C_isLane X M l
  have eb := @C_isBetween X M n 0 10
  by_cases hk : 0 ≤ k ∧ k ≤ 3
  · obtain ⟨q, hq, rfl⟩ := b3.mp hk
    have es := @C_sheet1 X M q hq
    by_cases hl : 0 ≤ l ∧ l ≤ 2
    · rw [if_pos hl] at el
      have em' := fun K => (em K).trans (by rw [if_pos ⟨hk, hl⟩])
      by_cases hn : 0 ≤ n ∧ n ≤ 10
      · rw [if_pos hn] at eb
        have en' := fun K => (en K).trans (by rw [if_pos hn])
        obtain ⟨nn, hnn, rfl⟩ := (btw0 (n := 10) (by decide)).mp hn
        have q7 : M 1 7 = nI (mI (M 83)) := h.2.1.1.2.2.2.2.2.trans hwf.2.1.1
        obtain ⟨v, Mc', s', tf, y1, y2, y3, y4, y5, y6, y7⟩ := @read_l X q nn (mI (M 83)) l f M hq hnn (h.2.2.2.2.2.1 q hq) nn 0 M (M 83) am_u am_u (by omega) (fun _ _ => rfl) h.2.1 hwf (Nat.le_refl _) (Or.inr rfl)
        obtain ⟨Mr', e4, k1, k2, k3, k4⟩ := y7 (ua Mc' 83 (M 83)) am_u am_u am_u (ua_s _ _ _) (by rw [ua_n _ _ (by decide)]; exact y2 97 (by decide)) (by rw [ua_n _ _ (by decide)]; exact y2 98 (by decide)) (by rw [ua_n _ _ (by decide)]; exact y2 99 (by decide)) (by rw [ua_n _ _ (by decide), y2 82 (by decide)]; exact h.2.2.2.2.2.2.2)
        have eself : ua Mc' 83 (M 83) = Mc' := by rw [← y2 83 (by decide), ua_self]
        rw [eself] at e4 k2 k3
        rw [nI_0] at y1 e4
        have em1 := em' Mc'
        have en1 := en' Mc'
        have q25 : Mc' 83 25 = nI (mI (M 83)) := by rw [y2 83 (by decide)]; exact hwf.2.1.1
        refine ⟨v, Mc', Mr', ?_, ?_, ?_⟩
        · simp (disch := omega) only [iX8_read_0, iX8_read_1, iX8_read_2, iX8_read_5, iX8_read_5_n, iX8_read_7, iX8_read_7_n, iX8_read_9, iX8_read_9_n, iX8_read_12, iX8_read_13, iX8_read_16, iX8_read_19, iX8_read_21, iX8_read_22, iX8_read_24, iX8_read_27, iX8_read_30, iX8_read_31, iX8_read_32, iX8_read_33, iX8_read_36, iX8_read_39, iX8_read_41, iX8_read_42, iX8_read_44, iX8_read_45, iX8_read_47, iX8_read_48, true_or, or_true, Option.bind_some, Option.bind_none, kk_hp, kn_hp, el_i, el_b, el_z, am_cat_nil, am_cat_i, am_cat_r, am_cat_l, am_cat_n, gd_i, gd_r, gd_n, gd_u, List.length_cons, List.length_nil, true_and, and_true, ↓reduceIte, Nat.zero_le, Nat.reduceLeDiff, Nat.reduceAdd, e_10, e_01, e_00, e_11, Int32.reduceLE, Int32.reduceLT, Int32.reduceAdd, Int32.reduceSub, b01, if_true, if_false, ite_self, nl_add, nl_add', nl_mul, nI_add, in_t, cl_n, le_nn, lt_nn, le_ln, le_nl, lt_nl, lt_ln, eq_nn, eq_nl, in_lit, cl_lit, Nat.le_refl, Nat.add_zero, rc_0, gf_0_0, gf_0_1, gf_0_2, gf_0_3, gf_0_4, gf_0_5, gf_0_6, gf_0_7, gf_0_8, pf_0_8, gf_0_9, pf_0_9, rc_1, gf_1_0, pf_1_0, gf_1_1, gf_1_2, gf_1_3, pf_1_3, gf_1_4, pf_1_4, gf_1_5, pf_1_5, gf_1_6, pf_1_6, gf_1_7, pf_1_7, gf_1_8, gf_1_9, es, el, eb, q7]
          exact y1
        · simp (disch := omega) only [iX9_read_0, iX9_read_1, iX9_read_2, iX9_read_5, iX9_read_8, iX9_read_10, iX9_read_11, iX9_read_12, iX9_read_15, iX9_read_18, iX9_read_21, iX9_read_22, iX9_read_23, iX9_read_24, iX9_read_27, iX9_read_29, iX9_read_30, iX9_read_32, iX9_read_33, iX9_read_35, iX9_read_36, iX9_read_38, iX9_read_39, true_or, or_true, Option.bind_some, Option.bind_none, kk_hp, kn_hp, el_i, el_b, el_z, am_cat_nil, am_cat_i, am_cat_r, am_cat_l, am_cat_n, gd_i, gd_r, gd_n, gd_u, List.length_cons, List.length_nil, true_and, and_true, ↓reduceIte, Nat.zero_le, Nat.reduceLeDiff, Nat.reduceAdd, e_10, e_01, e_00, e_11, Int32.reduceLE, Int32.reduceLT, Int32.reduceAdd, Int32.reduceSub, b01, if_true, if_false, ite_self, nl_add, nl_add', nl_mul, nI_add, in_t, cl_n, le_nn, lt_nn, le_ln, le_nl, lt_nl, lt_ln, eq_nn, eq_nl, in_lit, cl_lit, Nat.le_refl, Nat.add_zero, rc_82, gf_82_0, gf_82_1, gf_82_2, gf_82_3, gf_82_4, gf_82_5, gf_82_6, pf_82_6, gf_82_7, pf_82_7, gf_82_8, pf_82_8, gf_82_9, pf_82_9, gf_82_10, pf_82_10, gf_82_11, pf_82_11, gf_82_12, pf_82_12, gf_82_13, gf_82_14, gf_82_15, gf_82_16, pf_82_16, gf_82_17, gf_82_18, gf_82_19, gf_82_20, gf_82_21, gf_82_22, gf_82_23, gf_82_24, gf_82_25, pf_82_25, ga_83, wi_83, ga_84, wi_84, ga_85, wb_85, ga_86, wi_86, ga_87, wb_87, ga_88, wi_88, ga_89, wi_89, ga_90, wi_90, ga_91, wi_91, ga_92, wi_92, ga_93, wi_93, ga_94, wi_94, ga_95, wi_95, ga_96, wb_96, ga_97, wi_97, ga_98, wi_98, ga_99, wi_99, em1, en1, q25]
          exact e4
        · obtain ⟨h1, h2, h3, h4, h5, h6, h7, h8⟩ := h
          have ex : ∀ x, ¬ (x ≤ 11) → x ≠ 83 → x ≠ 82 → Mr' x = M x := fun x i1 i2 i3 => (k2 x i2 i3).trans (y2 x i1)
          refine ⟨by rw [k1]; exact y4, by rw [k1]; exact RG_fa (fun j hj => k2 _ (by omega) (by omega)) y3, ?_, ?_, ?_, ?_, ?_, ?_⟩
          · rw [k1, k2 0 (by decide) (by decide)]
            rcases y6 with z | ⟨z, z2⟩
            · exact Or.inl z
            · rw [z, z2]
              exact h3.elim Or.inl (fun w => Or.inr ⟨w.1, DR_fr w.2 (fun a ha hb => ex a (by omega) (by omega) (by omega))⟩)
          · exact RI_fr h4 (fun a ha hb => ex a (by omega) (by omega) (by omega)) (ex 84 (by decide) (by decide) (by decide)) (ex 85 (by decide) (by decide) (by decide))
          · exact RTp_fr h5 (by rw [ex 13 (by decide) (by decide) (by decide)]) (ex 14 (by decide) (by decide) (by decide)) (by rw [k3 6 (by decide), y2 82 (by decide)]) (ex 88 (by decide) (by decide) (by decide))
          · exact RSh_fr h6 (fun a ha hb => ex a (by omega) (by omega) (by omega)) (ex 97 (by decide) (by decide) (by decide)) (ex 98 (by decide) (by decide) (by decide)) (ex 99 (by decide) (by decide) (by decide))
          · rw [k3 11 (by decide), y2 82 (by decide), ex 12 (by decide) (by decide) (by decide)]; exact h7
          · rw [k4, k2 0 (by decide) (by decide)]; exact y5.symm
      · rw [if_neg hn] at eb
        have en0 := en M
        rw [if_neg hn] at en0
        have em0 := em' M
        refine ⟨-1, M, M, ?_, ?_, h⟩
        · simp (disch := omega) only [iX8_read_0, iX8_read_1, iX8_read_2, iX8_read_5, iX8_read_5_n, iX8_read_7, iX8_read_7_n, iX8_read_9, iX8_read_9_n, iX8_read_12, iX8_read_13, iX8_read_16, iX8_read_19, iX8_read_21, iX8_read_22, iX8_read_24, iX8_read_27, iX8_read_30, iX8_read_31, iX8_read_32, iX8_read_33, iX8_read_36, iX8_read_39, iX8_read_41, iX8_read_42, iX8_read_44, iX8_read_45, iX8_read_47, iX8_read_48, true_or, or_true, Option.bind_some, Option.bind_none, kk_hp, kn_hp, el_i, el_b, el_z, am_cat_nil, am_cat_i, am_cat_r, am_cat_l, am_cat_n, gd_i, gd_r, gd_n, gd_u, List.length_cons, List.length_nil, true_and, and_true, ↓reduceIte, Nat.zero_le, Nat.reduceLeDiff, Nat.reduceAdd, e_10, e_01, e_00, e_11, Int32.reduceLE, Int32.reduceLT, Int32.reduceAdd, Int32.reduceSub, b01, if_true, if_false, ite_self, nl_add, nl_add', nl_mul, nI_add, in_t, cl_n, le_nn, lt_nn, le_ln, le_nl, lt_nl, lt_ln, eq_nn, eq_nl, in_lit, cl_lit, Nat.le_refl, Nat.add_zero, rc_0, gf_0_0, gf_0_1, gf_0_2, gf_0_3, gf_0_4, gf_0_5, gf_0_6, gf_0_7, gf_0_8, pf_0_8, gf_0_9, pf_0_9, rc_1, gf_1_0, pf_1_0, gf_1_1, gf_1_2, gf_1_3, pf_1_3, gf_1_4, pf_1_4, gf_1_5, pf_1_5, gf_1_6, pf_1_6, gf_1_7, pf_1_7, gf_1_8, gf_1_9, es, el, eb]
        · simp (disch := omega) only [iX9_read_0, iX9_read_1, iX9_read_2, iX9_read_5, iX9_read_8, iX9_read_10, iX9_read_11, iX9_read_12, iX9_read_15, iX9_read_18, iX9_read_21, iX9_read_22, iX9_read_23, iX9_read_24, iX9_read_27, iX9_read_29, iX9_read_30, iX9_read_32, iX9_read_33, iX9_read_35, iX9_read_36, iX9_read_38, iX9_read_39, true_or, or_true, Option.bind_some, Option.bind_none, kk_hp, kn_hp, el_i, el_b, el_z, am_cat_nil, am_cat_i, am_cat_r, am_cat_l, am_cat_n, gd_i, gd_r, gd_n, gd_u, List.length_cons, List.length_nil, true_and, and_true, ↓reduceIte, Nat.zero_le, Nat.reduceLeDiff, Nat.reduceAdd, e_10, e_01, e_00, e_11, Int32.reduceLE, Int32.reduceLT, Int32.reduceAdd, Int32.reduceSub, b01, if_true, if_false, ite_self, nl_add, nl_add', nl_mul, nI_add, in_t, cl_n, le_nn, lt_nn, le_ln, le_nl, lt_nl, lt_ln, eq_nn, eq_nl, in_lit, cl_lit, Nat.le_refl, Nat.add_zero, rc_82, gf_82_0, gf_82_1, gf_82_2, gf_82_3, gf_82_4, gf_82_5, gf_82_6, pf_82_6, gf_82_7, pf_82_7, gf_82_8, pf_82_8, gf_82_9, pf_82_9, gf_82_10, pf_82_10, gf_82_11, pf_82_11, gf_82_12, pf_82_12, gf_82_13, gf_82_14, gf_82_15, gf_82_16, pf_82_16, gf_82_17, gf_82_18, gf_82_19, gf_82_20, gf_82_21, gf_82_22, gf_82_23, gf_82_24, gf_82_25, pf_82_25, ga_83, wi_83, ga_84, wi_84, ga_85, wb_85, ga_86, wi_86, ga_87, wb_87, ga_88, wi_88, ga_89, wi_89, ga_90, wi_90, ga_91, wi_91, ga_92, wi_92, ga_93, wi_93, ga_94, wi_94, ga_95, wi_95, ga_96, wb_96, ga_97, wi_97, ga_98, wi_98, ga_99, wi_99, em0, en0]
    · rw [if_neg hl] at el
      have em0 := em M
      rw [if_neg (fun z => hl z.2)] at em0
      refine ⟨-1, M, M, ?_, ?_, h⟩
      · simp (disch := omega) only [iX8_read_0, iX8_read_1, iX8_read_2, iX8_read_5, iX8_read_5_n, iX8_read_7, iX8_read_7_n, iX8_read_9, iX8_read_9_n, iX8_read_12, iX8_read_13, iX8_read_16, iX8_read_19, iX8_read_21, iX8_read_22, iX8_read_24, iX8_read_27, iX8_read_30, iX8_read_31, iX8_read_32, iX8_read_33, iX8_read_36, iX8_read_39, iX8_read_41, iX8_read_42, iX8_read_44, iX8_read_45, iX8_read_47, iX8_read_48, true_or, or_true, Option.bind_some, Option.bind_none, kk_hp, kn_hp, el_i, el_b, el_z, am_cat_nil, am_cat_i, am_cat_r, am_cat_l, am_cat_n, gd_i, gd_r, gd_n, gd_u, List.length_cons, List.length_nil, true_and, and_true, ↓reduceIte, Nat.zero_le, Nat.reduceLeDiff, Nat.reduceAdd, e_10, e_01, e_00, e_11, Int32.reduceLE, Int32.reduceLT, Int32.reduceAdd, Int32.reduceSub, b01, if_true, if_false, ite_self, nl_add, nl_add', nl_mul, nI_add, in_t, cl_n, le_nn, lt_nn, le_ln, le_nl, lt_nl, lt_ln, eq_nn, eq_nl, in_lit, cl_lit, Nat.le_refl, Nat.add_zero, rc_0, gf_0_0, gf_0_1, gf_0_2, gf_0_3, gf_0_4, gf_0_5, gf_0_6, gf_0_7, gf_0_8, pf_0_8, gf_0_9, pf_0_9, rc_1, gf_1_0, pf_1_0, gf_1_1, gf_1_2, gf_1_3, pf_1_3, gf_1_4, pf_1_4, gf_1_5, pf_1_5, gf_1_6, pf_1_6, gf_1_7, pf_1_7, gf_1_8, gf_1_9, es, el]
      · simp (disch := omega) only [iX9_read_0, iX9_read_1, iX9_read_2, iX9_read_5, iX9_read_8, iX9_read_10, iX9_read_11, iX9_read_12, iX9_read_15, iX9_read_18, iX9_read_21, iX9_read_22, iX9_read_23, iX9_read_24, iX9_read_27, iX9_read_29, iX9_read_30, iX9_read_32, iX9_read_33, iX9_read_35, iX9_read_36, iX9_read_38, iX9_read_39, true_or, or_true, Option.bind_some, Option.bind_none, kk_hp, kn_hp, el_i, el_b, el_z, am_cat_nil, am_cat_i, am_cat_r, am_cat_l, am_cat_n, gd_i, gd_r, gd_n, gd_u, List.length_cons, List.length_nil, true_and, and_true, ↓reduceIte, Nat.zero_le, Nat.reduceLeDiff, Nat.reduceAdd, e_10, e_01, e_00, e_11, Int32.reduceLE, Int32.reduceLT, Int32.reduceAdd, Int32.reduceSub, b01, if_true, if_false, ite_self, nl_add, nl_add', nl_mul, nI_add, in_t, cl_n, le_nn, lt_nn, le_ln, le_nl, lt_nl, lt_ln, eq_nn, eq_nl, in_lit, cl_lit, Nat.le_refl, Nat.add_zero, rc_82, gf_82_0, gf_82_1, gf_82_2, gf_82_3, gf_82_4, gf_82_5, gf_82_6, pf_82_6, gf_82_7, pf_82_7, gf_82_8, pf_82_8, gf_82_9, pf_82_9, gf_82_10, pf_82_10, gf_82_11, pf_82_11, gf_82_12, pf_82_12, gf_82_13, gf_82_14, gf_82_15, gf_82_16, pf_82_16, gf_82_17, gf_82_18, gf_82_19, gf_82_20, gf_82_21, gf_82_22, gf_82_23, gf_82_24, gf_82_25, pf_82_25, ga_83, wi_83, ga_84, wi_84, ga_85, wb_85, ga_86, wi_86, ga_87, wb_87, ga_88, wi_88, ga_89, wi_89, ga_90, wi_90, ga_91, wi_91, ga_92, wi_92, ga_93, wi_93, ga_94, wi_94, ga_95, wi_95, ga_96, wb_96, ga_97, wi_97, ga_98, wi_98, ga_99, wi_99, em0]
  · have em0 := em M
    rw [if_neg (fun z => hk z.1)] at em0
    refine ⟨-1, M, M, ?_, ?_, h⟩
    · simp (disch := omega) only [iX8_read_0, iX8_read_1, iX8_read_2, iX8_read_5, iX8_read_5_n, iX8_read_7, iX8_read_7_n, iX8_read_9, iX8_read_9_n, iX8_read_12, iX8_read_13, iX8_read_16, iX8_read_19, iX8_read_21, iX8_read_22, iX8_read_24, iX8_read_27, iX8_read_30, iX8_read_31, iX8_read_32, iX8_read_33, iX8_read_36, iX8_read_39, iX8_read_41, iX8_read_42, iX8_read_44, iX8_read_45, iX8_read_47, iX8_read_48, true_or, or_true, Option.bind_some, Option.bind_none, kk_hp, kn_hp, el_i, el_b, el_z, am_cat_nil, am_cat_i, am_cat_r, am_cat_l, am_cat_n, gd_i, gd_r, gd_n, gd_u, List.length_cons, List.length_nil, true_and, and_true, ↓reduceIte, Nat.zero_le, Nat.reduceLeDiff, Nat.reduceAdd, e_10, e_01, e_00, e_11, Int32.reduceLE, Int32.reduceLT, Int32.reduceAdd, Int32.reduceSub, b01, if_true, if_false, ite_self, nl_add, nl_add', nl_mul, nI_add, in_t, cl_n, le_nn, lt_nn, le_ln, le_nl, lt_nl, lt_ln, eq_nn, eq_nl, in_lit, cl_lit, Nat.le_refl, Nat.add_zero, rc_0, gf_0_0, gf_0_1, gf_0_2, gf_0_3, gf_0_4, gf_0_5, gf_0_6, gf_0_7, gf_0_8, pf_0_8, gf_0_9, pf_0_9, rc_1, gf_1_0, pf_1_0, gf_1_1, gf_1_2, gf_1_3, pf_1_3, gf_1_4, pf_1_4, gf_1_5, pf_1_5, gf_1_6, pf_1_6, gf_1_7, pf_1_7, gf_1_8, gf_1_9, C_sheet0 hk]
    · simp (disch := omega) only [iX9_read_0, iX9_read_1, iX9_read_2, iX9_read_5, iX9_read_8, iX9_read_10, iX9_read_11, iX9_read_12, iX9_read_15, iX9_read_18, iX9_read_21, iX9_read_22, iX9_read_23, iX9_read_24, iX9_read_27, iX9_read_29, iX9_read_30, iX9_read_32, iX9_read_33, iX9_read_35, iX9_read_36, iX9_read_38, iX9_read_39, true_or, or_true, Option.bind_some, Option.bind_none, kk_hp, kn_hp, el_i, el_b, el_z, am_cat_nil, am_cat_i, am_cat_r, am_cat_l, am_cat_n, gd_i, gd_r, gd_n, gd_u, List.length_cons, List.length_nil, true_and, and_true, ↓reduceIte, Nat.zero_le, Nat.reduceLeDiff, Nat.reduceAdd, e_10, e_01, e_00, e_11, Int32.reduceLE, Int32.reduceLT, Int32.reduceAdd, Int32.reduceSub, b01, if_true, if_false, ite_self, nl_add, nl_add', nl_mul, nI_add, in_t, cl_n, le_nn, lt_nn, le_ln, le_nl, lt_nl, lt_ln, eq_nn, eq_nl, in_lit, cl_lit, Nat.le_refl, Nat.add_zero, rc_82, gf_82_0, gf_82_1, gf_82_2, gf_82_3, gf_82_4, gf_82_5, gf_82_6, pf_82_6, gf_82_7, pf_82_7, gf_82_8, pf_82_8, gf_82_9, pf_82_9, gf_82_10, pf_82_10, gf_82_11, pf_82_11, gf_82_12, pf_82_12, gf_82_13, gf_82_14, gf_82_15, gf_82_16, pf_82_16, gf_82_17, gf_82_18, gf_82_19, gf_82_20, gf_82_21, gf_82_22, gf_82_23, gf_82_24, gf_82_25, pf_82_25, ga_83, wi_83, ga_84, wi_84, ga_85, wb_85, ga_86, wi_86, ga_87, wb_87, ga_88, wi_88, ga_89, wi_89, ga_90, wi_90, ga_91, wi_91, ga_92, wi_92, ga_93, wi_93, ga_94, wi_94, ga_95, wi_95, ga_96, wb_96, ga_97, wi_97, ga_98, wi_98, ga_99, wi_99, em0]
end S87
