/-! lines: columns, ii -/
def cA (f : Nat → Int32) (j : Nat) : Nat → Nat → Int32
  | 0 => f
  | k + 1 => upd (cA f j k) (j + k) (cA f j k k)
theorem cp_all {f g dr : Nat → Int32} {j : Nat} (hj : 1 ≤ j) (hf : ∀ c, c < j → f c = dr (5 + c) ∧ g c = dr (11 + c) ∧ (dr (5 + c) = 2 → ∃ q, 1 ≤ q ∧ q ≤ 9 ∧ dr (11 + c) = nI q)) (k : Nat) (hk : j + k ≤ 6) : ∀ c, c < j + k → cA f j k c = cpR dr j k (5 + c) ∧ cA g j k c = cpR dr j k (11 + c) ∧ (cpR dr j k (5 + c) = 2 → ∃ q, 1 ≤ q ∧ q ≤ 9 ∧ cpR dr j k (11 + c) = nI q) := by
  induction k with
  | zero => intro c hc; exact hf c hc
  | succ k ih =>
    intro c hc
    have ih' := ih (by omega)
    rw [cA, cA, cpR]
    by_cases hck : c = j + k
    · subst hck
      rw [pk_us, pk_us, pk_us, pk_un (show 5 + (j + k) ≠ 11 + (j + k) by omega), pk_us]
      exact ih' k (by omega)
    · rw [pk_un hck, pk_un hck, pk_un (show 5 + c ≠ 11 + (j + k) by omega), pk_un (show 5 + c ≠ 5 + (j + k) by omega), pk_un (show 11 + c ≠ 11 + (j + k) by omega), pk_un (show 11 + c ≠ 5 + (j + k) by omega)]
      exact ih' c (by omega)
theorem ua2 (M : Nat → Nat → Int32) {a b : Nat} (f g : Nat → Int32) (i : Nat) (x : Int32) (h : a ≠ b) : up (ua (ua M a f) b g) a i x = ua (ua M a (upd f i x)) b g := by
  funext c
  by_cases h1 : c = a
  · subst h1; rw [up_s, ua_n _ _ h, ua_s, ua_n _ _ h, ua_s]
  · rw [up_n _ _ _ h1]
    by_cases h2 : c = b
    · subst h2; rw [ua_s, ua_s]
    · rw [ua_n _ _ h2, ua_n _ _ h1, ua_n _ _ h2, ua_n _ _ h1]
section S991
variable {X : am_X} {M : Nat → Nat → Int32}
theorem C_repeat {j tm : Nat} (hj : 1 ≤ j) (hj2 : j < 1000) (htm : 1 ≤ tm) (htm6 : tm ≤ 6) :
    (6 < j * tm → am_ev X kX6_repeatTracks 0 [.ref 12, .int (nI j), .int (nI tm), am_u] [] (hp M) = some (some (.int 0), hp (up (up M 12 2 5) 12 3 (M 13 3)))) ∧
    (j * tm ≤ 6 → am_ev X kX6_repeatTracks 0 [.ref 12, .int (nI j), .int (nI tm), am_u] [] (hp M) = some (some (.int 1), hp (up (ua (ua M 16 (cA (M 16) j (j * tm - j))) 17 (cA (M 17) j (j * tm - j))) 15 0 (nI (j * tm))))) := by
  have hle : j ≤ j * tm := Nat.le_mul_of_pos_right j htm
  have hub : j * tm ≤ j * 6 := Nat.mul_le_mul_left j htm6
  have er := @C_refuse X M 5
  constructor
  · intro h
    simp (disch := omega) only [iX6_repeatTracks_0, iX6_repeatTracks_1, iX6_repeatTracks_2, iX6_repeatTracks_3, iX6_repeatTracks_5, iX6_repeatTracks_8, iX6_repeatTracks_9, iX6_repeatTracks_10, iX6_repeatTracks_13, iX6_repeatTracks_14, iX6_repeatTracks_15, true_or, or_true, Option.bind_some, Option.bind_none, kk_hp, kn_hp, el_i, el_b, el_z, am_cat_nil, am_cat_i, am_cat_r, am_cat_l, am_cat_n, gd_i, gd_r, gd_n, gd_u, List.length_cons, List.length_nil, true_and, and_true, ↓reduceIte, Nat.zero_le, Nat.reduceLeDiff, Nat.reduceAdd, e_10, e_01, e_00, e_11, Int32.reduceLE, Int32.reduceLT, Int32.reduceAdd, Int32.reduceSub, b01, if_true, if_false, ite_self, rc_12, gf_12_0, gf_12_1, gf_12_2, pf_12_2, gf_12_3, pf_12_3, gf_12_4, pf_12_4, gf_12_5, pf_12_5, gf_12_6, pf_12_6, gf_12_7, pf_12_7, nl_add, nl_add', nl_mul, nI_add, in_t, cl_n, le_nn, lt_nn, le_ln, le_nl, lt_nl, lt_ln, eq_nn, eq_nl, in_lit, cl_lit, Nat.le_refl, Nat.add_zero, pk_mul, show ¬ j * tm ≤ 6 by omega, er]
  · intro h
    have hN : j * tm ≤ 6 := h
    generalize hNN : j * tm = N at *
    have e := chain (fun k => am_ev X kX6_repeatTracks 16 [.ref 12, .int (nI j), .int (nI tm), .int (nI (j + k))] [] (hp (ua (ua M 16 (cA (M 16) j k)) 17 (cA (M 17) j k)))) 0 (N - j) (by omega) (fun k _ hk => by
      have w16 : ∀ f g, (ua (ua M 16 f) 17 g) 16 = f := fun f g => by rw [ua_n _ _ (by decide), ua_s]
      have w17 : ∀ f g, (ua (ua M 16 f) 17 g) 17 = g := fun f g => ua_s _ _ _
      have ejk : j + k - j = k := by omega
      conv => lhs; rw [iX6_repeatTracks_16]
      simp (disch := omega) only [iX6_repeatTracks_17, iX6_repeatTracks_18, iX6_repeatTracks_19, iX6_repeatTracks_20, iX6_repeatTracks_23, iX6_repeatTracks_24, iX6_repeatTracks_27, iX6_repeatTracks_30, iX6_repeatTracks_31, iX6_repeatTracks_32, iX6_repeatTracks_35, iX6_repeatTracks_38, iX6_repeatTracks_39, iX6_repeatTracks_40, iX6_repeatTracks_41, iX6_repeatTracks_42, iX6_repeatTracks_43, iX6_repeatTracks_44, iX6_repeatTracks_47, iX6_repeatTracks_50, iX6_repeatTracks_51, iX6_repeatTracks_52, iX6_repeatTracks_55, iX6_repeatTracks_58, iX6_repeatTracks_59, iX6_repeatTracks_60, iX6_repeatTracks_61, iX6_repeatTracks_62, iX6_repeatTracks_63, iX6_repeatTracks_66, true_or, or_true, Option.bind_some, Option.bind_none, kk_hp, kn_hp, el_i, el_b, el_z, am_cat_nil, am_cat_i, am_cat_r, am_cat_l, am_cat_n, gd_i, gd_r, gd_n, gd_u, List.length_cons, List.length_nil, true_and, and_true, ↓reduceIte, Nat.zero_le, Nat.reduceLeDiff, Nat.reduceAdd, e_10, e_01, e_00, e_11, Int32.reduceLE, Int32.reduceLT, Int32.reduceAdd, Int32.reduceSub, b01, if_true, if_false, ite_self, rc_12, gf_12_0, gf_12_1, gf_12_2, pf_12_2, gf_12_3, pf_12_3, gf_12_4, pf_12_4, gf_12_5, pf_12_5, gf_12_6, pf_12_6, gf_12_7, pf_12_7, rc_15, gf_15_0, pf_15_0, gf_15_1, gf_15_2, gf_15_3, pf_15_3, gf_15_4, pf_15_4, gf_15_5, pf_15_5, gf_15_6, pf_15_6, gf_15_7, pf_15_7, gf_15_8, gf_15_9, ga_16, wi_16, ga_17, wi_17, nl_add, nl_add', nl_mul, nI_add, in_t, cl_n, le_nn, lt_nn, le_ln, le_nl, lt_nl, lt_ln, eq_nn, eq_nl, in_lit, cl_lit, Nat.le_refl, Nat.add_zero, pk_mul, hNN, show ¬ N ≤ j + k by omega, nI_sub', ejk, w16, w17, ua2, up_of, cA, ← Nat.add_assoc])
    have e0 : ua (ua M 16 (cA (M 16) j 0)) 17 (cA (M 17) j 0) = M := by
      show ua (ua M 16 (M 16)) 17 (M 17) = M
      rw [ua_self]; exact ua_self _ _
    rw [e0, Nat.add_zero] at e
    simp (disch := omega) only [iX6_repeatTracks_0, iX6_repeatTracks_1, iX6_repeatTracks_2, iX6_repeatTracks_3, iX6_repeatTracks_5, iX6_repeatTracks_14, iX6_repeatTracks_15, true_or, or_true, Option.bind_some, Option.bind_none, kk_hp, kn_hp, el_i, el_b, el_z, am_cat_nil, am_cat_i, am_cat_r, am_cat_l, am_cat_n, gd_i, gd_r, gd_n, gd_u, List.length_cons, List.length_nil, true_and, and_true, ↓reduceIte, Nat.zero_le, Nat.reduceLeDiff, Nat.reduceAdd, e_10, e_01, e_00, e_11, Int32.reduceLE, Int32.reduceLT, Int32.reduceAdd, Int32.reduceSub, b01, if_true, if_false, ite_self, rc_12, gf_12_0, gf_12_1, gf_12_2, pf_12_2, gf_12_3, pf_12_3, gf_12_4, pf_12_4, gf_12_5, pf_12_5, gf_12_6, pf_12_6, gf_12_7, pf_12_7, nl_add, nl_add', nl_mul, nI_add, in_t, cl_n, le_nn, lt_nn, le_ln, le_nl, lt_nl, lt_ln, eq_nn, eq_nl, in_lit, cl_lit, Nat.le_refl, Nat.add_zero, pk_mul, hNN, hN]
    rw [e, show j + (N - j) = N by omega]
    simp (disch := omega) only [iX6_repeatTracks_16, iX6_repeatTracks_17, iX6_repeatTracks_18, iX6_repeatTracks_19, iX6_repeatTracks_20, iX6_repeatTracks_69, iX6_repeatTracks_70, iX6_repeatTracks_73, iX6_repeatTracks_74, iX6_repeatTracks_75, iX6_repeatTracks_76, iX6_repeatTracks_79, iX6_repeatTracks_80, true_or, or_true, Option.bind_some, Option.bind_none, kk_hp, kn_hp, el_i, el_b, el_z, am_cat_nil, am_cat_i, am_cat_r, am_cat_l, am_cat_n, gd_i, gd_r, gd_n, gd_u, List.length_cons, List.length_nil, true_and, and_true, ↓reduceIte, Nat.zero_le, Nat.reduceLeDiff, Nat.reduceAdd, e_10, e_01, e_00, e_11, Int32.reduceLE, Int32.reduceLT, Int32.reduceAdd, Int32.reduceSub, b01, if_true, if_false, ite_self, rc_12, gf_12_0, gf_12_1, gf_12_2, pf_12_2, gf_12_3, pf_12_3, gf_12_4, pf_12_4, gf_12_5, pf_12_5, gf_12_6, pf_12_6, gf_12_7, pf_12_7, rc_15, gf_15_0, pf_15_0, gf_15_1, gf_15_2, gf_15_3, pf_15_3, gf_15_4, pf_15_4, gf_15_5, pf_15_5, gf_15_6, pf_15_6, gf_15_7, pf_15_7, gf_15_8, gf_15_9, nl_add, nl_add', nl_mul, nI_add, in_t, cl_n, le_nn, lt_nn, le_ln, le_nl, lt_nl, lt_ln, eq_nn, eq_nl, in_lit, cl_lit, Nat.le_refl, Nat.add_zero, pk_mul, hNN, Nat.le_refl]
theorem trF {tm j : Int32} {u3 u4 : Value} (h : 0 < M 82 11) : am_ev X kX9_readTracks 49 [.ref 82, .int tm, .int j, u3, u4] [] (hp M) = some (none, hp M) := by
  have hz : ¬ M 82 11 = 0 := fun z => by rw [z] at h; exact absurd h (by decide)
  simp (disch := omega) only [iX9_readTracks_49, iX9_readTracks_50, iX9_readTracks_53, iX9_readTracks_141, iX9_readTracks_142, iX9_readTracks_145, iX9_readTracks_166, iX9_readTracks_167, iX9_readTracks_170, iX9_readTracks_191, iX9_readTracks_192, iX9_readTracks_195, iX9_readTracks_260, true_or, or_true, Option.bind_some, Option.bind_none, kk_hp, kn_hp, el_i, el_b, el_z, am_cat_nil, am_cat_i, am_cat_r, am_cat_l, am_cat_n, gd_i, gd_r, gd_n, gd_u, List.length_cons, List.length_nil, true_and, and_true, ↓reduceIte, Nat.zero_le, Nat.reduceLeDiff, Nat.reduceAdd, e_10, e_01, e_00, e_11, Int32.reduceLE, Int32.reduceLT, Int32.reduceAdd, Int32.reduceSub, b01, if_true, if_false, ite_self, rc_82, gf_82_0, gf_82_1, gf_82_2, gf_82_3, gf_82_4, gf_82_5, gf_82_6, pf_82_6, gf_82_7, pf_82_7, gf_82_8, pf_82_8, gf_82_9, pf_82_9, gf_82_10, pf_82_10, gf_82_11, pf_82_11, gf_82_12, pf_82_12, gf_82_13, gf_82_14, gf_82_15, gf_82_16, pf_82_16, gf_82_17, gf_82_18, gf_82_19, gf_82_20, gf_82_21, gf_82_22, gf_82_23, gf_82_24, gf_82_25, pf_82_25, ga_83, wi_83, ga_84, wi_84, ga_85, wb_85, ga_86, wi_86, ga_87, wb_87, ga_88, wi_88, ga_89, wi_89, ga_90, wi_90, ga_91, wi_91, ga_92, wi_92, ga_93, wi_93, ga_94, wi_94, ga_95, wi_95, ga_96, wb_96, ga_97, wi_97, ga_98, wi_98, ga_99, wi_99, hz]
theorem trkS {n tm : Nat} {b : Nat → Nat} {d : Nat → Int32} {td : Nat → Bool} (hX : X.2.2 = .null ∨ X.2.2 = .ref 1200) (hd : dW d) (hnc : nC d = 0) (ht0 : td 0 = true) (htm : 1 ≤ tm) (htm6 : tm ≤ 6) (K : Nat → Nat → Int32) (p j : Nat) (dr : Nat → Int32)
    (IH : ∀ (K' : Nat → Nat → Int32) (p' j' : Nat) (dr' : Nat → Int32), n - p' < n - p → TP K' n b → CK K' n b p' → p' ≤ n → j' < p' → RG K' 15 d → tdC K' td → (j' = 0 → tkV n b p' ≠ -4) → (∀ x, x < 5 ∨ 17 ≤ x → dr' x = d x) → (∀ c, c < j' → c < 6 → K' 16 c = dr' (5 + c) ∧ K' 17 c = dr' (11 + c) ∧ (dr' (5 + c) = 2 → ∃ q, 1 ≤ q ∧ q ≤ 9 ∧ dr' (11 + c) = nI q)) → ∃ r v K'', am_ev X kX6_takeColumns 68 [.ref 12, .int (nI tm), .int (nI j')] [] (hp K') = some (some (.int v), hp K'') ∧ cX K' K'' ∧ lnC K' K'' n b p' td v r ∧
      ∀ (Mr : Nat → Nat → Int32) u u3 u4, TQ Mr n b → TK Mr n b p' → Mr 86 = dr' → tdM Mr td → ∃ Mr1 Mr', am_ev X kX9_readTracks 49 [.ref 82, .int (nI tm), .int (nI j'), u3, u4] [] (hp Mr) = some (none, hp Mr1) ∧ am_ev X kX9_readLine 107 [.ref 82, .int u] [] (hp Mr1) = some (none, hp Mr') ∧ rX Mr Mr' ∧ lnM Mr' n b td r) :
    TP K n b → CK K n b p → p ≤ n → j < p → RG K 15 d → tdC K td → (j = 0 → tkV n b p ≠ -4) → (∀ x, x < 5 ∨ 17 ≤ x → dr x = d x) → (∀ c, c < j → c < 6 → K 16 c = dr (5 + c) ∧ K 17 c = dr (11 + c) ∧ (dr (5 + c) = 2 → ∃ q, 1 ≤ q ∧ q ≤ 9 ∧ dr (11 + c) = nI q)) → 
    ∃ r v K', am_ev X kX6_takeColumns 68 [.ref 12, .int (nI tm), .int (nI j)] [] (hp K) = some (some (.int v), hp K') ∧ cX K K' ∧ lnC K K' n b p td v r ∧
      ∀ (Mr : Nat → Nat → Int32) u u3 u4, TQ Mr n b → TK Mr n b p → Mr 86 = dr → tdM Mr td → ∃ Mr1 Mr', am_ev X kX9_readTracks 49 [.ref 82, .int (nI tm), .int (nI j), u3, u4] [] (hp Mr) = some (none, hp Mr1) ∧ am_ev X kX9_readLine 107 [.ref 82, .int u] [] (hp Mr1) = some (none, hp Mr') ∧ rX Mr Mr' ∧ lnM Mr' n b td r := by
  intro ht hC hpn hjp hR htd hj0 hdr harr
  have hn := ht.1
  obtain ⟨g1, g2⟩ := @tB_ge n p b hpn
  obtain ⟨b1, b2, b3, b4⟩ := @tB_p n p b hpn
  have c2 := hC.1
  by_cases h3 : 1 ≤ j ∧ tK n b p = 3
  · -- the line's end
    obtain ⟨hj1, h3⟩ := h3
    have c3 : K 13 2 = 3 := by rw [c2, h3]; rfl
    have hso : sO n b p = none := by unfold sO; rw [if_neg (by omega), if_neg (by omega)]
    have htk := (@tkV_1 n p b (by omega)).1
    obtain ⟨rp1, rp2⟩ := @C_repeat X K j tm hj1 (by omega) htm htm6
    have enter : am_ev X kX6_takeColumns 68 [.ref 12, .int (nI tm), .int (nI j)] [] (hp K) = (am_ev X kX6_repeatTracks 0 [.ref 12, .int (nI j), .int (nI tm), am_u] [] (hp K)).bind (am_kk X kX6_takeColumns 119 [.ref 12, .int (nI tm), .int (nI j)] [] (hp K)) := by
      simp (disch := omega) only [iX6_takeColumns_68, iX6_takeColumns_69, iX6_takeColumns_72, iX6_takeColumns_73, iX6_takeColumns_76, iX6_takeColumns_79, iX6_takeColumns_80, iX6_takeColumns_83, iX6_takeColumns_86, iX6_takeColumns_87, iX6_takeColumns_113, iX6_takeColumns_114, iX6_takeColumns_115, iX6_takeColumns_116, true_or, or_true, Option.bind_some, Option.bind_none, kk_hp, kn_hp, el_i, el_b, el_z, am_cat_nil, am_cat_i, am_cat_r, am_cat_l, am_cat_n, gd_i, gd_r, gd_n, gd_u, List.length_cons, List.length_nil, true_and, and_true, ↓reduceIte, Nat.zero_le, Nat.reduceLeDiff, Nat.reduceAdd, e_10, e_01, e_00, e_11, Int32.reduceLE, Int32.reduceLT, Int32.reduceAdd, Int32.reduceSub, b01, if_true, if_false, ite_self, rc_12, gf_12_0, gf_12_1, gf_12_2, pf_12_2, gf_12_3, pf_12_3, gf_12_4, pf_12_4, gf_12_5, pf_12_5, gf_12_6, pf_12_6, gf_12_7, pf_12_7, rc_13, gf_13_0, gf_13_1, pf_13_1, gf_13_2, pf_13_2, gf_13_3, pf_13_3, gf_13_4, pf_13_4, gf_13_5, pf_13_5, nl_add, nl_add', nl_mul, nI_add, in_t, cl_n, le_nn, lt_nn, le_ln, le_nl, lt_nl, lt_ln, eq_nn, eq_nl, in_lit, cl_lit, Nat.le_refl, Nat.add_zero, show ¬ j = 0 by omega, show ¬ 320 ≤ j by omega, c3]
    have hub : j * tm ≤ j * 6 := Nat.mul_le_mul_left j htm6
    by_cases hN : j * tm ≤ 6
    · have e := rp2 hN
      have hle : j ≤ j * tm := Nat.le_mul_of_pos_right j htm
      generalize hNN : j * tm = N at *
      generalize hK' : up (ua (ua K 16 (cA (K 16) j (N - j))) 17 (cA (K 17) j (N - j))) 15 0 (nI N) = K' at *
      have k16 : K' 16 = cA (K 16) j (N - j) := by rw [← hK', up_n _ _ _ (by decide), ua_n _ _ (by decide), ua_s]
      have k17 : K' 17 = cA (K 17) j (N - j) := by rw [← hK', up_n _ _ _ (by decide), ua_s]
      have k15 : K' 15 = upd (K 15) 0 (nI N) := by rw [← hK', up_s, ua_n _ _ (by decide), ua_n _ _ (by decide)]
      have kx : ∀ a, a ≠ 15 → a ≠ 16 → a ≠ 17 → K' a = K a := fun a i1 i2 i3 => by rw [← hK', up_n _ _ _ i1, ua_n _ _ i3, ua_n _ _ i2]
      have cp := cp_all (f := K 16) (g := K 17) (dr := dr) hj1 (fun c hc => harr c hc (by omega)) (N - j) (by omega)
      have cpo : ∀ x, x < 5 ∨ 17 ≤ x → cpR dr j (N - j) x = d x := fun x hx => (cpR_o (by omega) hx).trans (hdr x hx)
      generalize hd' : upd (cpR dr j (N - j)) 0 (nI N) = d' at *
      have d'0 : d' 0 = nI N := by rw [← hd', pk_us]
      have d'x : ∀ x, x ≠ 0 → d' x = cpR dr j (N - j) x := fun x hx => by rw [← hd', pk_un hx]
      have en : nC d' = N := by unfold nC; rw [d'0, nI_clamp (by omega)]
      have em : mI d' = mI d := by unfold mI; rw [d'x 25 (by decide), cpo 25 (by omega)]
      have hR' : RG K' 15 d' := by
        obtain ⟨r1, r2, r3, r4⟩ := hR
        refine ⟨?_, fun c hc => ?_, fun v hv => ?_, fun i hi w hw => ?_⟩
        · rw [k15, d'0, d'x 1 (by decide), d'x 2 (by decide), d'x 3 (by decide), d'x 4 (by decide), d'x 25 (by decide), cpo 1 (by omega), cpo 2 (by omega), cpo 3 (by omega), cpo 4 (by omega), cpo 25 (by omega)]
          exact ⟨rfl, r1.2.1, r1.2.2.1, r1.2.2.2.1, r1.2.2.2.2.1, r1.2.2.2.2.2⟩
        · rw [en] at hc
          show K' 16 c = _ ∧ K' 17 c = _
          rw [k16, k17, d'x (5 + c) (by omega), d'x (11 + c) (by omega)]
          have := cp c (by omega)
          exact ⟨this.1, this.2.1⟩
        · rw [kx (15 + 10) (by decide) (by decide) (by decide), d'x (17 + v) (by omega), cpo (17 + v) (by omega)]; exact r3 v hv
        · rw [em] at hi
          rw [kx (15 + 4 + w) (by omega) (by omega) (by omega), d'x _ (by omega), cpo _ (by omega)]; exact r4 i hi w hw
      have hdW : dW d' := by
        obtain ⟨a1, a2, a3, a4, a5⟩ := hd
        refine ⟨by rw [en, d'0]; exact ⟨rfl, hN⟩, by rw [em, d'x 25 (by decide), cpo 25 (by omega)]; exact a2, fun i hi => dI_ext (a3 i (by omega)) (fun w _ => by rw [d'x _ (by omega), cpo _ (by omega)]), fun v hv => by rw [d'x _ (by omega), cpo _ (by omega)]; exact a4 v hv, fun c hc => ?_⟩
        rw [en] at hc
        rw [d'x (5 + c) (by omega), d'x (11 + c) (by omega)]
        exact (cp c (by omega)).2.2
      refine ⟨.inl (tB n b p, d'), 1, K', ?_, fun a i1 i2 i3 => kx a (by omega) (by omega) (by omega), ⟨rfl, TP_S ht (by rw [kx 13 (by decide) (by decide) (by decide)]; exact ht.2.1) (kx 14 (by decide) (by decide) (by decide)), by rw [kx 13 (by decide) (by decide) (by decide)]; exact hC.2.2.1, tB_3 hpn h3, g2, hR', hdW, fun q hq => by rw [kx 12 (by decide) (by decide) (by decide)]; exact htd q hq, by rw [kx 12 (by decide) (by decide) (by decide)], Or.inr ht0⟩, fun Mr u u3 u4 q1 q2 q3 q4 => ?_⟩
      · rw [enter, e]
        simp (disch := omega) only [iX6_takeColumns_119, true_or, or_true, Option.bind_some, Option.bind_none, kk_hp, kn_hp, el_i, el_b, el_z, am_cat_nil, am_cat_i, am_cat_r, am_cat_l, am_cat_n, gd_i, gd_r, gd_n, gd_u, List.length_cons, List.length_nil, true_and, and_true, ↓reduceIte, Nat.zero_le, Nat.reduceLeDiff, Nat.reduceAdd, e_10, e_01, e_00, e_11, Int32.reduceLE, Int32.reduceLT, Int32.reduceAdd, Int32.reduceSub, b01, if_true, if_false, ite_self]
      · obtain ⟨f0, k9⟩ := q2.2.2.2.1 (by omega)
        have eN := @M_trackName X Mr n p b q1 q2 hpn (by omega)
        rw [htk] at eN
        have k9' : Mr 82 9 = 3 := by rw [k9, h3]; rfl
        have ch := chain (fun k => am_ev X kX9_readTracks 200 [.ref 82, .int (nI tm), .int (nI j), .int (nI (j + k)), u4] [] (hp (ua Mr 86 (cpR dr j k)))) 0 (N - j) (by omega) (fun k _ hk => by
          have e5 : 5 + j + k - j = 5 + k := by omega
          have e11 : 11 + j + k - j = 11 + k := by omega
          have eu : upd (cpR dr j k) (5 + j + k) (cpR dr j k (5 + k)) (11 + k) = cpR dr j k (11 + k) := pk_un (by omega)
          conv => lhs; rw [iX9_readTracks_200]
          simp (disch := omega) only [iX9_readTracks_201, iX9_readTracks_202, iX9_readTracks_203, iX9_readTracks_204, iX9_readTracks_207, iX9_readTracks_208, iX9_readTracks_211, iX9_readTracks_212, iX9_readTracks_213, iX9_readTracks_214, iX9_readTracks_215, iX9_readTracks_218, iX9_readTracks_219, iX9_readTracks_220, iX9_readTracks_221, iX9_readTracks_222, iX9_readTracks_223, iX9_readTracks_224, iX9_readTracks_225, iX9_readTracks_226, iX9_readTracks_229, iX9_readTracks_231, iX9_readTracks_232, iX9_readTracks_233, iX9_readTracks_234, iX9_readTracks_237, iX9_readTracks_239, iX9_readTracks_240, iX9_readTracks_241, iX9_readTracks_242, iX9_readTracks_243, iX9_readTracks_244, iX9_readTracks_245, iX9_readTracks_248, true_or, or_true, Option.bind_some, Option.bind_none, kk_hp, kn_hp, el_i, el_b, el_z, am_cat_nil, am_cat_i, am_cat_r, am_cat_l, am_cat_n, gd_i, gd_r, gd_n, gd_u, List.length_cons, List.length_nil, true_and, and_true, ↓reduceIte, Nat.zero_le, Nat.reduceLeDiff, Nat.reduceAdd, e_10, e_01, e_00, e_11, Int32.reduceLE, Int32.reduceLT, Int32.reduceAdd, Int32.reduceSub, b01, if_true, if_false, ite_self, rc_82, gf_82_0, gf_82_1, gf_82_2, gf_82_3, gf_82_4, gf_82_5, gf_82_6, pf_82_6, gf_82_7, pf_82_7, gf_82_8, pf_82_8, gf_82_9, pf_82_9, gf_82_10, pf_82_10, gf_82_11, pf_82_11, gf_82_12, pf_82_12, gf_82_13, gf_82_14, gf_82_15, gf_82_16, pf_82_16, gf_82_17, gf_82_18, gf_82_19, gf_82_20, gf_82_21, gf_82_22, gf_82_23, gf_82_24, gf_82_25, pf_82_25, ga_83, wi_83, ga_84, wi_84, ga_85, wb_85, ga_86, wi_86, ga_87, wb_87, ga_88, wi_88, ga_89, wi_89, ga_90, wi_90, ga_91, wi_91, ga_92, wi_92, ga_93, wi_93, ga_94, wi_94, ga_95, wi_95, ga_96, wb_96, ga_97, wi_97, ga_98, wi_98, ga_99, wi_99, nl_add, nl_add', nl_mul, nI_add, in_t, cl_n, le_nn, lt_nn, le_ln, le_nl, lt_nl, lt_ln, eq_nn, eq_nl, in_lit, cl_lit, Nat.le_refl, Nat.add_zero, pk_mul, hNN, show ¬ N ≤ j + k by omega, nI_sub', e5, e11, up_of, ua_s, eu, cpR, ← Nat.add_assoc])
        have e0 : ua Mr 86 (cpR dr j 0) = Mr := by show ua Mr 86 dr = Mr; rw [← q3, ua_self]
        rw [e0, Nat.add_zero, show j + (N - j) = N by omega] at ch
        obtain ⟨R2, x1, x2, x3, x4⟩ := @M_tail X (ua Mr 86 d') n p b u (TQ_fr q1 rfl rfl) (TK_u q2 rfl) hpn
        refine ⟨ua Mr 86 d', R2, ?_, x1, rX_t rX_a (rX_S x2), TQ_S (M := ua Mr 86 d') (TQ_fr q1 rfl rfl) x2, x3 hso, ?_, fun q hq => ?_⟩
        · simp (disch := omega) only [iX9_readTracks_49, iX9_readTracks_50, iX9_readTracks_53, iX9_readTracks_56, iX9_readTracks_57, iX9_readTracks_60, iX9_readTracks_62, iX9_readTracks_141, iX9_readTracks_142, iX9_readTracks_145, iX9_readTracks_148, iX9_readTracks_149, iX9_readTracks_150, iX9_readTracks_153, iX9_readTracks_154, iX9_readTracks_157, iX9_readTracks_158, iX9_readTracks_161, iX9_readTracks_162, iX9_readTracks_163, iX9_readTracks_166, iX9_readTracks_167, iX9_readTracks_170, iX9_readTracks_173, iX9_readTracks_174, iX9_readTracks_175, iX9_readTracks_176, iX9_readTracks_177, iX9_readTracks_179, iX9_readTracks_182, iX9_readTracks_183, iX9_readTracks_186, iX9_readTracks_187, iX9_readTracks_188, iX9_readTracks_191, iX9_readTracks_192, iX9_readTracks_195, iX9_readTracks_198, iX9_readTracks_199, true_or, or_true, Option.bind_some, Option.bind_none, kk_hp, kn_hp, el_i, el_b, el_z, am_cat_nil, am_cat_i, am_cat_r, am_cat_l, am_cat_n, gd_i, gd_r, gd_n, gd_u, List.length_cons, List.length_nil, true_and, and_true, ↓reduceIte, Nat.zero_le, Nat.reduceLeDiff, Nat.reduceAdd, e_10, e_01, e_00, e_11, Int32.reduceLE, Int32.reduceLT, Int32.reduceAdd, Int32.reduceSub, b01, if_true, if_false, ite_self, rc_82, gf_82_0, gf_82_1, gf_82_2, gf_82_3, gf_82_4, gf_82_5, gf_82_6, pf_82_6, gf_82_7, pf_82_7, gf_82_8, pf_82_8, gf_82_9, pf_82_9, gf_82_10, pf_82_10, gf_82_11, pf_82_11, gf_82_12, pf_82_12, gf_82_13, gf_82_14, gf_82_15, gf_82_16, pf_82_16, gf_82_17, gf_82_18, gf_82_19, gf_82_20, gf_82_21, gf_82_22, gf_82_23, gf_82_24, gf_82_25, pf_82_25, ga_83, wi_83, ga_84, wi_84, ga_85, wb_85, ga_86, wi_86, ga_87, wb_87, ga_88, wi_88, ga_89, wi_89, ga_90, wi_90, ga_91, wi_91, ga_92, wi_92, ga_93, wi_93, ga_94, wi_94, ga_95, wi_95, ga_96, wb_96, ga_97, wi_97, ga_98, wi_98, ga_99, wi_99, nl_add, nl_add', nl_mul, nI_add, in_t, cl_n, le_nn, lt_nn, le_ln, le_nl, lt_nl, lt_ln, eq_nn, eq_nl, in_lit, cl_lit, Nat.le_refl, Nat.add_zero, f0, eN, k9', M_req1, pk_mul, hNN, show ¬ 6 < N by omega]
          rw [ch]
          simp (disch := omega) only [iX9_readTracks_200, iX9_readTracks_201, iX9_readTracks_202, iX9_readTracks_203, iX9_readTracks_204, iX9_readTracks_251, iX9_readTracks_252, iX9_readTracks_255, iX9_readTracks_256, iX9_readTracks_257, iX9_readTracks_258, iX9_readTracks_259, iX9_readTracks_260, true_or, or_true, Option.bind_some, Option.bind_none, kk_hp, kn_hp, el_i, el_b, el_z, am_cat_nil, am_cat_i, am_cat_r, am_cat_l, am_cat_n, gd_i, gd_r, gd_n, gd_u, List.length_cons, List.length_nil, true_and, and_true, ↓reduceIte, Nat.zero_le, Nat.reduceLeDiff, Nat.reduceAdd, e_10, e_01, e_00, e_11, Int32.reduceLE, Int32.reduceLT, Int32.reduceAdd, Int32.reduceSub, b01, if_true, if_false, ite_self, rc_82, gf_82_0, gf_82_1, gf_82_2, gf_82_3, gf_82_4, gf_82_5, gf_82_6, pf_82_6, gf_82_7, pf_82_7, gf_82_8, pf_82_8, gf_82_9, pf_82_9, gf_82_10, pf_82_10, gf_82_11, pf_82_11, gf_82_12, pf_82_12, gf_82_13, gf_82_14, gf_82_15, gf_82_16, pf_82_16, gf_82_17, gf_82_18, gf_82_19, gf_82_20, gf_82_21, gf_82_22, gf_82_23, gf_82_24, gf_82_25, pf_82_25, ga_83, wi_83, ga_84, wi_84, ga_85, wb_85, ga_86, wi_86, ga_87, wb_87, ga_88, wi_88, ga_89, wi_89, ga_90, wi_90, ga_91, wi_91, ga_92, wi_92, ga_93, wi_93, ga_94, wi_94, ga_95, wi_95, ga_96, wb_96, ga_97, wi_97, ga_98, wi_98, ga_99, wi_99, nl_add, nl_add', nl_mul, nI_add, in_t, cl_n, le_nn, lt_nn, le_ln, le_nl, lt_nl, lt_ln, eq_nn, eq_nl, in_lit, cl_lit, Nat.le_refl, Nat.add_zero, pk_mul, hNN, Nat.le_refl, up_of, hd']
        · rw [x2.1 86 (by decide), ua_s]
        · rw [x2.1 87 (by decide)]; exact q4 q hq
    · have e := rp1 (by omega)
      rw [hC.2.1] at e
      refine ⟨.inr (5, tS n b p), 0, up (up K 12 2 5) 12 3 (nI (tS n b p)), ?_, fun a i1 _ _ => by rw [up_n _ _ _ i1, up_n _ _ _ i1], ⟨rfl, ⟨rfl, rfl⟩, by decide⟩, fun Mr u u3 u4 q1 q2 q3 q4 => ?_⟩
      · rw [enter, e]
        simp (disch := omega) only [iX6_takeColumns_119, true_or, or_true, Option.bind_some, Option.bind_none, kk_hp, kn_hp, el_i, el_b, el_z, am_cat_nil, am_cat_i, am_cat_r, am_cat_l, am_cat_n, gd_i, gd_r, gd_n, gd_u, List.length_cons, List.length_nil, true_and, and_true, ↓reduceIte, Nat.zero_le, Nat.reduceLeDiff, Nat.reduceAdd, e_10, e_01, e_00, e_11, Int32.reduceLE, Int32.reduceLT, Int32.reduceAdd, Int32.reduceSub, b01, if_true, if_false, ite_self]
      · obtain ⟨f0, k9⟩ := q2.2.2.2.1 (by omega)
        have eN := @M_trackName X Mr n p b q1 q2 hpn (by omega)
        rw [htk] at eN
        have k9' : Mr 82 9 = 3 := by rw [k9, h3]; rfl
        have eq0 := @M_req0 X Mr 5 f0
        rw [q2.2.1] at eq0
        have u11 : (up (up Mr 82 11 5) 82 12 (nI (tS n b p))) 82 11 = 5 := rfl
        have hpos : (0 : Int32) < (up (up Mr 82 11 5) 82 12 (nI (tS n b p))) 82 11 := by rw [u11]; decide
        refine ⟨up (up Mr 82 11 5) 82 12 (nI (tS n b p)), up (up Mr 82 11 5) 82 12 (nI (tS n b p)), ?_, M_tailF hpos, ⟨fun a h1 _ _ => by rw [up_n _ _ _ h1, up_n _ _ _ h1], fun j hj => by rw [up_s, pk_un (by omega), up_s, pk_un (by omega)]⟩, rfl, rfl⟩
        simp (disch := omega) only [iX9_readTracks_49, iX9_readTracks_50, iX9_readTracks_53, iX9_readTracks_56, iX9_readTracks_57, iX9_readTracks_60, iX9_readTracks_62, iX9_readTracks_141, iX9_readTracks_142, iX9_readTracks_145, iX9_readTracks_148, iX9_readTracks_149, iX9_readTracks_150, iX9_readTracks_153, iX9_readTracks_154, iX9_readTracks_157, iX9_readTracks_158, iX9_readTracks_161, iX9_readTracks_162, iX9_readTracks_163, iX9_readTracks_166, iX9_readTracks_167, iX9_readTracks_170, iX9_readTracks_173, iX9_readTracks_174, iX9_readTracks_175, iX9_readTracks_176, iX9_readTracks_177, iX9_readTracks_179, iX9_readTracks_182, iX9_readTracks_183, iX9_readTracks_186, iX9_readTracks_187, iX9_readTracks_188, iX9_readTracks_191, iX9_readTracks_192, iX9_readTracks_195, iX9_readTracks_198, iX9_readTracks_199, iX9_readTracks_260, true_or, or_true, Option.bind_some, Option.bind_none, kk_hp, kn_hp, el_i, el_b, el_z, am_cat_nil, am_cat_i, am_cat_r, am_cat_l, am_cat_n, gd_i, gd_r, gd_n, gd_u, List.length_cons, List.length_nil, true_and, and_true, ↓reduceIte, Nat.zero_le, Nat.reduceLeDiff, Nat.reduceAdd, e_10, e_01, e_00, e_11, Int32.reduceLE, Int32.reduceLT, Int32.reduceAdd, Int32.reduceSub, b01, if_true, if_false, ite_self, rc_82, gf_82_0, gf_82_1, gf_82_2, gf_82_3, gf_82_4, gf_82_5, gf_82_6, pf_82_6, gf_82_7, pf_82_7, gf_82_8, pf_82_8, gf_82_9, pf_82_9, gf_82_10, pf_82_10, gf_82_11, pf_82_11, gf_82_12, pf_82_12, gf_82_13, gf_82_14, gf_82_15, gf_82_16, pf_82_16, gf_82_17, gf_82_18, gf_82_19, gf_82_20, gf_82_21, gf_82_22, gf_82_23, gf_82_24, gf_82_25, pf_82_25, ga_83, wi_83, ga_84, wi_84, ga_85, wb_85, ga_86, wi_86, ga_87, wb_87, ga_88, wi_88, ga_89, wi_89, ga_90, wi_90, ga_91, wi_91, ga_92, wi_92, ga_93, wi_93, ga_94, wi_94, ga_95, wi_95, ga_96, wb_96, ga_97, wi_97, ga_98, wi_98, ga_99, wi_99, nl_add, nl_add', nl_mul, nI_add, in_t, cl_n, le_nn, lt_nn, le_ln, le_nl, lt_nl, lt_ln, eq_nn, eq_nl, in_lit, cl_lit, Nat.le_refl, Nat.add_zero, f0, eN, k9', M_req1, pk_mul, show 6 < j * tm by omega, eq0, u11, show ¬ (5 : Int32) = 0 by decide]
  · -- a track
    obtain ⟨lt1, lt2⟩ := @Ltr X n p j b K hX ht hC hpn (by omega)
    have enter : am_ev X kX6_takeColumns 68 [.ref 12, .int (nI tm), .int (nI j)] [] (hp K) = am_ev X kX6_takeColumns 90 [.ref 12, .int (nI tm), .int (nI j)] [] (hp K) := by
      by_cases hj : j = 0
      · simp (disch := omega) only [iX6_takeColumns_68, iX6_takeColumns_69, true_or, or_true, Option.bind_some, Option.bind_none, kk_hp, kn_hp, el_i, el_b, el_z, am_cat_nil, am_cat_i, am_cat_r, am_cat_l, am_cat_n, gd_i, gd_r, gd_n, gd_u, List.length_cons, List.length_nil, true_and, and_true, ↓reduceIte, Nat.zero_le, Nat.reduceLeDiff, Nat.reduceAdd, e_10, e_01, e_00, e_11, Int32.reduceLE, Int32.reduceLT, Int32.reduceAdd, Int32.reduceSub, b01, if_true, if_false, ite_self, nl_add, nl_add', nl_mul, nI_add, in_t, cl_n, le_nn, lt_nn, le_ln, le_nl, lt_nl, lt_ln, eq_nn, eq_nl, in_lit, cl_lit, Nat.le_refl, Nat.add_zero, hj, eq_self]
      · have h3' : ¬ nI (tK n b p) = 3 := fun z => h3 ⟨by omega, nI_inj (by omega) (by decide) z⟩
        have h3'' : ¬ tK n b p = 3 := fun z => h3 ⟨by omega, z⟩
        simp (disch := omega) only [iX6_takeColumns_68, iX6_takeColumns_69, iX6_takeColumns_72, iX6_takeColumns_73, iX6_takeColumns_76, iX6_takeColumns_79, iX6_takeColumns_80, iX6_takeColumns_83, iX6_takeColumns_86, iX6_takeColumns_87, true_or, or_true, Option.bind_some, Option.bind_none, kk_hp, kn_hp, el_i, el_b, el_z, am_cat_nil, am_cat_i, am_cat_r, am_cat_l, am_cat_n, gd_i, gd_r, gd_n, gd_u, List.length_cons, List.length_nil, true_and, and_true, ↓reduceIte, Nat.zero_le, Nat.reduceLeDiff, Nat.reduceAdd, e_10, e_01, e_00, e_11, Int32.reduceLE, Int32.reduceLT, Int32.reduceAdd, Int32.reduceSub, b01, if_true, if_false, ite_self, rc_12, gf_12_0, gf_12_1, gf_12_2, pf_12_2, gf_12_3, pf_12_3, gf_12_4, pf_12_4, gf_12_5, pf_12_5, gf_12_6, pf_12_6, gf_12_7, pf_12_7, rc_13, gf_13_0, gf_13_1, pf_13_1, gf_13_2, pf_13_2, gf_13_3, pf_13_3, gf_13_4, pf_13_4, gf_13_5, pf_13_5, nl_add, nl_add', nl_mul, nI_add, in_t, cl_n, le_nn, lt_nn, le_ln, le_nl, lt_nl, lt_ln, eq_nn, eq_nl, in_lit, cl_lit, Nat.le_refl, Nat.add_zero, hj, show ¬ 320 ≤ j by omega, c2, h3', h3'']
    by_cases htk : tkV n b p = -4
    · have hj1 : 1 ≤ j := by
        rcases Nat.eq_zero_or_pos j with z | z
        · exact absurd htk (hj0 z)
        · exact z
      have h3'' : ¬ tK n b p = 3 := fun z => h3 ⟨hj1, z⟩
      have e := lt1 htk
      refine ⟨.inr (if tK n b p = 4 then 1 else 2, tS n b p), 0, up (up K 12 2 (if tK n b p = 4 then 1 else 2)) 12 3 (nI (tS n b p)), ?_, fun a i1 _ _ => by rw [up_n _ _ _ i1, up_n _ _ _ i1], ⟨rfl, ⟨rfl, rfl⟩, by split <;> decide⟩, fun Mr u u3 u4 q1 q2 q3 q4 => ?_⟩
      · rw [enter]
        simp (disch := omega) only [iX6_takeColumns_90, iX6_takeColumns_91, iX6_takeColumns_92, iX6_takeColumns_95, iX6_takeColumns_98, iX6_takeColumns_99, true_or, or_true, Option.bind_some, Option.bind_none, kk_hp, kn_hp, el_i, el_b, el_z, am_cat_nil, am_cat_i, am_cat_r, am_cat_l, am_cat_n, gd_i, gd_r, gd_n, gd_u, List.length_cons, List.length_nil, true_and, and_true, ↓reduceIte, Nat.zero_le, Nat.reduceLeDiff, Nat.reduceAdd, e_10, e_01, e_00, e_11, Int32.reduceLE, Int32.reduceLT, Int32.reduceAdd, Int32.reduceSub, b01, if_true, if_false, ite_self, rc_12, gf_12_0, gf_12_1, gf_12_2, pf_12_2, gf_12_3, pf_12_3, gf_12_4, pf_12_4, gf_12_5, pf_12_5, gf_12_6, pf_12_6, gf_12_7, pf_12_7, rc_13, gf_13_0, gf_13_1, pf_13_1, gf_13_2, pf_13_2, gf_13_3, pf_13_3, gf_13_4, pf_13_4, gf_13_5, pf_13_5, nl_add, nl_add', nl_mul, nI_add, in_t, cl_n, le_nn, lt_nn, le_ln, le_nl, lt_nl, lt_ln, eq_nn, eq_nl, in_lit, cl_lit, Nat.le_refl, Nat.add_zero, e]
      · by_cases h4 : tK n b p = 4
        · obtain ⟨f1, f2⟩ := q2.2.2.1 h4
          have hpos : (0 : Int32) < Mr 82 11 := by rw [f1]; decide
          exact ⟨Mr, Mr, trF hpos, M_tailF hpos, ⟨fun _ _ _ _ => rfl, fun _ _ => rfl⟩, by rw [if_pos h4]; exact ⟨f1, f2⟩⟩
        · obtain ⟨f0, k9⟩ := q2.2.2.2.1 h4
          have eN := @M_trackName X Mr n p b q1 q2 hpn h4
          rw [htk] at eN
          have eq0 := @M_req0 X Mr 2 f0
          rw [q2.2.1] at eq0
          have u11 : (up (up Mr 82 11 2) 82 12 (nI (tS n b p))) 82 11 = 2 := rfl
          have hpos : (0 : Int32) < (up (up Mr 82 11 2) 82 12 (nI (tS n b p))) 82 11 := by rw [u11]; decide
          refine ⟨up (up Mr 82 11 2) 82 12 (nI (tS n b p)), up (up Mr 82 11 2) 82 12 (nI (tS n b p)), ?_, M_tailF hpos, ⟨fun a h1 _ _ => by rw [up_n _ _ _ h1, up_n _ _ _ h1], fun j hj => by rw [up_s, pk_un (by omega), up_s, pk_un (by omega)]⟩, by rw [if_neg h4]; exact ⟨rfl, rfl⟩⟩
          simp (disch := omega) only [iX9_readTracks_49, iX9_readTracks_50, iX9_readTracks_53, iX9_readTracks_56, iX9_readTracks_57, iX9_readTracks_60, iX9_readTracks_62, iX9_readTracks_141, iX9_readTracks_142, iX9_readTracks_145, iX9_readTracks_148, iX9_readTracks_149, iX9_readTracks_150, iX9_readTracks_153, iX9_readTracks_154, iX9_readTracks_157, iX9_readTracks_158, iX9_readTracks_161, iX9_readTracks_162, iX9_readTracks_163, iX9_readTracks_166, iX9_readTracks_167, iX9_readTracks_170, iX9_readTracks_191, iX9_readTracks_192, iX9_readTracks_195, iX9_readTracks_260, true_or, or_true, Option.bind_some, Option.bind_none, kk_hp, kn_hp, el_i, el_b, el_z, am_cat_nil, am_cat_i, am_cat_r, am_cat_l, am_cat_n, gd_i, gd_r, gd_n, gd_u, List.length_cons, List.length_nil, true_and, and_true, ↓reduceIte, Nat.zero_le, Nat.reduceLeDiff, Nat.reduceAdd, e_10, e_01, e_00, e_11, Int32.reduceLE, Int32.reduceLT, Int32.reduceAdd, Int32.reduceSub, b01, if_true, if_false, ite_self, rc_82, gf_82_0, gf_82_1, gf_82_2, gf_82_3, gf_82_4, gf_82_5, gf_82_6, pf_82_6, gf_82_7, pf_82_7, gf_82_8, pf_82_8, gf_82_9, pf_82_9, gf_82_10, pf_82_10, gf_82_11, pf_82_11, gf_82_12, pf_82_12, gf_82_13, gf_82_14, gf_82_15, gf_82_16, pf_82_16, gf_82_17, gf_82_18, gf_82_19, gf_82_20, gf_82_21, gf_82_22, gf_82_23, gf_82_24, gf_82_25, pf_82_25, ga_83, wi_83, ga_84, wi_84, ga_85, wb_85, ga_86, wi_86, ga_87, wb_87, ga_88, wi_88, ga_89, wi_89, ga_90, wi_90, ga_91, wi_91, ga_92, wi_92, ga_93, wi_93, ga_94, wi_94, ga_95, wi_95, ga_96, wb_96, ga_97, wi_97, ga_98, wi_98, ga_99, wi_99, nl_add, nl_add', nl_mul, nI_add, in_t, cl_n, le_nn, lt_nn, le_ln, le_nl, lt_nl, lt_ln, eq_nn, eq_nl, in_lit, cl_lit, Nat.le_refl, Nat.add_zero, f0, eN, k9, h3'', eq0, u11, show ¬ (2 : Int32) = 0 by decide]
    · obtain ⟨r, v, K1, e, hcl, href⟩ := lt2 htk
      match r, hcl, href with
      | .inr (c, s), hcl, href =>
        obtain ⟨hv, hcf, hc0, hfr⟩ := hcl
        subst hv
        refine ⟨.inr (c, s), 0, K1, ?_, fun a i1 i2 _ => hfr a i1 i2, ⟨rfl, hcf, hc0⟩, fun Mr u u3 u4 q1 q2 q3 q4 => ?_⟩
        · rw [enter]
          simp (disch := omega) only [iX6_takeColumns_90, iX6_takeColumns_91, iX6_takeColumns_92, iX6_takeColumns_95, iX6_takeColumns_98, iX6_takeColumns_99, true_or, or_true, Option.bind_some, Option.bind_none, kk_hp, kn_hp, el_i, el_b, el_z, am_cat_nil, am_cat_i, am_cat_r, am_cat_l, am_cat_n, gd_i, gd_r, gd_n, gd_u, List.length_cons, List.length_nil, true_and, and_true, ↓reduceIte, Nat.zero_le, Nat.reduceLeDiff, Nat.reduceAdd, e_10, e_01, e_00, e_11, Int32.reduceLE, Int32.reduceLT, Int32.reduceAdd, Int32.reduceSub, b01, if_true, if_false, ite_self, rc_12, gf_12_0, gf_12_1, gf_12_2, pf_12_2, gf_12_3, pf_12_3, gf_12_4, pf_12_4, gf_12_5, pf_12_5, gf_12_6, pf_12_6, gf_12_7, pf_12_7, rc_13, gf_13_0, gf_13_1, pf_13_1, gf_13_2, pf_13_2, gf_13_3, pf_13_3, gf_13_4, pf_13_4, gf_13_5, pf_13_5, nl_add, nl_add', nl_mul, nI_add, in_t, cl_n, le_nn, lt_nn, le_ln, le_nl, lt_nl, lt_ln, eq_nn, eq_nl, in_lit, cl_lit, Nat.le_refl, Nat.add_zero, e]
        · obtain ⟨R, w3, w4, y1, y2, y3, y4⟩ := href Mr (nI tm) u3 u4 q1 q2
          have hpos : 0 < R 82 11 := by rw [y4.1]; exact hc0
          exact ⟨R, R, y1.trans (trF hpos), M_tailF hpos, y2, y4⟩
      | .inl (q', kd, nb), hcl, href =>
        obtain ⟨hv, z1, z2, z3, z4, z5, z6, z7, z8⟩ := hcl
        subst hv
        obtain ⟨K2, a1, a2, a3, a4, a5, a6, a7⟩ := @C_advance X K1 n q' b z1 z2 z4
        have kx : ∀ a, a ≠ 13 → a ≠ 16 → a ≠ 17 → K2 a = K a := fun a i1 i2 i3 => (a2 a i1).trans (z5 a i1 i2 i3)
        have hR2 : RG K2 15 d := by
          obtain ⟨r1, r2, r3, r4⟩ := hR
          refine ⟨by rw [kx 15 (by decide) (by decide) (by decide)]; exact r1, fun c hc => by omega, fun v hv => by rw [kx (15 + 10) (by decide) (by decide) (by decide)]; exact r3 v hv, fun i hi w hw => by rw [kx (15 + 4 + w) (by omega) (by omega) (by omega)]; exact r4 i hi w hw⟩
        obtain ⟨r2, v2, K3, w1, w2, w3, w4⟩ := IH K2 q' (j + 1) (if j < 6 then upd (upd dr (5 + j) kd) (11 + j) nb else dr) (by omega) (TP_S z1 a3 (a2 14 (by decide))) ⟨a4, a5, a6, a7⟩ z4 (by omega) hR2 (fun q hq => by rw [kx 12 (by decide) (by decide) (by decide)]; exact htd q hq) (fun z => by omega) (fun x hx => by
            by_cases hj6 : j < 6
            · rw [if_pos hj6, pk_un (by omega), pk_un (by omega)]; exact hdr x hx
            · rw [if_neg hj6]; exact hdr x hx) (fun c hc hc6 => by
            rw [a2 16 (by decide), a2 17 (by decide)]
            by_cases hcj : c = j
            · subst hcj
              obtain ⟨y1, y2⟩ := z7 hc6
              rw [if_pos hc6, pk_un (show 5 + c ≠ 11 + c by omega), pk_us, pk_us]
              exact ⟨y1, y2, z8⟩
            · obtain ⟨y1, y2⟩ := z6 c hcj
              have := harr c (by omega) hc6
              by_cases hj6 : j < 6
              · rw [y1, y2, if_pos hj6, pk_un (show 5 + c ≠ 11 + j by omega), pk_un (show 5 + c ≠ 5 + j by omega), pk_un (show 11 + c ≠ 11 + j by omega), pk_un (show 11 + c ≠ 5 + j by omega)]
                exact this
              · rw [y1, y2, if_neg hj6]
                exact this)
        refine ⟨r2, v2, K3, ?_, fun a i1 i2 i3 => by rw [w2 a i1 i2 i3, kx a i2 (by omega) (by omega)], ?_, fun Mr u u3 u4 q1 q2 q3 q4 => ?_⟩
        · rw [enter, ← w1]
          simp (disch := omega) only [iX6_takeColumns_90, iX6_takeColumns_91, iX6_takeColumns_92, iX6_takeColumns_95, iX6_takeColumns_98, iX6_takeColumns_99, iX6_takeColumns_100, iX6_takeColumns_103, iX6_takeColumns_104, iX6_takeColumns_107, iX6_takeColumns_110, true_or, or_true, Option.bind_some, Option.bind_none, kk_hp, kn_hp, el_i, el_b, el_z, am_cat_nil, am_cat_i, am_cat_r, am_cat_l, am_cat_n, gd_i, gd_r, gd_n, gd_u, List.length_cons, List.length_nil, true_and, and_true, ↓reduceIte, Nat.zero_le, Nat.reduceLeDiff, Nat.reduceAdd, e_10, e_01, e_00, e_11, Int32.reduceLE, Int32.reduceLT, Int32.reduceAdd, Int32.reduceSub, b01, if_true, if_false, ite_self, rc_12, gf_12_0, gf_12_1, gf_12_2, pf_12_2, gf_12_3, pf_12_3, gf_12_4, pf_12_4, gf_12_5, pf_12_5, gf_12_6, pf_12_6, gf_12_7, pf_12_7, rc_13, gf_13_0, gf_13_1, pf_13_1, gf_13_2, pf_13_2, gf_13_3, pf_13_3, gf_13_4, pf_13_4, gf_13_5, pf_13_5, nl_add, nl_add', nl_mul, nI_add, in_t, cl_n, le_nn, lt_nn, le_ln, le_nl, lt_nl, lt_ln, eq_nn, eq_nl, in_lit, cl_lit, Nat.le_refl, Nat.add_zero, e, a1]
        · match r2, w3 with
          | .inr (c, s), w3 => exact w3
          | .inl (q2, d2), ⟨y1, y2, y3, y4, y5, y6, y7, y8, y9, y10⟩ => exact ⟨y1, y2, y3, by omega, y5, y6, y7, y8, by rw [y9, kx 12 (by decide) (by decide) (by decide)], Or.inr ht0⟩
        · obtain ⟨R, x3, x4, y1, y2, y3, y4, y5⟩ := href Mr (nI tm) u3 u4 q1 q2
          obtain ⟨R1, R2, x1, x2, x5, x6⟩ := w4 R u x3 x4 (TQ_fr q1 (y2.2 6 (by decide)) (y2.1 88 (by decide) (by decide) (by decide))) y4 (by rw [y5, q3]) (fun q hq => by rw [y3]; exact q4 q hq)
          exact ⟨R1, R2, y1.trans x1, x2, rX_t y2 x5, x6⟩
theorem trk_l {n tm : Nat} {b : Nat → Nat} {d : Nat → Int32} {td : Nat → Bool} (hX : X.2.2 = .null ∨ X.2.2 = .ref 1200) (hd : dW d) (hnc : nC d = 0) (ht0 : td 0 = true) (htm : 1 ≤ tm) (htm6 : tm ≤ 6) (k : Nat) : ∀ (K : Nat → Nat → Int32) (p j : Nat) (dr : Nat → Int32), n - p ≤ k → TP K n b → CK K n b p → p ≤ n → j < p → RG K 15 d → tdC K td → (j = 0 → tkV n b p ≠ -4) → (∀ x, x < 5 ∨ 17 ≤ x → dr x = d x) → (∀ c, c < j → c < 6 → K 16 c = dr (5 + c) ∧ K 17 c = dr (11 + c) ∧ (dr (5 + c) = 2 → ∃ q, 1 ≤ q ∧ q ≤ 9 ∧ dr (11 + c) = nI q)) →
    ∃ r v K', am_ev X kX6_takeColumns 68 [.ref 12, .int (nI tm), .int (nI j)] [] (hp K) = some (some (.int v), hp K') ∧ cX K K' ∧ lnC K K' n b p td v r ∧
      ∀ (Mr : Nat → Nat → Int32) u u3 u4, TQ Mr n b → TK Mr n b p → Mr 86 = dr → tdM Mr td → ∃ Mr1 Mr', am_ev X kX9_readTracks 49 [.ref 82, .int (nI tm), .int (nI j), u3, u4] [] (hp Mr) = some (none, hp Mr1) ∧ am_ev X kX9_readLine 107 [.ref 82, .int u] [] (hp Mr1) = some (none, hp Mr') ∧ rX Mr Mr' ∧ lnM Mr' n b td r := by
  induction k with
  | zero =>
    intro K p j dr hk
    exact trkS hX hd hnc ht0 htm htm6 K p j dr (fun K' p' j' dr' z => by omega)
  | succ k ih =>
    intro K p j dr hk
    exact trkS hX hd hnc ht0 htm htm6 K p j dr (fun K' p' j' dr' z a1 a2 a3 a4 a5 a6 a7 a8 a9 => ih K' p' j' dr' (by omega) a1 a2 a3 a4 a5 a6 a7 a8 a9)
end S991
