/-! lines: an item -/
theorem upd_cm (f : Nat → Int32) {i j : Nat} (x y : Int32) (h : i ≠ j) : upd (upd f i x) j y = upd (upd f j y) i x := by
  funext k
  by_cases h1 : k = j
  · rw [h1, pk_us, pk_un (fun z => h z.symm), pk_us]
  · rw [pk_un h1]
    by_cases h2 : k = i
    · rw [h2, pk_us, pk_us]
    · rw [pk_un h2, pk_un h2, pk_un h1]
theorem upd_2 (f : Nat → Int32) (i : Nat) (x y : Int32) : upd (upd f i x) i y = upd f i y := by
  funext k
  by_cases h1 : k = i
  · rw [h1, pk_us, pk_us]
  · rw [pk_un h1, pk_un h1, pk_un h1]
theorem RG_fact {K K' : Nat → Nat → Int32} {g : Nat} {d : Nat → Int32} {i w : Nat} {x : Int32} (h : RG K g d) (hi : i < mI d) (hw : w < 6) (hn : nC d ≤ 6) (e : ∀ a, a ≠ g + 4 + w → g ≤ a → a ≤ g + 10 → K' a = K a) (e2 : K' (g + 4 + w) = upd (K (g + 4 + w)) i x) : RG K' g (upd d (26 + 6 * i + w) x) := by
  obtain ⟨x1, x2, x3, x4⟩ := h
  have en : nC (upd d (26 + 6 * i + w) x) = nC d := by unfold nC; rw [pk_un (by omega)]
  have em : mI (upd d (26 + 6 * i + w) x) = mI d := by unfold mI; rw [pk_un (by omega)]
  refine ⟨?_, fun c hc => ?_, fun y hy => ?_, fun j hj w' hw' => ?_⟩
  · rw [e g (by omega) (by omega) (by omega), pk_un (by omega), pk_un (by omega), pk_un (by omega), pk_un (by omega), pk_un (by omega), pk_un (by omega)]; exact x1
  · rw [en] at hc
    rw [e (g + 1) (by omega) (by omega) (by omega), e (g + 2) (by omega) (by omega) (by omega), pk_un (by omega), pk_un (by omega)]; exact x2 c hc
  · rw [e (g + 10) (by omega) (by omega) (by omega), pk_un (by omega)]; exact x3 y hy
  · rw [em] at hj
    by_cases hww : w' = w
    · subst hww
      rw [e2]
      by_cases hji : j = i
      · rw [hji, pk_us, pk_us]
      · rw [pk_un hji, pk_un (by omega)]; exact x4 j hj w' hw'
    · rw [e (g + 4 + w') (by omega) (by omega) (by omega), pk_un (by omega)]; exact x4 j hj w' hw'
def cntP (pc pr : Int32) : Nat := (if pc = -4 then 1 else 0) + if pr = -4 then 1 else 0
theorem pn_1 {n p : Nat} {b : Nat → Nat} (h : tK n b p ≠ 1) : pnV n b p = -4 := by
  have hf : ∀ i, i < 13 → nmE n b p i = false := fun i hi => by
    cases hh : nmE n b p i with
    | false => rfl
    | true => exact absurd (nm_f hi hh).1 h
  unfold pnV
  rw [hf 11 (by decide), hf 12 (by decide), hf 10 (by decide)]
  rfl
theorem dW_pin {d : Nat → Int32} {i : Nat} {pc pr : Int32} (h : dW d) (hi : i < mI d) (h1 : (∃ c, c ≤ 6 ∧ pc = nI c) ∨ pc = d (26 + 6 * i + 4)) (h2 : (∃ r, r ≤ 11 ∧ pr = nI r) ∨ pr = d (26 + 6 * i + 5)) : dW (upd (upd d (26 + 6 * i + 4) pc) (26 + 6 * i + 5) pr) := by
  obtain ⟨a1, a2, a3, a4, a5⟩ := h
  have e : ∀ j, j ≠ 26 + 6 * i + 4 → j ≠ 26 + 6 * i + 5 → upd (upd d (26 + 6 * i + 4) pc) (26 + 6 * i + 5) pr j = d j := fun j z1 z2 => by rw [pk_un z2, pk_un z1]
  have en : nC (upd (upd d (26 + 6 * i + 4) pc) (26 + 6 * i + 5) pr) = nC d := by unfold nC; rw [e 0 (by omega) (by omega)]
  have em : mI (upd (upd d (26 + 6 * i + 4) pc) (26 + 6 * i + 5) pr) = mI d := by unfold mI; rw [e 25 (by omega) (by omega)]
  refine ⟨by rw [e 0 (by omega) (by omega), en]; exact a1, by rw [e 25 (by omega) (by omega), em]; exact a2, fun j hj => ?_, fun v hv => by rw [e _ (by omega) (by omega)]; exact a4 v hv, fun c hc => by rw [e _ (by omega) (by omega), e _ (by omega) (by omega)]; exact a5 c (by omega)⟩
  by_cases hji : j = i
  · subst hji
    have := a3 j hi
    unfold dI at this ⊢
    rw [e (26 + 6 * j) (by omega) (by omega), e (26 + 6 * j + 1) (by omega) (by omega), pk_un (show 26 + 6 * j + 4 ≠ 26 + 6 * j + 5 by omega), pk_us, pk_us]
    refine ⟨this.1, this.2.1, ?_, ?_⟩
    · rcases h1 with ⟨c, hc, z⟩ | z
      · exact Or.inr ⟨c, hc, z⟩
      · rw [z]; exact this.2.2.1
    · rcases h2 with ⟨c, hc, z⟩ | z
      · exact Or.inr ⟨c, hc, z⟩
      · rw [z]; exact this.2.2.2
  · exact dI_ext (a3 j (by omega)) (fun w _ => e _ (by omega) (by omega))
section S97
variable {X : am_X} {M : Nat → Nat → Int32}
theorem pinsS {n m : Nat} {b : Nat → Nat} {td : Nat → Bool} (hX : X.2.2 = .null ∨ X.2.2 = .ref 1200) (hm : m < 10) (k : Nat) (K : Nat → Nat → Int32) (p : Nat) (dk : Nat → Int32) (hk : k ≤ 2) (hcn : cntP (dk (26 + 6 * m + 4)) (dk (26 + 6 * m + 5)) = k) (ht : TP K n b) (hC : CK K n b p) (hpn : p ≤ n) (hR : RG K 15 dk) (hd : dW dk) (hmi : mI dk = m + 1) (htd : tdC K td)
    (IH : ∀ (K' : Nat → Nat → Int32) (p' : Nat) (dk' : Nat → Int32), 0 < k → cntP (dk' (26 + 6 * m + 4)) (dk' (26 + 6 * m + 5)) = k - 1 → TP K' n b → CK K' n b p' → p' ≤ n → RG K' 15 dk' → dW dk' → mI dk' = m + 1 → tdC K' td → ∃ r v K'', am_ev X kX6_takeItemLine 87 [.ref 12, .int (nI m), .int (nI (2 - (k - 1)))] [] (hp K') = some (some (.int v), hp K'') ∧ cX K' K'' ∧ lnC K' K'' n b p' td v r ∧
      ∀ (Mr : Nat → Nat → Int32) u, TQ Mr n b → TK Mr n b p' → Mr 86 = upd dk' 25 (nI m) → tdM Mr td → ∃ Mr1 Mr', am_ev X kX9_readItem 93 [.ref 82, .int (nI (26 + 6 * m))] [] (hp Mr) = some (none, hp Mr1) ∧ am_ev X kX9_readLine 107 [.ref 82, .int u] [] (hp Mr1) = some (none, hp Mr') ∧ rX Mr Mr' ∧ lnM Mr' n b td r) :
    ∃ r v K', am_ev X kX6_takeItemLine 87 [.ref 12, .int (nI m), .int (nI (2 - k))] [] (hp K) = some (some (.int v), hp K') ∧ cX K K' ∧ lnC K K' n b p td v r ∧
      ∀ (Mr : Nat → Nat → Int32) u, TQ Mr n b → TK Mr n b p → Mr 86 = upd dk 25 (nI m) → tdM Mr td → ∃ Mr1 Mr', am_ev X kX9_readItem 93 [.ref 82, .int (nI (26 + 6 * m))] [] (hp Mr) = some (none, hp Mr1) ∧ am_ev X kX9_readLine 107 [.ref 82, .int u] [] (hp Mr1) = some (none, hp Mr') ∧ rX Mr Mr' ∧ lnM Mr' n b td r := by
  have hn := ht.1
  obtain ⟨g1, g2⟩ := @tB_ge n p b hpn
  obtain ⟨b1, b2, b3, b4⟩ := @tB_p n p b hpn
  have h25 : dk 25 = nI (m + 1) := by rw [hd.2.1.1, hmi]
  have c2 := hC.1
  have fin : ∀ (Mr : Nat → Nat → Int32), TQ Mr n b → TK Mr n b p → Mr 86 = upd dk 25 (nI m) → (tK n b p = 4 ∨ pnV n b p = -4) → am_ev X kX9_readItem 93 [.ref 82, .int (nI (26 + 6 * m))] [] (hp Mr) = some (none, hp (up Mr 86 25 (nI (m + 1)))) := by
    intro Mr q1 q2 q3 hor
    have q25 : Mr 86 25 = nI m := by rw [q3, pk_us]
    by_cases h4 : tK n b p = 4
    · have f1 := (q2.2.2.1 h4).1
      simp (disch := omega) only [iX9_readItem_93, iX9_readItem_94, iX9_readItem_97, iX9_readItem_117, iX9_readItem_118, iX9_readItem_121, iX9_readItem_123, iX9_readItem_124, iX9_readItem_125, iX9_readItem_126, iX9_readItem_127, iX9_readItem_128, true_or, or_true, Option.bind_some, Option.bind_none, kk_hp, kn_hp, el_i, el_b, el_z, am_cat_nil, am_cat_i, am_cat_r, am_cat_l, am_cat_n, gd_i, gd_r, gd_n, gd_u, List.length_cons, List.length_nil, true_and, and_true, ↓reduceIte, Nat.zero_le, Nat.reduceLeDiff, Nat.reduceAdd, e_10, e_01, e_00, e_11, Int32.reduceLE, Int32.reduceLT, Int32.reduceAdd, Int32.reduceSub, b01, if_true, if_false, ite_self, rc_82, gf_82_0, gf_82_1, gf_82_2, gf_82_3, gf_82_4, gf_82_5, gf_82_6, pf_82_6, gf_82_7, pf_82_7, gf_82_8, pf_82_8, gf_82_9, pf_82_9, gf_82_10, pf_82_10, gf_82_11, pf_82_11, gf_82_12, pf_82_12, gf_82_13, gf_82_14, gf_82_15, gf_82_16, pf_82_16, gf_82_17, gf_82_18, gf_82_19, gf_82_20, gf_82_21, gf_82_22, gf_82_23, gf_82_24, gf_82_25, pf_82_25, ga_83, wi_83, ga_84, wi_84, ga_85, wb_85, ga_86, wi_86, ga_87, wb_87, ga_88, wi_88, ga_89, wi_89, ga_90, wi_90, ga_91, wi_91, ga_92, wi_92, ga_93, wi_93, ga_94, wi_94, ga_95, wi_95, ga_96, wb_96, ga_97, wi_97, ga_98, wi_98, ga_99, wi_99, nl_add, nl_add', nl_mul, nI_add, in_t, cl_n, le_nn, lt_nn, le_ln, le_nl, lt_nl, lt_ln, eq_nn, eq_nl, in_lit, cl_lit, Nat.le_refl, Nat.add_zero, f1, show ¬ (1 : Int32) = 0 by decide, q25]
    · have f0 := (q2.2.2.2.1 h4).1
      have eN := @M_pinName X Mr n p b q1 q2 hpn h4
      rw [hor.resolve_left h4] at eN
      simp (disch := omega) only [iX9_readItem_93, iX9_readItem_94, iX9_readItem_97, iX9_readItem_100, iX9_readItem_101, iX9_readItem_104, iX9_readItem_106, iX9_readItem_117, iX9_readItem_118, iX9_readItem_121, iX9_readItem_123, iX9_readItem_124, iX9_readItem_125, iX9_readItem_126, iX9_readItem_127, iX9_readItem_128, true_or, or_true, Option.bind_some, Option.bind_none, kk_hp, kn_hp, el_i, el_b, el_z, am_cat_nil, am_cat_i, am_cat_r, am_cat_l, am_cat_n, gd_i, gd_r, gd_n, gd_u, List.length_cons, List.length_nil, true_and, and_true, ↓reduceIte, Nat.zero_le, Nat.reduceLeDiff, Nat.reduceAdd, e_10, e_01, e_00, e_11, Int32.reduceLE, Int32.reduceLT, Int32.reduceAdd, Int32.reduceSub, b01, if_true, if_false, ite_self, rc_82, gf_82_0, gf_82_1, gf_82_2, gf_82_3, gf_82_4, gf_82_5, gf_82_6, pf_82_6, gf_82_7, pf_82_7, gf_82_8, pf_82_8, gf_82_9, pf_82_9, gf_82_10, pf_82_10, gf_82_11, pf_82_11, gf_82_12, pf_82_12, gf_82_13, gf_82_14, gf_82_15, gf_82_16, pf_82_16, gf_82_17, gf_82_18, gf_82_19, gf_82_20, gf_82_21, gf_82_22, gf_82_23, gf_82_24, gf_82_25, pf_82_25, ga_83, wi_83, ga_84, wi_84, ga_85, wb_85, ga_86, wi_86, ga_87, wb_87, ga_88, wi_88, ga_89, wi_89, ga_90, wi_90, ga_91, wi_91, ga_92, wi_92, ga_93, wi_93, ga_94, wi_94, ga_95, wi_95, ga_96, wb_96, ga_97, wi_97, ga_98, wi_98, ga_99, wi_99, nl_add, nl_add', nl_mul, nI_add, in_t, cl_n, le_nn, lt_nn, le_ln, le_nl, lt_nl, lt_ln, eq_nn, eq_nl, in_lit, cl_lit, Nat.le_refl, Nat.add_zero, f0, eN, q25]
  have m86 : ∀ (Mr : Nat → Nat → Int32), Mr 86 = upd dk 25 (nI m) → (up Mr 86 25 (nI (m + 1))) 86 = dk := fun Mr q3 => by rw [up_s, q3, upd_2, ← h25]; exact upd_id _ _ _ rfl
  by_cases h3 : tK n b p = 3
  · have c3 : K 13 2 = 3 := by rw [c2, h3]; rfl
    have hso : sO n b p = none := by unfold sO; rw [if_neg (by omega), if_neg (by omega)]
    refine ⟨.inl (tB n b p, dk), 1, K, ?_, fun _ _ _ _ => rfl, ⟨rfl, ht, hC.2.2.1, tB_3 hpn h3, g2, hR, hd, htd, rfl, Or.inl rfl⟩, fun Mr u q1 q2 q3 q4 => ?_⟩
    · by_cases hk0 : 2 ≤ 2 - k
      · simp (disch := omega) only [iX6_takeItemLine_87, iX6_takeItemLine_88, iX6_takeItemLine_89, iX6_takeItemLine_92, iX6_takeItemLine_93, iX6_takeItemLine_96, iX6_takeItemLine_99, iX6_takeItemLine_100, iX6_takeItemLine_126, iX6_takeItemLine_127, iX6_takeItemLine_130, iX6_takeItemLine_133, iX6_takeItemLine_134, iX6_takeItemLine_137, iX6_takeItemLine_138, iX6_takeItemLine_139, iX6_takeItemLine_142, iX6_takeItemLine_145, iX6_takeItemLine_146, iX6_takeItemLine_149, iX6_takeItemLine_150, true_or, or_true, Option.bind_some, Option.bind_none, kk_hp, kn_hp, el_i, el_b, el_z, am_cat_nil, am_cat_i, am_cat_r, am_cat_l, am_cat_n, gd_i, gd_r, gd_n, gd_u, List.length_cons, List.length_nil, true_and, and_true, ↓reduceIte, Nat.zero_le, Nat.reduceLeDiff, Nat.reduceAdd, e_10, e_01, e_00, e_11, Int32.reduceLE, Int32.reduceLT, Int32.reduceAdd, Int32.reduceSub, b01, if_true, if_false, ite_self, rc_12, gf_12_0, gf_12_1, gf_12_2, pf_12_2, gf_12_3, pf_12_3, gf_12_4, pf_12_4, gf_12_5, pf_12_5, gf_12_6, pf_12_6, gf_12_7, pf_12_7, rc_13, gf_13_0, gf_13_1, pf_13_1, gf_13_2, pf_13_2, gf_13_3, pf_13_3, gf_13_4, pf_13_4, gf_13_5, pf_13_5, nl_add, nl_add', nl_mul, nI_add, in_t, cl_n, le_nn, lt_nn, le_ln, le_nl, lt_nl, lt_ln, eq_nn, eq_nl, in_lit, cl_lit, Nat.le_refl, Nat.add_zero, c3, hk0]
      · simp (disch := omega) only [iX6_takeItemLine_87, iX6_takeItemLine_88, iX6_takeItemLine_89, iX6_takeItemLine_92, iX6_takeItemLine_93, iX6_takeItemLine_96, iX6_takeItemLine_99, iX6_takeItemLine_100, iX6_takeItemLine_126, iX6_takeItemLine_127, iX6_takeItemLine_130, iX6_takeItemLine_133, iX6_takeItemLine_134, iX6_takeItemLine_137, iX6_takeItemLine_138, iX6_takeItemLine_139, iX6_takeItemLine_142, iX6_takeItemLine_145, iX6_takeItemLine_146, iX6_takeItemLine_149, iX6_takeItemLine_150, true_or, or_true, Option.bind_some, Option.bind_none, kk_hp, kn_hp, el_i, el_b, el_z, am_cat_nil, am_cat_i, am_cat_r, am_cat_l, am_cat_n, gd_i, gd_r, gd_n, gd_u, List.length_cons, List.length_nil, true_and, and_true, ↓reduceIte, Nat.zero_le, Nat.reduceLeDiff, Nat.reduceAdd, e_10, e_01, e_00, e_11, Int32.reduceLE, Int32.reduceLT, Int32.reduceAdd, Int32.reduceSub, b01, if_true, if_false, ite_self, rc_12, gf_12_0, gf_12_1, gf_12_2, pf_12_2, gf_12_3, pf_12_3, gf_12_4, pf_12_4, gf_12_5, pf_12_5, gf_12_6, pf_12_6, gf_12_7, pf_12_7, rc_13, gf_13_0, gf_13_1, pf_13_1, gf_13_2, pf_13_2, gf_13_3, pf_13_3, gf_13_4, pf_13_4, gf_13_5, pf_13_5, nl_add, nl_add', nl_mul, nI_add, in_t, cl_n, le_nn, lt_nn, le_ln, le_nl, lt_nl, lt_ln, eq_nn, eq_nl, in_lit, cl_lit, Nat.le_refl, Nat.add_zero, c3, hk0]
    · obtain ⟨R2, x1, x2, x3, x4⟩ := @M_tail X (up Mr 86 25 (nI (m + 1))) n p b u (TQ_fr q1 rfl rfl) (TK_u q2 rfl) hpn
      refine ⟨_, R2, fin Mr q1 q2 q3 (Or.inr (pn_1 (by omega))), x1, rX_t rX_u (rX_S x2), TQ_S (M := up Mr 86 25 (nI (m + 1))) (TQ_fr q1 rfl rfl) x2, x3 hso, ?_, fun j hj => ?_⟩
      · rw [x2.1 86 (by decide), m86 Mr q3]
      · rw [x2.1 87 (by decide)]; exact q4 j hj
  · have h3' : ¬ nI (tK n b p) = 3 := fun z => h3 (nI_inj (by omega) (by decide) z)
    obtain ⟨lp1, lp2⟩ := @Lpin X n p m b dk (dk (26 + 6 * m + 4)) (dk (26 + 6 * m + 5)) K hX ht hC hpn hm (hR.2.2.2 m (by omega) 4 (by decide)) (hR.2.2.2 m (by omega) 5 (by decide)) hR.2.2.1 hd.2.2.2.1
    by_cases hpv : pnV n b p = -4
    · have e := lp1 hpv
      have hso : sO n b p = some (if tK n b p = 4 then 1 else 2) := by
        unfold sO
        by_cases h4 : tK n b p = 4
        · rw [if_pos h4, if_pos h4]
        · rw [if_neg h4, if_pos h3, if_neg h4]
      refine ⟨.inr (if tK n b p = 4 then 1 else 2, tS n b p), 0, up (up K 12 2 (if tK n b p = 4 then 1 else 2)) 12 3 (nI (tS n b p)), ?_, fun a i1 _ _ => by rw [up_n _ _ _ i1, up_n _ _ _ i1], ⟨rfl, ⟨rfl, rfl⟩, by split <;> decide⟩, fun Mr u q1 q2 q3 q4 => ?_⟩
      · by_cases hk0 : 2 ≤ 2 - k
        · simp (disch := omega) only [iX6_takeItemLine_87, iX6_takeItemLine_88, iX6_takeItemLine_89, iX6_takeItemLine_92, iX6_takeItemLine_93, iX6_takeItemLine_96, iX6_takeItemLine_99, iX6_takeItemLine_100, iX6_takeItemLine_126, iX6_takeItemLine_127, iX6_takeItemLine_130, iX6_takeItemLine_133, iX6_takeItemLine_134, iX6_takeItemLine_137, iX6_takeItemLine_138, iX6_takeItemLine_139, iX6_takeItemLine_142, iX6_takeItemLine_145, iX6_takeItemLine_146, iX6_takeItemLine_149, iX6_takeItemLine_150, true_or, or_true, Option.bind_some, Option.bind_none, kk_hp, kn_hp, el_i, el_b, el_z, am_cat_nil, am_cat_i, am_cat_r, am_cat_l, am_cat_n, gd_i, gd_r, gd_n, gd_u, List.length_cons, List.length_nil, true_and, and_true, ↓reduceIte, Nat.zero_le, Nat.reduceLeDiff, Nat.reduceAdd, e_10, e_01, e_00, e_11, Int32.reduceLE, Int32.reduceLT, Int32.reduceAdd, Int32.reduceSub, b01, if_true, if_false, ite_self, rc_12, gf_12_0, gf_12_1, gf_12_2, pf_12_2, gf_12_3, pf_12_3, gf_12_4, pf_12_4, gf_12_5, pf_12_5, gf_12_6, pf_12_6, gf_12_7, pf_12_7, rc_13, gf_13_0, gf_13_1, pf_13_1, gf_13_2, pf_13_2, gf_13_3, pf_13_3, gf_13_4, pf_13_4, gf_13_5, pf_13_5, nl_add, nl_add', nl_mul, nI_add, in_t, cl_n, le_nn, lt_nn, le_ln, le_nl, lt_nl, lt_ln, eq_nn, eq_nl, in_lit, cl_lit, Nat.le_refl, Nat.add_zero, c2, h3', h3, hk0, e]
        · simp (disch := omega) only [iX6_takeItemLine_87, iX6_takeItemLine_88, iX6_takeItemLine_89, iX6_takeItemLine_92, iX6_takeItemLine_93, iX6_takeItemLine_96, iX6_takeItemLine_99, iX6_takeItemLine_100, iX6_takeItemLine_103, iX6_takeItemLine_104, iX6_takeItemLine_105, iX6_takeItemLine_108, iX6_takeItemLine_111, iX6_takeItemLine_112, true_or, or_true, Option.bind_some, Option.bind_none, kk_hp, kn_hp, el_i, el_b, el_z, am_cat_nil, am_cat_i, am_cat_r, am_cat_l, am_cat_n, gd_i, gd_r, gd_n, gd_u, List.length_cons, List.length_nil, true_and, and_true, ↓reduceIte, Nat.zero_le, Nat.reduceLeDiff, Nat.reduceAdd, e_10, e_01, e_00, e_11, Int32.reduceLE, Int32.reduceLT, Int32.reduceAdd, Int32.reduceSub, b01, if_true, if_false, ite_self, rc_12, gf_12_0, gf_12_1, gf_12_2, pf_12_2, gf_12_3, pf_12_3, gf_12_4, pf_12_4, gf_12_5, pf_12_5, gf_12_6, pf_12_6, gf_12_7, pf_12_7, rc_13, gf_13_0, gf_13_1, pf_13_1, gf_13_2, pf_13_2, gf_13_3, pf_13_3, gf_13_4, pf_13_4, gf_13_5, pf_13_5, nl_add, nl_add', nl_mul, nI_add, in_t, cl_n, le_nn, lt_nn, le_ln, le_nl, lt_nl, lt_ln, eq_nn, eq_nl, in_lit, cl_lit, Nat.le_refl, Nat.add_zero, c2, h3', h3, hk0, e]
      · obtain ⟨R2, x1, x2, x3, x4⟩ := @M_tail X (up Mr 86 25 (nI (m + 1))) n p b u (TQ_fr q1 rfl rfl) (TK_u q2 rfl) hpn
        exact ⟨_, R2, fin Mr q1 q2 q3 (Or.inr hpv), x1, rX_t rX_u (rX_S x2), x4 _ hso⟩
    · obtain ⟨r, v, K1, e, hcl, href⟩ := lp2 hpv
      have h1 : tK n b p = 1 := Decidable.byContradiction (fun z => hpv (pn_1 z))
      have hit : ∀ (Mr : Nat → Nat → Int32), Mr 86 = upd dk 25 (nI m) → Mr 86 (26 + 6 * m + 4) = dk (26 + 6 * m + 4) ∧ Mr 86 (26 + 6 * m + 5) = dk (26 + 6 * m + 5) ∧ ∀ v, v < 8 → Mr 86 (17 + v) = dk (17 + v) := fun Mr q3 => by
        rw [q3]
        exact ⟨pk_un (by omega), pk_un (by omega), fun v hv => pk_un (by omega)⟩
      have enter : ∀ (Mr : Nat → Nat → Int32), TQ Mr n b → TK Mr n b p → ∀ R, am_ev X kX9_readPin 0 [.ref 82, .int (nI (26 + 6 * m)), am_u, am_u, am_u] [] (hp Mr) = some (none, hp R) → am_ev X kX9_readItem 93 [.ref 82, .int (nI (26 + 6 * m))] [] (hp Mr) = am_ev X kX9_readItem 93 [.ref 82, .int (nI (26 + 6 * m))] [] (hp R) := by
        intro Mr q1 q2 R hRd
        have f0 := (q2.2.2.2.1 (by omega)).1
        have eN := @M_pinName X Mr n p b q1 q2 hpn (by omega)
        conv => lhs; rw [iX9_readItem_93]
        simp (disch := omega) only [iX9_readItem_94, iX9_readItem_97, iX9_readItem_100, iX9_readItem_101, iX9_readItem_104, iX9_readItem_106, iX9_readItem_109, iX9_readItem_110, iX9_readItem_111, iX9_readItem_114, true_or, or_true, Option.bind_some, Option.bind_none, kk_hp, kn_hp, el_i, el_b, el_z, am_cat_nil, am_cat_i, am_cat_r, am_cat_l, am_cat_n, gd_i, gd_r, gd_n, gd_u, List.length_cons, List.length_nil, true_and, and_true, ↓reduceIte, Nat.zero_le, Nat.reduceLeDiff, Nat.reduceAdd, e_10, e_01, e_00, e_11, Int32.reduceLE, Int32.reduceLT, Int32.reduceAdd, Int32.reduceSub, b01, if_true, if_false, ite_self, rc_82, gf_82_0, gf_82_1, gf_82_2, gf_82_3, gf_82_4, gf_82_5, gf_82_6, pf_82_6, gf_82_7, pf_82_7, gf_82_8, pf_82_8, gf_82_9, pf_82_9, gf_82_10, pf_82_10, gf_82_11, pf_82_11, gf_82_12, pf_82_12, gf_82_13, gf_82_14, gf_82_15, gf_82_16, pf_82_16, gf_82_17, gf_82_18, gf_82_19, gf_82_20, gf_82_21, gf_82_22, gf_82_23, gf_82_24, gf_82_25, pf_82_25, ga_83, wi_83, ga_84, wi_84, ga_85, wb_85, ga_86, wi_86, ga_87, wb_87, ga_88, wi_88, ga_89, wi_89, ga_90, wi_90, ga_91, wi_91, ga_92, wi_92, ga_93, wi_93, ga_94, wi_94, ga_95, wi_95, ga_96, wb_96, ga_97, wi_97, ga_98, wi_98, ga_99, wi_99, nl_add, nl_add', nl_mul, nI_add, in_t, cl_n, le_nn, lt_nn, le_ln, le_nl, lt_nl, lt_ln, eq_nn, eq_nl, in_lit, cl_lit, Nat.le_refl, Nat.add_zero, f0, eN, hpv, hRd]
      match r, hcl, href with
      | .inr (c, s), hcl, href =>
        obtain ⟨hv, hcf, hc0, hfr⟩ := hcl
        subst hv
        refine ⟨.inr (c, s), 0, K1, ?_, fun a i1 i2 _ => hfr a i1 i2, ⟨rfl, hcf, hc0⟩, fun Mr u q1 q2 q3 q4 => ?_⟩
        · by_cases hk0 : 2 ≤ 2 - k
          · simp (disch := omega) only [iX6_takeItemLine_87, iX6_takeItemLine_88, iX6_takeItemLine_89, iX6_takeItemLine_92, iX6_takeItemLine_93, iX6_takeItemLine_96, iX6_takeItemLine_99, iX6_takeItemLine_100, iX6_takeItemLine_126, iX6_takeItemLine_127, iX6_takeItemLine_130, iX6_takeItemLine_133, iX6_takeItemLine_134, iX6_takeItemLine_137, iX6_takeItemLine_138, iX6_takeItemLine_139, iX6_takeItemLine_142, iX6_takeItemLine_145, iX6_takeItemLine_146, iX6_takeItemLine_149, iX6_takeItemLine_150, true_or, or_true, Option.bind_some, Option.bind_none, kk_hp, kn_hp, el_i, el_b, el_z, am_cat_nil, am_cat_i, am_cat_r, am_cat_l, am_cat_n, gd_i, gd_r, gd_n, gd_u, List.length_cons, List.length_nil, true_and, and_true, ↓reduceIte, Nat.zero_le, Nat.reduceLeDiff, Nat.reduceAdd, e_10, e_01, e_00, e_11, Int32.reduceLE, Int32.reduceLT, Int32.reduceAdd, Int32.reduceSub, b01, if_true, if_false, ite_self, rc_12, gf_12_0, gf_12_1, gf_12_2, pf_12_2, gf_12_3, pf_12_3, gf_12_4, pf_12_4, gf_12_5, pf_12_5, gf_12_6, pf_12_6, gf_12_7, pf_12_7, rc_13, gf_13_0, gf_13_1, pf_13_1, gf_13_2, pf_13_2, gf_13_3, pf_13_3, gf_13_4, pf_13_4, gf_13_5, pf_13_5, nl_add, nl_add', nl_mul, nI_add, in_t, cl_n, le_nn, lt_nn, le_ln, le_nl, lt_nl, lt_ln, eq_nn, eq_nl, in_lit, cl_lit, Nat.le_refl, Nat.add_zero, c2, h3', h3, hk0, e]
          · simp (disch := omega) only [iX6_takeItemLine_87, iX6_takeItemLine_88, iX6_takeItemLine_89, iX6_takeItemLine_92, iX6_takeItemLine_93, iX6_takeItemLine_96, iX6_takeItemLine_99, iX6_takeItemLine_100, iX6_takeItemLine_103, iX6_takeItemLine_104, iX6_takeItemLine_105, iX6_takeItemLine_108, iX6_takeItemLine_111, iX6_takeItemLine_112, true_or, or_true, Option.bind_some, Option.bind_none, kk_hp, kn_hp, el_i, el_b, el_z, am_cat_nil, am_cat_i, am_cat_r, am_cat_l, am_cat_n, gd_i, gd_r, gd_n, gd_u, List.length_cons, List.length_nil, true_and, and_true, ↓reduceIte, Nat.zero_le, Nat.reduceLeDiff, Nat.reduceAdd, e_10, e_01, e_00, e_11, Int32.reduceLE, Int32.reduceLT, Int32.reduceAdd, Int32.reduceSub, b01, if_true, if_false, ite_self, rc_12, gf_12_0, gf_12_1, gf_12_2, pf_12_2, gf_12_3, pf_12_3, gf_12_4, pf_12_4, gf_12_5, pf_12_5, gf_12_6, pf_12_6, gf_12_7, pf_12_7, rc_13, gf_13_0, gf_13_1, pf_13_1, gf_13_2, pf_13_2, gf_13_3, pf_13_3, gf_13_4, pf_13_4, gf_13_5, pf_13_5, nl_add, nl_add', nl_mul, nI_add, in_t, cl_n, le_nn, lt_nn, le_ln, le_nl, lt_nl, lt_ln, eq_nn, eq_nl, in_lit, cl_lit, Nat.le_refl, Nat.add_zero, c2, h3', h3, hk0, e]
        · obtain ⟨i1, i2, i3⟩ := hit Mr q3
          obtain ⟨R, y1, y2, y3, y4⟩ := href Mr q1 q2 i1 i2 i3
          have hpos : 0 < R 82 11 := by rw [y4.1]; exact hc0
          have hnz : ¬ R 82 11 = 0 := fun z => by rw [z] at hpos; exact absurd hpos (by decide)
          refine ⟨up R 86 25 (R 86 25 + 1), up R 86 25 (R 86 25 + 1), ?_, M_tailF hpos, rX_t y2 rX_u, y4⟩
          rw [enter Mr q1 q2 R y1]
          simp (disch := omega) only [iX9_readItem_93, iX9_readItem_94, iX9_readItem_97, iX9_readItem_117, iX9_readItem_118, iX9_readItem_121, iX9_readItem_123, iX9_readItem_124, iX9_readItem_125, iX9_readItem_126, iX9_readItem_127, iX9_readItem_128, true_or, or_true, Option.bind_some, Option.bind_none, kk_hp, kn_hp, el_i, el_b, el_z, am_cat_nil, am_cat_i, am_cat_r, am_cat_l, am_cat_n, gd_i, gd_r, gd_n, gd_u, List.length_cons, List.length_nil, true_and, and_true, ↓reduceIte, Nat.zero_le, Nat.reduceLeDiff, Nat.reduceAdd, e_10, e_01, e_00, e_11, Int32.reduceLE, Int32.reduceLT, Int32.reduceAdd, Int32.reduceSub, b01, if_true, if_false, ite_self, rc_82, gf_82_0, gf_82_1, gf_82_2, gf_82_3, gf_82_4, gf_82_5, gf_82_6, pf_82_6, gf_82_7, pf_82_7, gf_82_8, pf_82_8, gf_82_9, pf_82_9, gf_82_10, pf_82_10, gf_82_11, pf_82_11, gf_82_12, pf_82_12, gf_82_13, gf_82_14, gf_82_15, gf_82_16, pf_82_16, gf_82_17, gf_82_18, gf_82_19, gf_82_20, gf_82_21, gf_82_22, gf_82_23, gf_82_24, gf_82_25, pf_82_25, ga_83, wi_83, ga_84, wi_84, ga_85, wb_85, ga_86, wi_86, ga_87, wb_87, ga_88, wi_88, ga_89, wi_89, ga_90, wi_90, ga_91, wi_91, ga_92, wi_92, ga_93, wi_93, ga_94, wi_94, ga_95, wi_95, ga_96, wb_96, ga_97, wi_97, ga_98, wi_98, ga_99, wi_99, nl_add, nl_add', nl_mul, nI_add, in_t, cl_n, le_nn, lt_nn, le_ln, le_nl, lt_nl, lt_ln, eq_nn, eq_nl, in_lit, cl_lit, Nat.le_refl, Nat.add_zero, hnz]
      | .inl (q', pc', pr'), hcl, href =>
        obtain ⟨hv, z1, z2, z3, z4, z5, z6, z7, z8, z9, z10, z11⟩ := hcl
        subst hv
        have hkp : 0 < k := by
          rw [← hcn]; unfold cntP
          rcases z9 with ⟨y, -, -⟩ | ⟨y, -, -⟩
          · rw [if_pos y]; omega
          · rw [if_pos y]; omega
        have hcn' : cntP pc' pr' = k - 1 := by
          rw [← hcn]; unfold cntP
          rcases z9 with ⟨y1, y2, y3⟩ | ⟨y1, y2, y3⟩
          · rw [if_pos y1, if_neg y2, y3]; omega
          · rw [if_pos y1, if_neg y2, y3]; omega
        obtain ⟨K2, a1, a2, a3, a4, a5, a6, a7⟩ := @C_advance X K1 n q' b z1 z2 z4
        have hRa : RG (ua K1 24 (K 24)) 15 (upd dk (26 + 6 * m + 4) pc') := RG_fact (K := K) (w := 4) hR (by omega) (by decide) hd.1.2 (fun a i1 i2 i3 => by
          by_cases h24 : a = 24
          · rw [h24, ua_s]
          · rw [ua_n _ _ h24]; exact z6 a (by omega) (by omega) h24) (by rw [ua_n _ _ (by decide)]; exact z7)
        have hRb : RG K1 15 (upd (upd dk (26 + 6 * m + 4) pc') (26 + 6 * m + 5) pr') := RG_fact (w := 5) hRa (by show m < (upd dk (26 + 6 * m + 4) pc' 25).toNatClampNeg; rw [pk_un (by omega)]; show m < mI dk; omega) (by decide) (by show (upd dk (26 + 6 * m + 4) pc' 0).toNatClampNeg ≤ 6; rw [pk_un (by omega)]; exact hd.1.2) (fun a i1 i2 i3 => by rw [ua_n _ _ (by omega)]) (by rw [show 15 + 4 + 5 = 24 from rfl, ua_s]; exact z8)
        generalize hdk' : upd (upd dk (26 + 6 * m + 4) pc') (26 + 6 * m + 5) pr' = dk' at *
        have e4 : dk' (26 + 6 * m + 4) = pc' := by rw [← hdk', pk_un (by omega), pk_us]
        have e5 : dk' (26 + 6 * m + 5) = pr' := by rw [← hdk', pk_us]
        have hmi' : mI dk' = m + 1 := by rw [← hmi, ← hdk']; unfold mI; rw [pk_un (by omega), pk_un (by omega)]
        obtain ⟨r2, v2, K3, w1, w2, w3, w4⟩ := IH K2 q' dk' hkp (by rw [e4, e5]; exact hcn') (TP_S z1 a3 (a2 14 (by decide))) ⟨a4, a5, a6, a7⟩ z4 (RG_fa (fun j hj => a2 _ (by omega)) hRb) (by rw [← hdk']; exact dW_pin hd (by omega) z10 z11) hmi' (fun j hj => by rw [a2 12 (by decide), z5]; exact htd j hj)
        refine ⟨r2, v2, K3, ?_, fun a i1 i2 i3 => by rw [w2 a i1 i2 i3, a2 a i2, z6 a i2 (by omega) (by omega)], ?_, fun Mr u q1 q2 q3 q4 => ?_⟩
        · rw [← w1, show 2 - (k - 1) = 2 - k + 1 by omega]
          conv => lhs; rw [iX6_takeItemLine_87]
          simp (disch := omega) only [iX6_takeItemLine_88, iX6_takeItemLine_89, iX6_takeItemLine_92, iX6_takeItemLine_93, iX6_takeItemLine_96, iX6_takeItemLine_99, iX6_takeItemLine_100, iX6_takeItemLine_103, iX6_takeItemLine_104, iX6_takeItemLine_105, iX6_takeItemLine_108, iX6_takeItemLine_111, iX6_takeItemLine_112, iX6_takeItemLine_113, iX6_takeItemLine_114, iX6_takeItemLine_117, iX6_takeItemLine_120, iX6_takeItemLine_123, true_or, or_true, Option.bind_some, Option.bind_none, kk_hp, kn_hp, el_i, el_b, el_z, am_cat_nil, am_cat_i, am_cat_r, am_cat_l, am_cat_n, gd_i, gd_r, gd_n, gd_u, List.length_cons, List.length_nil, true_and, and_true, ↓reduceIte, Nat.zero_le, Nat.reduceLeDiff, Nat.reduceAdd, e_10, e_01, e_00, e_11, Int32.reduceLE, Int32.reduceLT, Int32.reduceAdd, Int32.reduceSub, b01, if_true, if_false, ite_self, rc_12, gf_12_0, gf_12_1, gf_12_2, pf_12_2, gf_12_3, pf_12_3, gf_12_4, pf_12_4, gf_12_5, pf_12_5, gf_12_6, pf_12_6, gf_12_7, pf_12_7, rc_13, gf_13_0, gf_13_1, pf_13_1, gf_13_2, pf_13_2, gf_13_3, pf_13_3, gf_13_4, pf_13_4, gf_13_5, pf_13_5, nl_add, nl_add', nl_mul, nI_add, in_t, cl_n, le_nn, lt_nn, le_ln, le_nl, lt_nl, lt_ln, eq_nn, eq_nl, in_lit, cl_lit, Nat.le_refl, Nat.add_zero, c2, h3', h3, show ¬ 2 ≤ 2 - k by omega, e, a1]
        · match r2, w3 with
          | .inr (c, s), w3 => exact w3
          | .inl (q2, d2), ⟨y1, y2, y3, y4, y5, y6, y7, y8, y9, y10⟩ => exact ⟨y1, y2, y3, by omega, y5, y6, y7, y8, by rw [y9, a2 12 (by decide), z5], y10.imp (fun z => by rw [z, a2 15 (by decide), z6 15 (by decide) (by decide) (by decide)]) id⟩
        · obtain ⟨i1, i2, i3⟩ := hit Mr q3
          obtain ⟨R, y1, y2, y3, y4, y5⟩ := href Mr q1 q2 i1 i2 i3
          obtain ⟨R1, R2, x1, x2, x3, x4⟩ := w4 R u (TQ_fr q1 (y2.2 6 (by decide)) (y2.1 88 (by decide) (by decide) (by decide))) y4 (by rw [y5, q3, ← hdk', upd_cm _ _ _ (show 25 ≠ 26 + 6 * m + 4 by omega), upd_cm _ _ _ (show 25 ≠ 26 + 6 * m + 5 by omega)]) (fun j hj => by rw [y3]; exact q4 j hj)
          exact ⟨R1, R2, (enter Mr q1 q2 R y1).trans x1, x2, rX_t y2 x3, x4⟩
theorem pins_l {n m : Nat} {b : Nat → Nat} {td : Nat → Bool} (hX : X.2.2 = .null ∨ X.2.2 = .ref 1200) (hm : m < 10) (k : Nat) : ∀ (K : Nat → Nat → Int32) (p : Nat) (dk : Nat → Int32), k ≤ 2 → cntP (dk (26 + 6 * m + 4)) (dk (26 + 6 * m + 5)) = k → TP K n b → CK K n b p → p ≤ n → RG K 15 dk → dW dk → mI dk = m + 1 → tdC K td →
    ∃ r v K', am_ev X kX6_takeItemLine 87 [.ref 12, .int (nI m), .int (nI (2 - k))] [] (hp K) = some (some (.int v), hp K') ∧ cX K K' ∧ lnC K K' n b p td v r ∧
      ∀ (Mr : Nat → Nat → Int32) u, TQ Mr n b → TK Mr n b p → Mr 86 = upd dk 25 (nI m) → tdM Mr td → ∃ Mr1 Mr', am_ev X kX9_readItem 93 [.ref 82, .int (nI (26 + 6 * m))] [] (hp Mr) = some (none, hp Mr1) ∧ am_ev X kX9_readLine 107 [.ref 82, .int u] [] (hp Mr1) = some (none, hp Mr') ∧ rX Mr Mr' ∧ lnM Mr' n b td r := by
  induction k with
  | zero =>
    intro K p dk hk hcn ht hC hpn hR hd hmi htd
    exact pinsS hX hm 0 K p dk hk hcn ht hC hpn hR hd hmi htd (fun K' p' dk' z => absurd z (by omega))
  | succ k ih =>
    intro K p dk hk hcn ht hC hpn hR hd hmi htd
    exact pinsS hX hm (k + 1) K p dk hk hcn ht hC hpn hR hd hmi htd (fun K' p' dk' _ a1 a2 a3 a4 a5 a6 a7 a8 => ih K' p' dk' (by omega) a1 a2 a3 a4 a5 a6 a7 a8)
end S97
