/-! parts, purely; the class deals parts -/
def bsz (kd nb L : Nat → Int32) (n : Nat) (x : Int32) (sz : Nat → Int32) (F : Nat → Bool) : Nat → Int32 := fun t => if op kd F t = true then oW L n x F * nb t / oS kd nb n F else if F t = true then L t else sz t
def rsF (kd nb L : Nat → Int32) (n : Nat) (x : Int32) (F : Nat → Bool) : Nat → Int32
  | 0 => oW L n x F - sm (fun t => if op kd F t = true then oW L n x F * nb t / oS kd nb n F else 0) n
  | t + 1 => if op kd F t = true ∧ ¬ rsF kd nb L n x F t ≤ 0 then rsF kd nb L n x F t + (-1) else rsF kd nb L n x F t
def fsz (kd nb L : Nat → Int32) (n : Nat) (x : Int32) (sz : Nat → Int32) (F : Nat → Bool) : Nat → Int32 := fun t => if op kd F t = true ∧ ¬ rsF kd nb L n x F t ≤ 0 then bsz kd nb L n x sz F t + 1 else bsz kd nb L n x sz F t
theorem rs_le {kd nb L : Nat → Int32} {n : Nat} {x : Int32} {F : Nat → Bool} {t : Nat} (h : rsF kd nb L n x F t ≤ 0) (d : Nat) : rsF kd nb L n x F (t + d) ≤ 0 := by
  induction d with
  | zero => exact h
  | succ d ih => rw [← Nat.add_assoc, rsF, if_neg (fun z => z.2 ih)]; exact ih
section S60
variable {X : am_X} {M : Nat → Nat → Int32}
theorem dealParts_l {g n : Nat} {kd nb L sz : Nat → Int32} {F : Nat → Bool} {x : Int32} {u3 u4 : Int32} (hg : isA g) (hn : n ≤ 6) (k : Nat) : ∀ t M, t + k = n → M g 0 = nI n → (∀ c, c < n → M (g + 1) c = kd c ∧ M (g + 2) c = nb c) →
    (∃ b, b < 64 ∧ M 80 1 = nI b ∧ ∀ t, t < n → b.testBit t = F t) → (∀ c, c < n → M (g + 3) c = if c < t then fsz kd nb L n x sz F c else bsz kd nb L n x sz F c) →
    ∃ M', am_ev X kX4_dealParts 85 [.ref 80, .ref g, .int x, .int u3, .int u4, .int (rsF kd nb L n x F t), .int (nI t)] [] (hp M) = some (none, hp M') ∧ (∀ a, a ≠ g + 3 → M' a = M a) ∧ ∀ c, c < n → M' (g + 3) c = fsz kd nb L n x sz F c := by
  have hgr := isA_1 hg
  induction k with
  | zero =>
    intro t M htn h0 hk hF hs
    refine ⟨M, ?_, fun _ _ => rfl, fun c hc => by rw [hs c hc, if_pos (by omega)]⟩
    simp (disch := omega) only [iX4_dealParts_85, iX4_dealParts_87, iX4_dealParts_88, iX4_dealParts_91, iX4_dealParts_129, true_or, or_true, Option.bind_some, Option.bind_none, kk_hp, kn_hp, el_i, el_b, el_z, am_cat_nil, am_cat_i, am_cat_r, am_cat_l, am_cat_n, gd_i, gd_r, gd_n, gd_u, List.length_cons, List.length_nil, true_and, and_true, ↓reduceIte, Nat.zero_le, Nat.reduceLeDiff, Nat.reduceAdd, e_10, e_01, e_00, e_11, Int32.reduceLE, Int32.reduceLT, Int32.reduceAdd, Int32.reduceSub, b01, if_true, if_false, ite_self, nl_add, nl_add', nl_mul, nI_add, in_t, cl_n, le_nn, lt_nn, le_ln, le_nl, lt_nl, lt_ln, eq_nn, eq_nl, in_lit, cl_lit, Nat.le_refl, Nat.add_zero, gA0 hg, h0, show n ≤ t by omega]
  | succ k ih =>
    intro t M htn h0 hk hF hs
    have hl : ¬ n ≤ t := by omega
    by_cases hr : rsF kd nb L n x F t ≤ 0
    · refine ⟨M, ?_, fun _ _ => rfl, fun c hc => ?_⟩
      · simp (disch := omega) only [iX4_dealParts_85, iX4_dealParts_87, iX4_dealParts_88, iX4_dealParts_91, iX4_dealParts_94, iX4_dealParts_96, iX4_dealParts_129, true_or, or_true, Option.bind_some, Option.bind_none, kk_hp, kn_hp, el_i, el_b, el_z, am_cat_nil, am_cat_i, am_cat_r, am_cat_l, am_cat_n, gd_i, gd_r, gd_n, gd_u, List.length_cons, List.length_nil, true_and, and_true, ↓reduceIte, Nat.zero_le, Nat.reduceLeDiff, Nat.reduceAdd, e_10, e_01, e_00, e_11, Int32.reduceLE, Int32.reduceLT, Int32.reduceAdd, Int32.reduceSub, b01, if_true, if_false, ite_self, nl_add, nl_add', nl_mul, nI_add, in_t, cl_n, le_nn, lt_nn, le_ln, le_nl, lt_nl, lt_ln, eq_nn, eq_nl, in_lit, cl_lit, Nat.le_refl, Nat.add_zero, gA0 hg, h0, hl, hr]
      · rw [hs c hc]
        by_cases hct : c < t
        · rw [if_pos hct]
        · rw [if_neg hct, fsz, if_neg]
          intro z
          have := rs_le hr (c - t)
          rw [show t + (c - t) = c by omega] at this
          exact z.2 this
    · obtain ⟨b, hb, h80, hbF⟩ := hF
      have eo := @C_isOpen X M g b t hg hb (by omega) h80
      rw [(hk t (by omega)).1, hbF t (by omega), show (decide (kd t = 2) && !F t) = op kd F t from rfl] at eo
      have hst := hs t (by omega)
      rw [if_neg (by omega)] at hst
      cases ho : op kd F t with
      | true =>
        rw [ho, bI_t] at eo
        obtain ⟨M', e1, f1, g1⟩ := ih (t + 1) (up M (g + 3) t (M (g + 3) t + 1)) (by omega) (by rw [up_n _ _ _ (by omega)]; exact h0) (by rw [up_n _ _ _ (by omega), up_n _ _ _ (by omega)]; exact hk) ⟨b, hb, by rw [up_n _ _ _ (by omega)]; exact h80, hbF⟩ (fun c hc => by
          rw [up_s]
          by_cases hct : c = t
          · rw [hct, pk_us, if_pos (by omega), fsz, if_pos ⟨ho, hr⟩, hst]
          · rw [pk_un hct, hs c hc]
            by_cases hc2 : c < t
            · rw [if_pos hc2, if_pos (by omega)]
            · rw [if_neg hc2, if_neg (by omega)])
        refine ⟨M', ?_, fun a ha => by rw [f1 a ha, up_n _ _ _ ha], g1⟩
        rw [← e1, rsF, if_pos ⟨ho, hr⟩]
        conv => lhs; rw [iX4_dealParts_85]
        simp (disch := omega) only [iX4_dealParts_87, iX4_dealParts_88, iX4_dealParts_91, iX4_dealParts_94, iX4_dealParts_96, iX4_dealParts_99, iX4_dealParts_100, iX4_dealParts_101, iX4_dealParts_103, iX4_dealParts_106, iX4_dealParts_109, iX4_dealParts_110, iX4_dealParts_113, iX4_dealParts_115, iX4_dealParts_116, iX4_dealParts_117, iX4_dealParts_118, iX4_dealParts_119, iX4_dealParts_120, iX4_dealParts_123, iX4_dealParts_126, true_or, or_true, Option.bind_some, Option.bind_none, kk_hp, kn_hp, el_i, el_b, el_z, am_cat_nil, am_cat_i, am_cat_r, am_cat_l, am_cat_n, gd_i, gd_r, gd_n, gd_u, List.length_cons, List.length_nil, true_and, and_true, ↓reduceIte, Nat.zero_le, Nat.reduceLeDiff, Nat.reduceAdd, e_10, e_01, e_00, e_11, Int32.reduceLE, Int32.reduceLT, Int32.reduceAdd, Int32.reduceSub, b01, if_true, if_false, ite_self, nl_add, nl_add', nl_mul, nI_add, in_t, cl_n, le_nn, lt_nn, le_ln, le_nl, lt_nl, lt_ln, eq_nn, eq_nl, in_lit, cl_lit, Nat.le_refl, Nat.add_zero, rc_80, gf_80_0, gf_80_1, pf_80_1, gA0 hg, gA4 hg, aA3 hg, wA3 hg, h0, hl, hr, eo]
      | false =>
        rw [ho, bI_f] at eo
        have hno : ¬ (op kd F t = true ∧ ¬ rsF kd nb L n x F t ≤ 0) := fun z => by rw [ho] at z; exact absurd z.1 (by decide)
        obtain ⟨M', e1, f1, g1⟩ := ih (t + 1) M (by omega) h0 hk ⟨b, hb, h80, hbF⟩ (fun c hc => by
          rw [hs c hc]
          by_cases hct : c = t
          · rw [hct, if_neg (by omega), if_pos (by omega), fsz, if_neg hno]
          · by_cases hc2 : c < t
            · rw [if_pos hc2, if_pos (by omega)]
            · rw [if_neg hc2, if_neg (by omega)])
        refine ⟨M', ?_, f1, g1⟩
        rw [← e1, rsF, if_neg hno]
        conv => lhs; rw [iX4_dealParts_85]
        simp (disch := omega) only [iX4_dealParts_87, iX4_dealParts_88, iX4_dealParts_91, iX4_dealParts_94, iX4_dealParts_96, iX4_dealParts_99, iX4_dealParts_100, iX4_dealParts_101, iX4_dealParts_103, iX4_dealParts_106, iX4_dealParts_109, iX4_dealParts_110, iX4_dealParts_113, iX4_dealParts_115, iX4_dealParts_116, iX4_dealParts_117, iX4_dealParts_118, iX4_dealParts_119, iX4_dealParts_120, iX4_dealParts_123, iX4_dealParts_126, true_or, or_true, Option.bind_some, Option.bind_none, kk_hp, kn_hp, el_i, el_b, el_z, am_cat_nil, am_cat_i, am_cat_r, am_cat_l, am_cat_n, gd_i, gd_r, gd_n, gd_u, List.length_cons, List.length_nil, true_and, and_true, ↓reduceIte, Nat.zero_le, Nat.reduceLeDiff, Nat.reduceAdd, e_10, e_01, e_00, e_11, Int32.reduceLE, Int32.reduceLT, Int32.reduceAdd, Int32.reduceSub, b01, if_true, if_false, ite_self, nl_add, nl_add', nl_mul, nI_add, in_t, cl_n, le_nn, lt_nn, le_ln, le_nl, lt_nl, lt_ln, eq_nn, eq_nl, in_lit, cl_lit, Nat.le_refl, Nat.add_zero, rc_80, gf_80_0, gf_80_1, pf_80_1, gA0 hg, gA4 hg, aA3 hg, wA3 hg, h0, hl, hr, eo]
theorem C_dealParts {g n : Nat} {kd nb L sz : Nat → Int32} {F : Nat → Bool} {x : Int32} (hg : isA g) (h0 : M g 0 = nI n) (hn : n ≤ 6) (hk : ∀ c, c < n → M (g + 1) c = kd c ∧ M (g + 2) c = nb c) (hnb : ∀ c, c < n → kd c = 2 → ∃ k, 1 ≤ k ∧ k ≤ 9 ∧ nb c = nI k) (hF : FC M g n L sz F) :
    ∃ M', am_ev X kX4_dealParts 0 [.ref 80, .ref g, .int x, am_u, am_u, am_u, am_u] [] (hp M) = some (none, hp M') ∧ (∀ a, a ≠ g + 3 → M' a = M a) ∧ ∀ c, c < n → M' (g + 3) c = fsz kd nb L n x sz F c := by
  have hgr := isA_1 hg
  have eS := @C_oS X M g n kd nb L sz F hg h0 hn hk hF
  have eW := @C_oW X M g n L sz F x hg h0 hn hF
  obtain ⟨S, hS, hS9, hS0⟩ := @oS_p kd nb n F hnb
  by_cases hz : S = 0
  · have hno : ∀ t, t < n → op kd F t = false := fun t ht => by
      cases ho : op kd F t with
      | false => rfl
      | true => have := hS0 ⟨t, ht, ho⟩; omega
    refine ⟨M, ?_, fun _ _ => rfl, fun c hc => ?_⟩
    · rw [hS, hz, nI_0] at eS
      simp (disch := omega) only [iX4_dealParts_0, iX4_dealParts_1, iX4_dealParts_2, iX4_dealParts_5, iX4_dealParts_6, iX4_dealParts_7, iX4_dealParts_10, true_or, or_true, Option.bind_some, Option.bind_none, kk_hp, kn_hp, el_i, el_b, el_z, am_cat_nil, am_cat_i, am_cat_r, am_cat_l, am_cat_n, gd_i, gd_r, gd_n, gd_u, List.length_cons, List.length_nil, true_and, and_true, ↓reduceIte, Nat.zero_le, Nat.reduceLeDiff, Nat.reduceAdd, e_10, e_01, e_00, e_11, Int32.reduceLE, Int32.reduceLT, Int32.reduceAdd, Int32.reduceSub, b01, if_true, if_false, ite_self, nl_add, nl_add', nl_mul, nI_add, in_t, cl_n, le_nn, lt_nn, le_ln, le_nl, lt_nl, lt_ln, eq_nn, eq_nl, in_lit, cl_lit, Nat.le_refl, Nat.add_zero, rc_80, gf_80_0, gf_80_1, pf_80_1, eS]
    · obtain ⟨b, hb, h80, hbF, hsz⟩ := hF
      rw [hsz c hc, fsz, bsz, hno c hc]
      simp
  · have eS' := eS
    rw [hS] at eS'
    obtain ⟨b, hb, h80, hbF, hsz⟩ := hF
    have hlp := loop_inv (fun t M' => am_ev X kX4_dealParts 26 [.ref 80, .ref g, .int x, .int (nI S), .int (oW L n x F), .int (oW L n x F - sm (fun t => if op kd F t = true then oW L n x F * nb t / oS kd nb n F else 0) t), .int (nI t)] [] (hp M')) (fun t M' => (∀ a, a ≠ g + 3 → M' a = M a) ∧ ∀ c, c < n → M' (g + 3) c = if c < t then bsz kd nb L n x sz F c else M (g + 3) c) 0 n (by omega) M ⟨fun _ _ => rfl, fun c hc => by rw [if_neg (by omega)]⟩ ?_
    · obtain ⟨M1, e1, f1, g1⟩ := hlp
      obtain ⟨M2, e2, f2, g2⟩ := @dealParts_l X g n kd nb L sz F x (nI S) (oW L n x F) hg hn n 0 M1 (by omega) (by rw [f1 _ (by omega)]; exact h0) (by rw [f1 _ (by omega), f1 _ (by omega)]; exact hk) ⟨b, hb, by rw [f1 _ (by omega)]; exact h80, hbF⟩ (fun c hc => by rw [g1 c hc, if_pos hc, if_neg (by omega)])
      refine ⟨M2, ?_, fun a ha => by rw [f2 a ha, f1 a ha], g2⟩
      simp only [sm_0, nI_0, sub_0, rsF] at e1 e2
      have q0 : M1 g 0 = nI n := by rw [f1 _ (by omega)]; exact h0
      simp (disch := omega) only [iX4_dealParts_0, iX4_dealParts_1, iX4_dealParts_2, iX4_dealParts_5, iX4_dealParts_6, iX4_dealParts_7, iX4_dealParts_10, iX4_dealParts_11, iX4_dealParts_12, iX4_dealParts_13, iX4_dealParts_14, iX4_dealParts_17, iX4_dealParts_19, iX4_dealParts_21, iX4_dealParts_23, iX4_dealParts_24, true_or, or_true, Option.bind_some, Option.bind_none, kk_hp, kn_hp, el_i, el_b, el_z, am_cat_nil, am_cat_i, am_cat_r, am_cat_l, am_cat_n, gd_i, gd_r, gd_n, gd_u, List.length_cons, List.length_nil, true_and, and_true, ↓reduceIte, Nat.zero_le, Nat.reduceLeDiff, Nat.reduceAdd, e_10, e_01, e_00, e_11, Int32.reduceLE, Int32.reduceLT, Int32.reduceAdd, Int32.reduceSub, b01, if_true, if_false, ite_self, nl_add, nl_add', nl_mul, nI_add, in_t, cl_n, le_nn, lt_nn, le_ln, le_nl, lt_nl, lt_ln, eq_nn, eq_nl, in_lit, cl_lit, Nat.le_refl, Nat.add_zero, rc_80, gf_80_0, gf_80_1, pf_80_1, eS', eW, show ¬ S ≤ 0 by omega, show 0 < S by omega]
      rw [e1]
      simp (disch := omega) only [iX4_dealParts_26, iX4_dealParts_28, iX4_dealParts_29, iX4_dealParts_32, iX4_dealParts_82, iX4_dealParts_83, true_or, or_true, Option.bind_some, Option.bind_none, kk_hp, kn_hp, el_i, el_b, el_z, am_cat_nil, am_cat_i, am_cat_r, am_cat_l, am_cat_n, gd_i, gd_r, gd_n, gd_u, List.length_cons, List.length_nil, true_and, and_true, ↓reduceIte, Nat.zero_le, Nat.reduceLeDiff, Nat.reduceAdd, e_10, e_01, e_00, e_11, Int32.reduceLE, Int32.reduceLT, Int32.reduceAdd, Int32.reduceSub, b01, if_true, if_false, ite_self, nl_add, nl_add', nl_mul, nI_add, in_t, cl_n, le_nn, lt_nn, le_ln, le_nl, lt_nl, lt_ln, eq_nn, eq_nl, in_lit, cl_lit, Nat.le_refl, Nat.add_zero, gA0 hg, q0]
      exact e2
    intro t M' _ ht ⟨hf, hG⟩
    have hl : ¬ n ≤ t := by omega
    have q0 : M' g 0 = nI n := by rw [hf _ (by omega)]; exact h0
    have q80 : M' 80 1 = nI b := by rw [hf _ (by omega)]; exact h80
    have q1 : M' (g + 1) t = kd t := by rw [hf _ (by omega)]; exact (hk t ht).1
    have q2 : M' (g + 2) t = nb t := by rw [hf _ (by omega)]; exact (hk t ht).2
    have eo := @C_isOpen X M' g b t hg hb (by omega) q80
    rw [q1, hbF t ht, show (decide (kd t = 2) && !F t) = op kd F t from rfl] at eo
    rw [sub_sm]
    cases ho : op kd F t with
    | true =>
      rw [ho, bI_t] at eo
      refine ⟨up M' (g + 3) t (oW L n x F * nb t / oS kd nb n F), ?_, fun a ha => by rw [up_n _ _ _ ha]; exact hf a ha, fun c hc => ?_⟩
      · rw [if_pos rfl, hS]
        conv => lhs; rw [iX4_dealParts_26]
        simp (disch := omega) only [iX4_dealParts_28, iX4_dealParts_29, iX4_dealParts_32, iX4_dealParts_35, iX4_dealParts_36, iX4_dealParts_37, iX4_dealParts_39, iX4_dealParts_42, iX4_dealParts_45, iX4_dealParts_46, iX4_dealParts_49, iX4_dealParts_51, iX4_dealParts_53, iX4_dealParts_54, iX4_dealParts_57, iX4_dealParts_59, iX4_dealParts_60, iX4_dealParts_61, iX4_dealParts_62, iX4_dealParts_63, iX4_dealParts_64, iX4_dealParts_66, iX4_dealParts_67, iX4_dealParts_70, iX4_dealParts_72, iX4_dealParts_73, iX4_dealParts_74, iX4_dealParts_76, iX4_dealParts_79, true_or, or_true, Option.bind_some, Option.bind_none, kk_hp, kn_hp, el_i, el_b, el_z, am_cat_nil, am_cat_i, am_cat_r, am_cat_l, am_cat_n, gd_i, gd_r, gd_n, gd_u, List.length_cons, List.length_nil, true_and, and_true, ↓reduceIte, Nat.zero_le, Nat.reduceLeDiff, Nat.reduceAdd, e_10, e_01, e_00, e_11, Int32.reduceLE, Int32.reduceLT, Int32.reduceAdd, Int32.reduceSub, b01, if_true, if_false, ite_self, nl_add, nl_add', nl_mul, nI_add, in_t, cl_n, le_nn, lt_nn, le_ln, le_nl, lt_nl, lt_ln, eq_nn, eq_nl, in_lit, cl_lit, Nat.le_refl, Nat.add_zero, rc_80, gf_80_0, gf_80_1, pf_80_1, gA0 hg, gA3 hg, gA4 hg, aA2 hg, aA3 hg, wA3 hg, q0, q2, hl, eo, up_s, pk_us, nI_ne0 (show 0 < S by omega) (show S < 2 ^ 31 by omega)]
      · rw [up_s]
        by_cases hct : c = t
        · rw [hct, pk_us, if_pos (by omega), bsz, if_pos ho]
        · rw [pk_un hct, hG c hc]
          by_cases hc2 : c < t
          · rw [if_pos hc2, if_pos (by omega)]
          · rw [if_neg hc2, if_neg (by omega)]
    | false =>
      rw [ho, bI_f] at eo
      refine ⟨M', ?_, hf, fun c hc => ?_⟩
      · rw [if_neg (by decide), sub_0]
        conv => lhs; rw [iX4_dealParts_26]
        simp (disch := omega) only [iX4_dealParts_28, iX4_dealParts_29, iX4_dealParts_32, iX4_dealParts_35, iX4_dealParts_36, iX4_dealParts_37, iX4_dealParts_39, iX4_dealParts_42, iX4_dealParts_45, iX4_dealParts_46, iX4_dealParts_49, iX4_dealParts_51, iX4_dealParts_53, iX4_dealParts_54, iX4_dealParts_57, iX4_dealParts_59, iX4_dealParts_60, iX4_dealParts_61, iX4_dealParts_62, iX4_dealParts_63, iX4_dealParts_64, iX4_dealParts_66, iX4_dealParts_67, iX4_dealParts_70, iX4_dealParts_72, iX4_dealParts_73, iX4_dealParts_74, iX4_dealParts_76, iX4_dealParts_79, true_or, or_true, Option.bind_some, Option.bind_none, kk_hp, kn_hp, el_i, el_b, el_z, am_cat_nil, am_cat_i, am_cat_r, am_cat_l, am_cat_n, gd_i, gd_r, gd_n, gd_u, List.length_cons, List.length_nil, true_and, and_true, ↓reduceIte, Nat.zero_le, Nat.reduceLeDiff, Nat.reduceAdd, e_10, e_01, e_00, e_11, Int32.reduceLE, Int32.reduceLT, Int32.reduceAdd, Int32.reduceSub, b01, if_true, if_false, ite_self, nl_add, nl_add', nl_mul, nI_add, in_t, cl_n, le_nn, lt_nn, le_ln, le_nl, lt_nl, lt_ln, eq_nn, eq_nl, in_lit, cl_lit, Nat.le_refl, Nat.add_zero, rc_80, gf_80_0, gf_80_1, pf_80_1, gA0 hg, gA3 hg, gA4 hg, aA2 hg, aA3 hg, wA3 hg, q0, q2, hl, eo]
      · rw [hG c hc]
        by_cases hct : c = t
        · rw [hct, if_neg (by omega), if_pos (by omega), bsz, if_neg (by rw [ho]; decide)]; exact hsz t ht
        · by_cases hc2 : c < t
          · rw [if_pos hc2, if_pos (by omega)]
          · rw [if_neg hc2, if_neg (by omega)]
end S60
