/-! tokens, the reference -/
def TQ (M : Nat → Nat → Int32) (n : Nat) (b : Nat → Nat) : Prop := n ≤ 320 ∧ M 82 6 = nI n ∧ ∀ p, p < n → M 88 p = nI (b p) ∧ b p < 128
theorem TQ_up {M : Nat → Nat → Int32} {n : Nat} {b : Nat → Nat} (h : TQ M n b) {j : Nat} {x : Int32} (hj : j ≠ 6) : TQ (up M 82 j x) n b :=
  ⟨h.1, by rw [up_s, pk_un hj.symm]; exact h.2.1, fun p hp => by rw [up_n _ _ _ (by decide)]; exact h.2.2 p hp⟩
theorem TQ_fr {M M' : Nat → Nat → Int32} {n : Nat} {b : Nat → Nat} (h : TQ M n b) (e : M' 82 6 = M 82 6) (e8 : M' 88 = M 88) : TQ M' n b :=
  ⟨h.1, by rw [e]; exact h.2.1, by rw [e8]; exact h.2.2⟩
def bA (n : Nat) (b : Nat → Nat) (p : Nat) : Int32 := if p < n then nI (b p) else -1
section S89
variable {X : am_X} {M : Nat → Nat → Int32}
theorem M_byteAt {n p : Nat} {b : Nat → Nat} (h : TQ M n b) (hp1 : p < 1000) : am_ev X kX9_byteAt 0 [.ref 82, .int (nI p)] [] (hp M) = some (some (.int (bA n b p)), hp M) := by
  obtain ⟨h1, h2, h3⟩ := h
  unfold bA
  by_cases hn : p < n
  · rw [if_pos hn]
    have := (h3 p hn).1
    simp (disch := omega) only [iX9_byteAt_0, iX9_byteAt_1, iX9_byteAt_2, iX9_byteAt_5, iX9_byteAt_8, iX9_byteAt_9, iX9_byteAt_12, iX9_byteAt_13, iX9_byteAt_14, iX9_byteAt_17, iX9_byteAt_18, true_or, or_true, Option.bind_some, Option.bind_none, kk_hp, kn_hp, el_i, el_b, el_z, am_cat_nil, am_cat_i, am_cat_r, am_cat_l, am_cat_n, gd_i, gd_r, gd_n, gd_u, List.length_cons, List.length_nil, true_and, and_true, ↓reduceIte, Nat.zero_le, Nat.reduceLeDiff, Nat.reduceAdd, e_10, e_01, e_00, e_11, Int32.reduceLE, Int32.reduceLT, Int32.reduceAdd, Int32.reduceSub, b01, if_true, if_false, ite_self, rc_82, gf_82_0, gf_82_1, gf_82_2, gf_82_3, gf_82_4, gf_82_5, gf_82_6, pf_82_6, gf_82_7, pf_82_7, gf_82_8, pf_82_8, gf_82_9, pf_82_9, gf_82_10, pf_82_10, gf_82_11, pf_82_11, gf_82_12, pf_82_12, gf_82_13, gf_82_14, gf_82_15, gf_82_16, pf_82_16, gf_82_17, gf_82_18, gf_82_19, gf_82_20, gf_82_21, gf_82_22, gf_82_23, gf_82_24, gf_82_25, pf_82_25, ga_83, wi_83, ga_84, wi_84, ga_85, wb_85, ga_86, wi_86, ga_87, wb_87, ga_88, wi_88, ga_89, wi_89, ga_90, wi_90, ga_91, wi_91, ga_92, wi_92, ga_93, wi_93, ga_94, wi_94, ga_95, wi_95, ga_96, wb_96, ga_97, wi_97, ga_98, wi_98, ga_99, wi_99, nl_add, nl_add', nl_mul, nI_add, in_t, cl_n, le_nn, lt_nn, le_ln, le_nl, lt_nl, lt_ln, eq_nn, eq_nl, in_lit, cl_lit, Nat.le_refl, Nat.add_zero, h2, show ¬ n ≤ p by omega, this]
  · rw [if_neg hn]
    simp (disch := omega) only [iX9_byteAt_0, iX9_byteAt_1, iX9_byteAt_2, iX9_byteAt_5, iX9_byteAt_8, iX9_byteAt_9, iX9_byteAt_12, iX9_byteAt_13, iX9_byteAt_14, iX9_byteAt_17, iX9_byteAt_18, true_or, or_true, Option.bind_some, Option.bind_none, kk_hp, kn_hp, el_i, el_b, el_z, am_cat_nil, am_cat_i, am_cat_r, am_cat_l, am_cat_n, gd_i, gd_r, gd_n, gd_u, List.length_cons, List.length_nil, true_and, and_true, ↓reduceIte, Nat.zero_le, Nat.reduceLeDiff, Nat.reduceAdd, e_10, e_01, e_00, e_11, Int32.reduceLE, Int32.reduceLT, Int32.reduceAdd, Int32.reduceSub, b01, if_true, if_false, ite_self, rc_82, gf_82_0, gf_82_1, gf_82_2, gf_82_3, gf_82_4, gf_82_5, gf_82_6, pf_82_6, gf_82_7, pf_82_7, gf_82_8, pf_82_8, gf_82_9, pf_82_9, gf_82_10, pf_82_10, gf_82_11, pf_82_11, gf_82_12, pf_82_12, gf_82_13, gf_82_14, gf_82_15, gf_82_16, pf_82_16, gf_82_17, gf_82_18, gf_82_19, gf_82_20, gf_82_21, gf_82_22, gf_82_23, gf_82_24, gf_82_25, pf_82_25, ga_83, wi_83, ga_84, wi_84, ga_85, wb_85, ga_86, wi_86, ga_87, wb_87, ga_88, wi_88, ga_89, wi_89, ga_90, wi_90, ga_91, wi_91, ga_92, wi_92, ga_93, wi_93, ga_94, wi_94, ga_95, wi_95, ga_96, wb_96, ga_97, wi_97, ga_98, wi_98, ga_99, wi_99, nl_add, nl_add', nl_mul, nI_add, in_t, cl_n, le_nn, lt_nn, le_ln, le_nl, lt_nl, lt_ln, eq_nn, eq_nl, in_lit, cl_lit, Nat.le_refl, Nat.add_zero, h2, show n ≤ p by omega]
theorem M_requires {g c : Int32} : am_ev X kX9_requires 0 [.ref 82, .int g, .int c] [] (hp M) = some (none, hp (if g = 0 ∧ M 82 11 = 0 then up (up M 82 11 c) 82 12 (M 82 8) else M)) := by
  by_cases h1 : g = 0
  · by_cases h2 : M 82 11 = 0
    · rw [if_pos ⟨h1, h2⟩]
      have u8 : ∀ x, (up M 82 11 x) 82 8 = M 82 8 := fun x => rfl
      simp (disch := omega) only [iX9_requires_0, iX9_requires_1, iX9_requires_4, iX9_requires_5, iX9_requires_8, iX9_requires_11, iX9_requires_12, iX9_requires_13, iX9_requires_16, iX9_requires_17, iX9_requires_18, iX9_requires_21, iX9_requires_24, true_or, or_true, Option.bind_some, Option.bind_none, kk_hp, kn_hp, el_i, el_b, el_z, am_cat_nil, am_cat_i, am_cat_r, am_cat_l, am_cat_n, gd_i, gd_r, gd_n, gd_u, List.length_cons, List.length_nil, true_and, and_true, ↓reduceIte, Nat.zero_le, Nat.reduceLeDiff, Nat.reduceAdd, e_10, e_01, e_00, e_11, Int32.reduceLE, Int32.reduceLT, Int32.reduceAdd, Int32.reduceSub, b01, if_true, if_false, ite_self, rc_82, gf_82_0, gf_82_1, gf_82_2, gf_82_3, gf_82_4, gf_82_5, gf_82_6, pf_82_6, gf_82_7, pf_82_7, gf_82_8, pf_82_8, gf_82_9, pf_82_9, gf_82_10, pf_82_10, gf_82_11, pf_82_11, gf_82_12, pf_82_12, gf_82_13, gf_82_14, gf_82_15, gf_82_16, pf_82_16, gf_82_17, gf_82_18, gf_82_19, gf_82_20, gf_82_21, gf_82_22, gf_82_23, gf_82_24, gf_82_25, pf_82_25, ga_83, wi_83, ga_84, wi_84, ga_85, wb_85, ga_86, wi_86, ga_87, wb_87, ga_88, wi_88, ga_89, wi_89, ga_90, wi_90, ga_91, wi_91, ga_92, wi_92, ga_93, wi_93, ga_94, wi_94, ga_95, wi_95, ga_96, wb_96, ga_97, wi_97, ga_98, wi_98, ga_99, wi_99, h1, h2, u8]
    · rw [if_neg (fun z => h2 z.2)]
      simp (disch := omega) only [iX9_requires_0, iX9_requires_1, iX9_requires_4, iX9_requires_5, iX9_requires_8, iX9_requires_11, iX9_requires_12, iX9_requires_13, iX9_requires_16, iX9_requires_17, iX9_requires_18, iX9_requires_21, iX9_requires_24, true_or, or_true, Option.bind_some, Option.bind_none, kk_hp, kn_hp, el_i, el_b, el_z, am_cat_nil, am_cat_i, am_cat_r, am_cat_l, am_cat_n, gd_i, gd_r, gd_n, gd_u, List.length_cons, List.length_nil, true_and, and_true, ↓reduceIte, Nat.zero_le, Nat.reduceLeDiff, Nat.reduceAdd, e_10, e_01, e_00, e_11, Int32.reduceLE, Int32.reduceLT, Int32.reduceAdd, Int32.reduceSub, b01, if_true, if_false, ite_self, rc_82, gf_82_0, gf_82_1, gf_82_2, gf_82_3, gf_82_4, gf_82_5, gf_82_6, pf_82_6, gf_82_7, pf_82_7, gf_82_8, pf_82_8, gf_82_9, pf_82_9, gf_82_10, pf_82_10, gf_82_11, pf_82_11, gf_82_12, pf_82_12, gf_82_13, gf_82_14, gf_82_15, gf_82_16, pf_82_16, gf_82_17, gf_82_18, gf_82_19, gf_82_20, gf_82_21, gf_82_22, gf_82_23, gf_82_24, gf_82_25, pf_82_25, ga_83, wi_83, ga_84, wi_84, ga_85, wb_85, ga_86, wi_86, ga_87, wb_87, ga_88, wi_88, ga_89, wi_89, ga_90, wi_90, ga_91, wi_91, ga_92, wi_92, ga_93, wi_93, ga_94, wi_94, ga_95, wi_95, ga_96, wb_96, ga_97, wi_97, ga_98, wi_98, ga_99, wi_99, h1, h2]
  · rw [if_neg (fun z => h1 z.1)]
    simp (disch := omega) only [iX9_requires_0, iX9_requires_1, iX9_requires_4, iX9_requires_5, iX9_requires_8, iX9_requires_11, iX9_requires_12, iX9_requires_13, iX9_requires_16, iX9_requires_17, iX9_requires_18, iX9_requires_21, iX9_requires_24, true_or, or_true, Option.bind_some, Option.bind_none, kk_hp, kn_hp, el_i, el_b, el_z, am_cat_nil, am_cat_i, am_cat_r, am_cat_l, am_cat_n, gd_i, gd_r, gd_n, gd_u, List.length_cons, List.length_nil, true_and, and_true, ↓reduceIte, Nat.zero_le, Nat.reduceLeDiff, Nat.reduceAdd, e_10, e_01, e_00, e_11, Int32.reduceLE, Int32.reduceLT, Int32.reduceAdd, Int32.reduceSub, b01, if_true, if_false, ite_self, rc_82, gf_82_0, gf_82_1, gf_82_2, gf_82_3, gf_82_4, gf_82_5, gf_82_6, pf_82_6, gf_82_7, pf_82_7, gf_82_8, pf_82_8, gf_82_9, pf_82_9, gf_82_10, pf_82_10, gf_82_11, pf_82_11, gf_82_12, pf_82_12, gf_82_13, gf_82_14, gf_82_15, gf_82_16, pf_82_16, gf_82_17, gf_82_18, gf_82_19, gf_82_20, gf_82_21, gf_82_22, gf_82_23, gf_82_24, gf_82_25, pf_82_25, ga_83, wi_83, ga_84, wi_84, ga_85, wb_85, ga_86, wi_86, ga_87, wb_87, ga_88, wi_88, ga_89, wi_89, ga_90, wi_90, ga_91, wi_91, ga_92, wi_92, ga_93, wi_93, ga_94, wi_94, ga_95, wi_95, ga_96, wb_96, ga_97, wi_97, ga_98, wi_98, ga_99, wi_99, h1]
theorem M_req1 {c : Int32} : am_ev X kX9_requires 0 [.ref 82, .int 1, .int c] [] (hp M) = some (none, hp M) := by
  rw [M_requires, if_neg (fun z => absurd z.1 (by decide))]
theorem M_reqF {g c : Int32} (h : M 82 11 ≠ 0) : am_ev X kX9_requires 0 [.ref 82, .int g, .int c] [] (hp M) = some (none, hp M) := by
  rw [M_requires, if_neg (fun z => h z.2)]
theorem M_req0 {c : Int32} (h : M 82 11 = 0) : am_ev X kX9_requires 0 [.ref 82, .int 0, .int c] [] (hp M) = some (none, hp (up (up M 82 11 c) 82 12 (M 82 8))) := by
  rw [M_requires, if_pos ⟨rfl, h⟩]
theorem bA_L {n p : Nat} {b : Nat → Nat} (hb : p < n → b p < 128) : am_ev X kX9_in 0 [.long (bA n b p).toInt64, am_u, .long 97, am_u, .long 122, am_u] [] (hp M) = some (some (.int (bI (cLt n b p))), hp M) := by
  have e := @M_in X M (bA n b p).toInt64 97 122
  simp (disch := decide) only [wl, wl_l, wl_r] at e
  rw [e]
  congr 4
  unfold bA cLt
  by_cases hn : p < n
  · have := hb hn
    rw [if_pos hn]
    by_cases hq : 97 ≤ b p ∧ b p ≤ 122
    · rw [if_pos ⟨by rw [le_ln (by omega) (by decide)]; exact hq.1, by rw [le_nl (by omega) (by decide)]; exact hq.2⟩, decide_eq_true ⟨hn, hq⟩]; rfl
    · rw [if_neg (fun z => hq ⟨by have := z.1; rw [le_ln (by omega) (by decide)] at this; exact this, by have := z.2; rw [le_nl (by omega) (by decide)] at this; exact this⟩), decide_eq_false (fun z => hq z.2)]; rfl
  · rw [if_neg hn, if_neg (by decide), decide_eq_false (fun z => hn z.1)]; rfl
theorem bA_D {n p : Nat} {b : Nat → Nat} (hb : p < n → b p < 128) : am_ev X kX9_in 0 [.long (bA n b p).toInt64, am_u, .long 48, am_u, .long 57, am_u] [] (hp M) = some (some (.int (bI (cDg n b p))), hp M) := by
  have e := @M_in X M (bA n b p).toInt64 48 57
  simp (disch := decide) only [wl, wl_l, wl_r] at e
  rw [e]
  congr 4
  unfold bA cDg
  by_cases hn : p < n
  · have := hb hn
    rw [if_pos hn]
    by_cases hq : 48 ≤ b p ∧ b p ≤ 57
    · rw [if_pos ⟨by rw [le_ln (by omega) (by decide)]; exact hq.1, by rw [le_nl (by omega) (by decide)]; exact hq.2⟩, decide_eq_true ⟨hn, hq⟩]; rfl
    · rw [if_neg (fun z => hq ⟨by have := z.1; rw [le_ln (by omega) (by decide)] at this; exact this, by have := z.2; rw [le_nl (by omega) (by decide)] at this; exact this⟩), decide_eq_false (fun z => hq z.2)]; rfl
  · rw [if_neg hn, if_neg (by decide), decide_eq_false (fun z => hn z.1)]; rfl
/-- the reference holds the token from p on -/
def TK (M : Nat → Nat → Int32) (n : Nat) (b : Nat → Nat) (p : Nat) : Prop :=
  M 82 7 = nI (tB n b p) ∧ M 82 8 = nI (tS n b p) ∧ (tK n b p = 4 → M 82 11 = 1 ∧ M 82 12 = nI (tS n b p)) ∧ (tK n b p ≠ 4 → M 82 11 = 0 ∧ M 82 9 = nI (tK n b p)) ∧ (tK n b p = 2 → M 82 10 = tV n b p) ∧ (tK n b p = 4 → M 82 9 ≠ 1)
theorem M_readsF (h : 0 < M 82 11) : am_ev X kX9_reads 0 [.ref 82, am_u] [] (hp M) = some (none, hp M) := by
  simp (disch := omega) only [iX9_reads_0, iX9_reads_1, iX9_reads_4, iX9_reads_7, true_or, or_true, Option.bind_some, Option.bind_none, kk_hp, kn_hp, el_i, el_b, el_z, am_cat_nil, am_cat_i, am_cat_r, am_cat_l, am_cat_n, gd_i, gd_r, gd_n, gd_u, List.length_cons, List.length_nil, true_and, and_true, ↓reduceIte, Nat.zero_le, Nat.reduceLeDiff, Nat.reduceAdd, e_10, e_01, e_00, e_11, Int32.reduceLE, Int32.reduceLT, Int32.reduceAdd, Int32.reduceSub, b01, if_true, if_false, ite_self, rc_82, gf_82_0, gf_82_1, gf_82_2, gf_82_3, gf_82_4, gf_82_5, gf_82_6, pf_82_6, gf_82_7, pf_82_7, gf_82_8, pf_82_8, gf_82_9, pf_82_9, gf_82_10, pf_82_10, gf_82_11, pf_82_11, gf_82_12, pf_82_12, gf_82_13, gf_82_14, gf_82_15, gf_82_16, pf_82_16, gf_82_17, gf_82_18, gf_82_19, gf_82_20, gf_82_21, gf_82_22, gf_82_23, gf_82_24, gf_82_25, pf_82_25, ga_83, wi_83, ga_84, wi_84, ga_85, wb_85, ga_86, wi_86, ga_87, wb_87, ga_88, wi_88, ga_89, wi_89, ga_90, wi_90, ga_91, wi_91, ga_92, wi_92, ga_93, wi_93, ga_94, wi_94, ga_95, wi_95, ga_96, wb_96, ga_97, wi_97, ga_98, wi_98, ga_99, wi_99, Int32.not_le.mpr h]
theorem M_reads {n p : Nat} {b : Nat → Nat} (ht : TQ M n b) (h7 : M 82 7 = nI p) (hpn : p ≤ n) (hf : M 82 11 = 0) : ∃ M', am_ev X kX9_reads 0 [.ref 82, am_u] [] (hp M) = some (none, hp M') ∧ (∀ a, a ≠ 82 → M' a = M a) ∧ (∀ j, j < 7 ∨ 12 < j → M' 82 j = M 82 j) ∧ TK M' n b p := by
  have hn := ht.1
  obtain ⟨s1, s2, s3, s4⟩ := @tS_p n p b hpn
  have hby : ∀ q, q < n → b q < 128 := fun q hq => (ht.2.2 q hq).2
  have e1 := chain (fun q => am_ev X kX9_reads 8 [.ref 82, am_u] [] (hp (up M 82 7 (nI q)))) p (tS n b p) s1 (fun q h1 h2 => by
    have hs := of_decide_eq_true (s3 q h1 h2)
    have w7 : ∀ x, (up M 82 7 x) 82 7 = x := fun x => by rw [up_s, pk_us]
    have eb := @M_byteAt X (up M 82 7 (nI q)) n q b (TQ_up ht (by decide)) (by omega)
    have e32 : bA n b q = 32 := by unfold bA; rw [if_pos hs.1, hs.2]; rfl
    rw [e32] at eb
    conv => lhs; rw [iX9_reads_8]
    simp (disch := omega) only [iX9_reads_9, iX9_reads_10, iX9_reads_13, iX9_reads_16, iX9_reads_18, iX9_reads_21, iX9_reads_22, iX9_reads_23, iX9_reads_26, iX9_reads_27, iX9_reads_28, iX9_reads_31, true_or, or_true, Option.bind_some, Option.bind_none, kk_hp, kn_hp, el_i, el_b, el_z, am_cat_nil, am_cat_i, am_cat_r, am_cat_l, am_cat_n, gd_i, gd_r, gd_n, gd_u, List.length_cons, List.length_nil, true_and, and_true, ↓reduceIte, Nat.zero_le, Nat.reduceLeDiff, Nat.reduceAdd, e_10, e_01, e_00, e_11, Int32.reduceLE, Int32.reduceLT, Int32.reduceAdd, Int32.reduceSub, b01, if_true, if_false, ite_self, rc_82, gf_82_0, gf_82_1, gf_82_2, gf_82_3, gf_82_4, gf_82_5, gf_82_6, pf_82_6, gf_82_7, pf_82_7, gf_82_8, pf_82_8, gf_82_9, pf_82_9, gf_82_10, pf_82_10, gf_82_11, pf_82_11, gf_82_12, pf_82_12, gf_82_13, gf_82_14, gf_82_15, gf_82_16, pf_82_16, gf_82_17, gf_82_18, gf_82_19, gf_82_20, gf_82_21, gf_82_22, gf_82_23, gf_82_24, gf_82_25, pf_82_25, ga_83, wi_83, ga_84, wi_84, ga_85, wb_85, ga_86, wi_86, ga_87, wb_87, ga_88, wi_88, ga_89, wi_89, ga_90, wi_90, ga_91, wi_91, ga_92, wi_92, ga_93, wi_93, ga_94, wi_94, ga_95, wi_95, ga_96, wb_96, ga_97, wi_97, ga_98, wi_98, ga_99, wi_99, nl_add, nl_add', nl_mul, nI_add, in_t, cl_n, le_nn, lt_nn, le_ln, le_nl, lt_nl, lt_ln, eq_nn, eq_nl, in_lit, cl_lit, Nat.le_refl, Nat.add_zero, w7, eb, up_up2])
  have e0 : up M 82 7 (nI p) = M := by rw [← h7, up_self]
  rw [e0] at e1
  have hle : M 82 11 ≤ 0 := by rw [hf]; decide
  have st0 : am_ev X kX9_reads 0 [.ref 82, am_u] [] (hp M) = am_ev X kX9_reads 8 [.ref 82, am_u] [] (hp M) := by
    simp (disch := omega) only [iX9_reads_0, iX9_reads_1, iX9_reads_4, iX9_reads_7, true_or, or_true, Option.bind_some, Option.bind_none, kk_hp, kn_hp, el_i, el_b, el_z, am_cat_nil, am_cat_i, am_cat_r, am_cat_l, am_cat_n, gd_i, gd_r, gd_n, gd_u, List.length_cons, List.length_nil, true_and, and_true, ↓reduceIte, Nat.zero_le, Nat.reduceLeDiff, Nat.reduceAdd, e_10, e_01, e_00, e_11, Int32.reduceLE, Int32.reduceLT, Int32.reduceAdd, Int32.reduceSub, b01, if_true, if_false, ite_self, rc_82, gf_82_0, gf_82_1, gf_82_2, gf_82_3, gf_82_4, gf_82_5, gf_82_6, pf_82_6, gf_82_7, pf_82_7, gf_82_8, pf_82_8, gf_82_9, pf_82_9, gf_82_10, pf_82_10, gf_82_11, pf_82_11, gf_82_12, pf_82_12, gf_82_13, gf_82_14, gf_82_15, gf_82_16, pf_82_16, gf_82_17, gf_82_18, gf_82_19, gf_82_20, gf_82_21, gf_82_22, gf_82_23, gf_82_24, gf_82_25, pf_82_25, ga_83, wi_83, ga_84, wi_84, ga_85, wb_85, ga_86, wi_86, ga_87, wb_87, ga_88, wi_88, ga_89, wi_89, ga_90, wi_90, ga_91, wi_91, ga_92, wi_92, ga_93, wi_93, ga_94, wi_94, ga_95, wi_95, ga_96, wb_96, ga_97, wi_97, ga_98, wi_98, ga_99, wi_99, hle]
  have eb := @M_byteAt X (up M 82 7 (nI (tS n b p))) n (tS n b p) b (TQ_up ht (by decide)) (by omega)
  have n32 : ¬ bA n b (tS n b p) = 32 := by
    unfold bA
    by_cases hlt : tS n b p < n
    · rw [if_pos hlt]
      intro z
      have := hby _ hlt
      have := nI_inj (by omega) (by decide) (z.trans (show (32 : Int32) = nI 32 from rfl))
      rw [show cSp n b (tS n b p) = true from decide_eq_true ⟨hlt, this⟩] at s4
      exact absurd s4 (by decide)
    · rw [if_neg hlt]; decide
  generalize hK : up (up M 82 7 (nI (tS n b p))) 82 8 (nI (tS n b p)) = K
  have e2 : am_ev X kX9_reads 0 [.ref 82, am_u] [] (hp M) = am_ev X kX9_reads 51 [.ref 82, .int (bA n b (tS n b p))] [] (hp K) := by
    have w7 : (up M 82 7 (nI (tS n b p))) 82 7 = nI (tS n b p) := by rw [up_s, pk_us]
    have w7' : K 82 7 = nI (tS n b p) := by rw [← hK]; rfl
    have ebK := @M_byteAt X K n (tS n b p) b (by rw [← hK]; exact TQ_up (TQ_up ht (by decide)) (by decide)) (by omega)
    rw [st0, e1]
    simp (disch := omega) only [iX9_reads_8, iX9_reads_9, iX9_reads_10, iX9_reads_13, iX9_reads_16, iX9_reads_18, iX9_reads_21, iX9_reads_22, iX9_reads_23, iX9_reads_26, iX9_reads_27, iX9_reads_28, iX9_reads_34, iX9_reads_35, iX9_reads_36, iX9_reads_39, iX9_reads_42, iX9_reads_43, iX9_reads_44, iX9_reads_47, iX9_reads_50, true_or, or_true, Option.bind_some, Option.bind_none, kk_hp, kn_hp, el_i, el_b, el_z, am_cat_nil, am_cat_i, am_cat_r, am_cat_l, am_cat_n, gd_i, gd_r, gd_n, gd_u, List.length_cons, List.length_nil, true_and, and_true, ↓reduceIte, Nat.zero_le, Nat.reduceLeDiff, Nat.reduceAdd, e_10, e_01, e_00, e_11, Int32.reduceLE, Int32.reduceLT, Int32.reduceAdd, Int32.reduceSub, b01, if_true, if_false, ite_self, rc_82, gf_82_0, gf_82_1, gf_82_2, gf_82_3, gf_82_4, gf_82_5, gf_82_6, pf_82_6, gf_82_7, pf_82_7, gf_82_8, pf_82_8, gf_82_9, pf_82_9, gf_82_10, pf_82_10, gf_82_11, pf_82_11, gf_82_12, pf_82_12, gf_82_13, gf_82_14, gf_82_15, gf_82_16, pf_82_16, gf_82_17, gf_82_18, gf_82_19, gf_82_20, gf_82_21, gf_82_22, gf_82_23, gf_82_24, gf_82_25, pf_82_25, ga_83, wi_83, ga_84, wi_84, ga_85, wb_85, ga_86, wi_86, ga_87, wb_87, ga_88, wi_88, ga_89, wi_89, ga_90, wi_90, ga_91, wi_91, ga_92, wi_92, ga_93, wi_93, ga_94, wi_94, ga_95, wi_95, ga_96, wb_96, ga_97, wi_97, ga_98, wi_98, ga_99, wi_99, nl_add, nl_add', nl_mul, nI_add, in_t, cl_n, le_nn, lt_nn, le_ln, le_nl, lt_nl, lt_ln, eq_nn, eq_nl, in_lit, cl_lit, Nat.le_refl, Nat.add_zero, w7, eb, n32, hK, w7', ebK]
  have tK' : TQ K n b := by rw [← hK]; exact TQ_up (TQ_up ht (by decide)) (by decide)
  have fK : ∀ a, a ≠ 82 → K a = M a := fun a ha => by rw [← hK, up_n _ _ _ ha, up_n _ _ _ ha]
  have fK2 : ∀ j, j ≠ 7 → j ≠ 8 → K 82 j = M 82 j := fun j h1 h2 => by rw [← hK, up_s, pk_un h2, up_s, pk_un h1]
  have k7 : K 82 7 = nI (tS n b p) := by rw [← hK]; rfl
  have k8 : K 82 8 = nI (tS n b p) := by rw [← hK]; rfl
  have k11 : K 82 11 = 0 := by rw [fK2 11 (by decide) (by decide)]; exact hf
  rw [e2]
  clear e1 e2 eb st0 hK e0 h7 s3
  unfold TK
  generalize hs : tS n b p = s at *
  by_cases hend : n ≤ s
  · have hk : tK n b p = 0 := by unfold tK; rw [hs, if_pos hend]
    have hb : tB n b p = s := by unfold tB; rw [hs, if_pos hend]
    have hA : bA n b s = -1 := by unfold bA; rw [if_neg (by omega)]
    refine ⟨up K 82 9 0, ?_, fun a ha => by rw [up_n _ _ _ ha]; exact fK a ha, fun j hj => by rw [up_s, pk_un (by omega)]; exact fK2 j (by omega) (by omega), by rw [hb]; exact k7, k8, fun z => by rw [hk] at z; omega, fun _ => ⟨k11, by rw [hk]; rfl⟩, fun z => by rw [hk] at z; omega, fun z => by rw [hk] at z; omega⟩
    rw [hA]
    simp (disch := omega) only [iX9_reads_51, iX9_reads_52, iX9_reads_55, iX9_reads_56, iX9_reads_57, iX9_reads_60, iX9_reads_274, true_or, or_true, Option.bind_some, Option.bind_none, kk_hp, kn_hp, el_i, el_b, el_z, am_cat_nil, am_cat_i, am_cat_r, am_cat_l, am_cat_n, gd_i, gd_r, gd_n, gd_u, List.length_cons, List.length_nil, true_and, and_true, ↓reduceIte, Nat.zero_le, Nat.reduceLeDiff, Nat.reduceAdd, e_10, e_01, e_00, e_11, Int32.reduceLE, Int32.reduceLT, Int32.reduceAdd, Int32.reduceSub, b01, if_true, if_false, ite_self, rc_82, gf_82_0, gf_82_1, gf_82_2, gf_82_3, gf_82_4, gf_82_5, gf_82_6, pf_82_6, gf_82_7, pf_82_7, gf_82_8, pf_82_8, gf_82_9, pf_82_9, gf_82_10, pf_82_10, gf_82_11, pf_82_11, gf_82_12, pf_82_12, gf_82_13, gf_82_14, gf_82_15, gf_82_16, pf_82_16, gf_82_17, gf_82_18, gf_82_19, gf_82_20, gf_82_21, gf_82_22, gf_82_23, gf_82_24, gf_82_25, pf_82_25, ga_83, wi_83, ga_84, wi_84, ga_85, wb_85, ga_86, wi_86, ga_87, wb_87, ga_88, wi_88, ga_89, wi_89, ga_90, wi_90, ga_91, wi_91, ga_92, wi_92, ga_93, wi_93, ga_94, wi_94, ga_95, wi_95, ga_96, wb_96, ga_97, wi_97, ga_98, wi_98, ga_99, wi_99, nl_add, nl_add', nl_mul, nI_add, in_t, cl_n, le_nn, lt_nn, le_ln, le_nl, lt_nl, lt_ln, eq_nn, eq_nl, in_lit, cl_lit, Nat.le_refl, Nat.add_zero]
  · have hA : bA n b s = nI (b s) := by unfold bA; rw [if_pos (by omega)]
    have hA0 : (0 : Int32) ≤ bA n b s := by rw [hA, le_ln (by have := hby s (by omega); omega) (by decide)]; exact Nat.zero_le _
    have eL := @bA_L X K n s b (fun h => hby s h)
    have eD := @bA_D X K n s b (fun h => hby s h)
    by_cases hlt : cLt n b s = true
    · have hk : tK n b p = 1 := by unfold tK; rw [hs, if_neg hend, if_pos hlt]
      have hb : tB n b p = tL n b s := by unfold tB; rw [hs, if_neg hend, if_pos hlt]
      obtain ⟨l1, l2, l3, l4⟩ := @tL_p n s b (by omega)
      rw [hlt, bI_t] at eL
      have e3 := chain (fun q => am_ev X kX9_reads 82 [.ref 82, .int (bA n b s)] [] (hp (up (up K 82 9 1) 82 7 (nI q)))) s (tL n b s) l1 (fun q h1 h2 => by
        have hq := l3 q h1 h2
        have w7 : ∀ x, (up (up K 82 9 1) 82 7 x) 82 7 = x := fun x => by rw [up_s, pk_us]
        have eb := @M_byteAt X (up (up K 82 9 1) 82 7 (nI q)) n q b (TQ_up (TQ_up tK' (by decide)) (by decide)) (by omega)
        have el := @bA_L X (up (up K 82 9 1) 82 7 (nI q)) n q b (fun h => hby q h)
        rw [hq, bI_t] at el
        conv => lhs; rw [iX9_reads_82]
        simp (disch := omega) only [iX9_reads_83, iX9_reads_84, iX9_reads_87, iX9_reads_90, iX9_reads_91, iX9_reads_94, iX9_reads_97, iX9_reads_100, iX9_reads_103, iX9_reads_104, iX9_reads_105, iX9_reads_108, iX9_reads_109, iX9_reads_110, iX9_reads_113, true_or, or_true, Option.bind_some, Option.bind_none, kk_hp, kn_hp, el_i, el_b, el_z, am_cat_nil, am_cat_i, am_cat_r, am_cat_l, am_cat_n, gd_i, gd_r, gd_n, gd_u, List.length_cons, List.length_nil, true_and, and_true, ↓reduceIte, Nat.zero_le, Nat.reduceLeDiff, Nat.reduceAdd, e_10, e_01, e_00, e_11, Int32.reduceLE, Int32.reduceLT, Int32.reduceAdd, Int32.reduceSub, b01, if_true, if_false, ite_self, rc_82, gf_82_0, gf_82_1, gf_82_2, gf_82_3, gf_82_4, gf_82_5, gf_82_6, pf_82_6, gf_82_7, pf_82_7, gf_82_8, pf_82_8, gf_82_9, pf_82_9, gf_82_10, pf_82_10, gf_82_11, pf_82_11, gf_82_12, pf_82_12, gf_82_13, gf_82_14, gf_82_15, gf_82_16, pf_82_16, gf_82_17, gf_82_18, gf_82_19, gf_82_20, gf_82_21, gf_82_22, gf_82_23, gf_82_24, gf_82_25, pf_82_25, ga_83, wi_83, ga_84, wi_84, ga_85, wb_85, ga_86, wi_86, ga_87, wb_87, ga_88, wi_88, ga_89, wi_89, ga_90, wi_90, ga_91, wi_91, ga_92, wi_92, ga_93, wi_93, ga_94, wi_94, ga_95, wi_95, ga_96, wb_96, ga_97, wi_97, ga_98, wi_98, ga_99, wi_99, nl_add, nl_add', nl_mul, nI_add, in_t, cl_n, le_nn, lt_nn, le_ln, le_nl, lt_nl, lt_ln, eq_nn, eq_nl, in_lit, cl_lit, Nat.le_refl, Nat.add_zero, w7, eb, el, up_up2])
      have e4 : up (up K 82 9 1) 82 7 (nI s) = up K 82 9 1 := by
        have : nI s = (up K 82 9 1) 82 7 := by rw [up_s, pk_un (by decide)]; exact k7.symm
        rw [this, up_self]
      rw [e4] at e3
      have eb := @M_byteAt X (up (up K 82 9 1) 82 7 (nI (tL n b s))) n (tL n b s) b (TQ_up (TQ_up tK' (by decide)) (by decide)) (by omega)
      have el := @bA_L X (up (up K 82 9 1) 82 7 (nI (tL n b s))) n (tL n b s) b (fun h => hby _ h)
      rw [l4, bI_f] at el
      have w7 : (up (up K 82 9 1) 82 7 (nI (tL n b s))) 82 7 = nI (tL n b s) := by rw [up_s, pk_us]
      refine ⟨up (up K 82 9 1) 82 7 (nI (tL n b s)), ?_, fun a ha => by rw [up_n _ _ _ ha, up_n _ _ _ ha]; exact fK a ha, fun j hj => by rw [up_s, pk_un (by omega), up_s, pk_un (by omega)]; exact fK2 j (by omega) (by omega), by rw [hb]; exact w7, k8, fun z => by rw [hk] at z; omega, fun _ => ⟨k11, by rw [hk]; rfl⟩, fun z => by rw [hk] at z; omega, fun z => by rw [hk] at z; omega⟩
      simp (disch := omega) only [iX9_reads_51, iX9_reads_52, iX9_reads_55, iX9_reads_56, iX9_reads_57, iX9_reads_60, iX9_reads_63, iX9_reads_64, iX9_reads_65, iX9_reads_68, iX9_reads_71, iX9_reads_74, iX9_reads_77, iX9_reads_78, iX9_reads_79, true_or, or_true, Option.bind_some, Option.bind_none, kk_hp, kn_hp, el_i, el_b, el_z, am_cat_nil, am_cat_i, am_cat_r, am_cat_l, am_cat_n, gd_i, gd_r, gd_n, gd_u, List.length_cons, List.length_nil, true_and, and_true, ↓reduceIte, Nat.zero_le, Nat.reduceLeDiff, Nat.reduceAdd, e_10, e_01, e_00, e_11, Int32.reduceLE, Int32.reduceLT, Int32.reduceAdd, Int32.reduceSub, b01, if_true, if_false, ite_self, rc_82, gf_82_0, gf_82_1, gf_82_2, gf_82_3, gf_82_4, gf_82_5, gf_82_6, pf_82_6, gf_82_7, pf_82_7, gf_82_8, pf_82_8, gf_82_9, pf_82_9, gf_82_10, pf_82_10, gf_82_11, pf_82_11, gf_82_12, pf_82_12, gf_82_13, gf_82_14, gf_82_15, gf_82_16, pf_82_16, gf_82_17, gf_82_18, gf_82_19, gf_82_20, gf_82_21, gf_82_22, gf_82_23, gf_82_24, gf_82_25, pf_82_25, ga_83, wi_83, ga_84, wi_84, ga_85, wb_85, ga_86, wi_86, ga_87, wb_87, ga_88, wi_88, ga_89, wi_89, ga_90, wi_90, ga_91, wi_91, ga_92, wi_92, ga_93, wi_93, ga_94, wi_94, ga_95, wi_95, ga_96, wb_96, ga_97, wi_97, ga_98, wi_98, ga_99, wi_99, nl_add, nl_add', nl_mul, nI_add, in_t, cl_n, le_nn, lt_nn, le_ln, le_nl, lt_nl, lt_ln, eq_nn, eq_nl, in_lit, cl_lit, Nat.le_refl, Nat.add_zero, hA0, eL]
      rw [e3]
      simp (disch := omega) only [iX9_reads_82, iX9_reads_83, iX9_reads_84, iX9_reads_87, iX9_reads_90, iX9_reads_91, iX9_reads_94, iX9_reads_97, iX9_reads_100, iX9_reads_274, true_or, or_true, Option.bind_some, Option.bind_none, kk_hp, kn_hp, el_i, el_b, el_z, am_cat_nil, am_cat_i, am_cat_r, am_cat_l, am_cat_n, gd_i, gd_r, gd_n, gd_u, List.length_cons, List.length_nil, true_and, and_true, ↓reduceIte, Nat.zero_le, Nat.reduceLeDiff, Nat.reduceAdd, e_10, e_01, e_00, e_11, Int32.reduceLE, Int32.reduceLT, Int32.reduceAdd, Int32.reduceSub, b01, if_true, if_false, ite_self, rc_82, gf_82_0, gf_82_1, gf_82_2, gf_82_3, gf_82_4, gf_82_5, gf_82_6, pf_82_6, gf_82_7, pf_82_7, gf_82_8, pf_82_8, gf_82_9, pf_82_9, gf_82_10, pf_82_10, gf_82_11, pf_82_11, gf_82_12, pf_82_12, gf_82_13, gf_82_14, gf_82_15, gf_82_16, pf_82_16, gf_82_17, gf_82_18, gf_82_19, gf_82_20, gf_82_21, gf_82_22, gf_82_23, gf_82_24, gf_82_25, pf_82_25, ga_83, wi_83, ga_84, wi_84, ga_85, wb_85, ga_86, wi_86, ga_87, wb_87, ga_88, wi_88, ga_89, wi_89, ga_90, wi_90, ga_91, wi_91, ga_92, wi_92, ga_93, wi_93, ga_94, wi_94, ga_95, wi_95, ga_96, wb_96, ga_97, wi_97, ga_98, wi_98, ga_99, wi_99, nl_add, nl_add', nl_mul, nI_add, in_t, cl_n, le_nn, lt_nn, le_ln, le_nl, lt_nl, lt_ln, eq_nn, eq_nl, in_lit, cl_lit, Nat.le_refl, Nat.add_zero, w7, eb, el]
    · rw [Bool.eq_false_iff.mpr hlt, bI_f] at eL
      by_cases hdg : cDg n b s = true
      · have hb : tB n b p = tD n b s := by unfold tB; rw [hs, if_neg hend, if_neg hlt, if_pos hdg]
        obtain ⟨d1, d2, d3, d4⟩ := @tD_p n s b (by omega)
        rw [hdg, bI_t] at eD
        have tQ2 : ∀ x y, TQ (up (up (up K 82 9 2) 82 10 x) 82 7 y) n b := fun x y => TQ_up (TQ_up (TQ_up tK' (by decide)) (by decide)) (by decide)
        have e3 := chain (fun q => am_ev X kX9_reads 140 [.ref 82, .int (bA n b s)] [] (hp (up (up (up K 82 9 2) 82 10 (vl b s (if q - s ≤ 3 then q - s else 3))) 82 7 (nI q)))) s (tD n b s) d1 (fun q h1 h2 => by
          have hq := d3 q h1 h2
          have hqn := (of_decide_eq_true hq).1
          have w7 : ∀ x y, (up (up (up K 82 9 2) 82 10 x) 82 7 y) 82 7 = y := fun x y => by rw [up_s, pk_us]
          have w8 : ∀ x y, (up (up (up K 82 9 2) 82 10 x) 82 7 y) 82 8 = nI s := fun x y => k8
          have w10 : ∀ x y, (up (up (up K 82 9 2) 82 10 x) 82 7 y) 82 10 = x := fun x y => by rw [up_s, pk_un (by decide), up_s, pk_us]
          have ecm : ∀ x y x' y', up (up (up (up (up K 82 9 2) 82 10 x) 82 7 y) 82 10 x') 82 7 y' = up (up (up K 82 9 2) 82 10 x') 82 7 y' := fun x y x' y' => by
            rw [up_ua (up K 82 9 2), up_of, up_of, up_of, up_ua (up K 82 9 2), up_of]
            congr 1
            funext j
            by_cases h7 : j = 7
            · rw [h7, pk_us, pk_us]
            · rw [pk_un h7, pk_un h7]
              by_cases h10 : j = 10
              · rw [h10, pk_us, pk_us]
              · rw [pk_un h10, pk_un h7, pk_un h10, pk_un h10]
          have w7' : ∀ x y x', (up (up (up (up K 82 9 2) 82 10 x) 82 7 y) 82 10 x') 82 7 = y := fun x y x' => by rw [up_s, pk_un (by decide), up_s, pk_us]
          have eb := @M_byteAt X (up (up (up K 82 9 2) 82 10 (vl b s (if q - s ≤ 3 then q - s else 3))) 82 7 (nI q)) n q b (tQ2 _ _) (by omega)
          have el := @bA_D X (up (up (up K 82 9 2) 82 10 (vl b s (if q - s ≤ 3 then q - s else 3))) 82 7 (nI q)) n q b (fun h => hby q h)
          rw [hq, bI_t] at el
          have ebq : bA n b q = nI (b q) := by unfold bA; rw [if_pos hqn]
          conv => lhs; rw [iX9_reads_140]
          by_cases h3 : q - s < 3
          · have i1 : (if q - s ≤ 3 then q - s else 3) = q - s := if_pos (by omega)
            have i2 : (if q + 1 - s ≤ 3 then q + 1 - s else 3) = q - s + 1 := by rw [if_pos (by omega)]; omega
            rw [i1] at eb el ⊢
            rw [ebq] at eb el
            rw [i2, vl, show s + (q - s) = q by omega]
            simp (disch := omega) only [iX9_reads_141, iX9_reads_142, iX9_reads_145, iX9_reads_148, iX9_reads_149, iX9_reads_152, iX9_reads_155, iX9_reads_158, iX9_reads_161, iX9_reads_162, iX9_reads_163, iX9_reads_166, iX9_reads_167, iX9_reads_170, iX9_reads_171, iX9_reads_172, iX9_reads_175, iX9_reads_177, iX9_reads_178, iX9_reads_181, iX9_reads_182, iX9_reads_183, iX9_reads_184, iX9_reads_187, iX9_reads_190, iX9_reads_191, iX9_reads_193, iX9_reads_194, iX9_reads_197, iX9_reads_198, iX9_reads_201, iX9_reads_204, iX9_reads_205, iX9_reads_206, iX9_reads_209, iX9_reads_210, iX9_reads_211, iX9_reads_214, true_or, or_true, Option.bind_some, Option.bind_none, kk_hp, kn_hp, el_i, el_b, el_z, am_cat_nil, am_cat_i, am_cat_r, am_cat_l, am_cat_n, gd_i, gd_r, gd_n, gd_u, List.length_cons, List.length_nil, true_and, and_true, ↓reduceIte, Nat.zero_le, Nat.reduceLeDiff, Nat.reduceAdd, e_10, e_01, e_00, e_11, Int32.reduceLE, Int32.reduceLT, Int32.reduceAdd, Int32.reduceSub, b01, if_true, if_false, ite_self, rc_82, gf_82_0, gf_82_1, gf_82_2, gf_82_3, gf_82_4, gf_82_5, gf_82_6, pf_82_6, gf_82_7, pf_82_7, gf_82_8, pf_82_8, gf_82_9, pf_82_9, gf_82_10, pf_82_10, gf_82_11, pf_82_11, gf_82_12, pf_82_12, gf_82_13, gf_82_14, gf_82_15, gf_82_16, pf_82_16, gf_82_17, gf_82_18, gf_82_19, gf_82_20, gf_82_21, gf_82_22, gf_82_23, gf_82_24, gf_82_25, pf_82_25, ga_83, wi_83, ga_84, wi_84, ga_85, wb_85, ga_86, wi_86, ga_87, wb_87, ga_88, wi_88, ga_89, wi_89, ga_90, wi_90, ga_91, wi_91, ga_92, wi_92, ga_93, wi_93, ga_94, wi_94, ga_95, wi_95, ga_96, wb_96, ga_97, wi_97, ga_98, wi_98, ga_99, wi_99, nl_add, nl_add', nl_mul, nI_add, in_t, cl_n, le_nn, lt_nn, le_ln, le_nl, lt_nl, lt_ln, eq_nn, eq_nl, in_lit, cl_lit, Nat.le_refl, Nat.add_zero, w7, w8, w10, w7', eb, el, nI_sub', show ¬ 3 ≤ q - s by omega, ecm]
          · have i1 : (if q - s ≤ 3 then q - s else 3) = 3 := by split <;> omega
            have i2 : (if q + 1 - s ≤ 3 then q + 1 - s else 3) = 3 := by split <;> omega
            rw [i1] at eb el ⊢
            rw [i2]
            simp (disch := omega) only [iX9_reads_141, iX9_reads_142, iX9_reads_145, iX9_reads_148, iX9_reads_149, iX9_reads_152, iX9_reads_155, iX9_reads_158, iX9_reads_161, iX9_reads_162, iX9_reads_163, iX9_reads_166, iX9_reads_167, iX9_reads_170, iX9_reads_171, iX9_reads_172, iX9_reads_175, iX9_reads_177, iX9_reads_178, iX9_reads_181, iX9_reads_182, iX9_reads_183, iX9_reads_184, iX9_reads_187, iX9_reads_190, iX9_reads_191, iX9_reads_193, iX9_reads_194, iX9_reads_197, iX9_reads_198, iX9_reads_201, iX9_reads_204, iX9_reads_205, iX9_reads_206, iX9_reads_209, iX9_reads_210, iX9_reads_211, iX9_reads_214, true_or, or_true, Option.bind_some, Option.bind_none, kk_hp, kn_hp, el_i, el_b, el_z, am_cat_nil, am_cat_i, am_cat_r, am_cat_l, am_cat_n, gd_i, gd_r, gd_n, gd_u, List.length_cons, List.length_nil, true_and, and_true, ↓reduceIte, Nat.zero_le, Nat.reduceLeDiff, Nat.reduceAdd, e_10, e_01, e_00, e_11, Int32.reduceLE, Int32.reduceLT, Int32.reduceAdd, Int32.reduceSub, b01, if_true, if_false, ite_self, rc_82, gf_82_0, gf_82_1, gf_82_2, gf_82_3, gf_82_4, gf_82_5, gf_82_6, pf_82_6, gf_82_7, pf_82_7, gf_82_8, pf_82_8, gf_82_9, pf_82_9, gf_82_10, pf_82_10, gf_82_11, pf_82_11, gf_82_12, pf_82_12, gf_82_13, gf_82_14, gf_82_15, gf_82_16, pf_82_16, gf_82_17, gf_82_18, gf_82_19, gf_82_20, gf_82_21, gf_82_22, gf_82_23, gf_82_24, gf_82_25, pf_82_25, ga_83, wi_83, ga_84, wi_84, ga_85, wb_85, ga_86, wi_86, ga_87, wb_87, ga_88, wi_88, ga_89, wi_89, ga_90, wi_90, ga_91, wi_91, ga_92, wi_92, ga_93, wi_93, ga_94, wi_94, ga_95, wi_95, ga_96, wb_96, ga_97, wi_97, ga_98, wi_98, ga_99, wi_99, nl_add, nl_add', nl_mul, nI_add, in_t, cl_n, le_nn, lt_nn, le_ln, le_nl, lt_nl, lt_ln, eq_nn, eq_nl, in_lit, cl_lit, Nat.le_refl, Nat.add_zero, w7, w8, w10, w7', eb, el, nI_sub', show 3 ≤ q - s by omega, ecm])
        have e4 : up (up (up K 82 9 2) 82 10 (vl b s (if s - s ≤ 3 then s - s else 3))) 82 7 (nI s) = up (up K 82 9 2) 82 10 0 := by
          rw [Nat.sub_self, if_pos (by omega)]
          have : nI s = (up (up K 82 9 2) 82 10 (vl b s 0)) 82 7 := by rw [up_s, pk_un (by decide), up_s, pk_un (by decide)]; exact k7.symm
          rw [this, up_self]
          rfl
        rw [e4] at e3
        generalize hM' : up (up (up K 82 9 2) 82 10 (vl b s (if tD n b s - s ≤ 3 then tD n b s - s else 3))) 82 7 (nI (tD n b s)) = M' at *
        have tM' : TQ M' n b := by rw [← hM']; exact tQ2 _ _
        have m7 : M' 82 7 = nI (tD n b s) := by rw [← hM']; rfl
        have m8 : M' 82 8 = nI s := by rw [← hM']; exact k8
        have m11 : M' 82 11 = 0 := by rw [← hM']; exact k11
        have m9 : M' 82 9 = 2 := by rw [← hM']; rfl
        have m10 : M' 82 10 = vl b s (if tD n b s - s ≤ 3 then tD n b s - s else 3) := by rw [← hM']; rfl
        have fM : ∀ a, a ≠ 82 → M' a = M a := fun a ha => by rw [← hM', up_n _ _ _ ha, up_n _ _ _ ha, up_n _ _ _ ha]; exact fK a ha
        have fM2 : ∀ j, j < 7 ∨ 12 < j → M' 82 j = M 82 j := fun j hj => by rw [← hM', up_s, pk_un (by omega), up_s, pk_un (by omega), up_s, pk_un (by omega)]; exact fK2 j (by omega) (by omega)
        have eb := @M_byteAt X M' n (tD n b s) b tM' (by omega)
        have el := @bA_D X M' n (tD n b s) b (fun h => hby _ h)
        rw [d4, bI_f] at el
        have run : am_ev X kX9_reads 51 [.ref 82, .int (bA n b s)] [] (hp K) = am_ev X kX9_reads 217 [.ref 82, .int (bA n b s)] [] (hp M') := by
          simp (disch := omega) only [iX9_reads_51, iX9_reads_52, iX9_reads_55, iX9_reads_56, iX9_reads_57, iX9_reads_60, iX9_reads_63, iX9_reads_64, iX9_reads_65, iX9_reads_68, iX9_reads_71, iX9_reads_74, iX9_reads_116, iX9_reads_117, iX9_reads_118, iX9_reads_121, iX9_reads_124, iX9_reads_127, iX9_reads_130, iX9_reads_131, iX9_reads_132, iX9_reads_135, iX9_reads_136, iX9_reads_137, true_or, or_true, Option.bind_some, Option.bind_none, kk_hp, kn_hp, el_i, el_b, el_z, am_cat_nil, am_cat_i, am_cat_r, am_cat_l, am_cat_n, gd_i, gd_r, gd_n, gd_u, List.length_cons, List.length_nil, true_and, and_true, ↓reduceIte, Nat.zero_le, Nat.reduceLeDiff, Nat.reduceAdd, e_10, e_01, e_00, e_11, Int32.reduceLE, Int32.reduceLT, Int32.reduceAdd, Int32.reduceSub, b01, if_true, if_false, ite_self, rc_82, gf_82_0, gf_82_1, gf_82_2, gf_82_3, gf_82_4, gf_82_5, gf_82_6, pf_82_6, gf_82_7, pf_82_7, gf_82_8, pf_82_8, gf_82_9, pf_82_9, gf_82_10, pf_82_10, gf_82_11, pf_82_11, gf_82_12, pf_82_12, gf_82_13, gf_82_14, gf_82_15, gf_82_16, pf_82_16, gf_82_17, gf_82_18, gf_82_19, gf_82_20, gf_82_21, gf_82_22, gf_82_23, gf_82_24, gf_82_25, pf_82_25, ga_83, wi_83, ga_84, wi_84, ga_85, wb_85, ga_86, wi_86, ga_87, wb_87, ga_88, wi_88, ga_89, wi_89, ga_90, wi_90, ga_91, wi_91, ga_92, wi_92, ga_93, wi_93, ga_94, wi_94, ga_95, wi_95, ga_96, wb_96, ga_97, wi_97, ga_98, wi_98, ga_99, wi_99, nl_add, nl_add', nl_mul, nI_add, in_t, cl_n, le_nn, lt_nn, le_ln, le_nl, lt_nl, lt_ln, eq_nn, eq_nl, in_lit, cl_lit, Nat.le_refl, Nat.add_zero, hA0, eL, eD]
          rw [e3]
          simp (disch := omega) only [iX9_reads_140, iX9_reads_141, iX9_reads_142, iX9_reads_145, iX9_reads_148, iX9_reads_149, iX9_reads_152, iX9_reads_155, iX9_reads_158, true_or, or_true, Option.bind_some, Option.bind_none, kk_hp, kn_hp, el_i, el_b, el_z, am_cat_nil, am_cat_i, am_cat_r, am_cat_l, am_cat_n, gd_i, gd_r, gd_n, gd_u, List.length_cons, List.length_nil, true_and, and_true, ↓reduceIte, Nat.zero_le, Nat.reduceLeDiff, Nat.reduceAdd, e_10, e_01, e_00, e_11, Int32.reduceLE, Int32.reduceLT, Int32.reduceAdd, Int32.reduceSub, b01, if_true, if_false, ite_self, rc_82, gf_82_0, gf_82_1, gf_82_2, gf_82_3, gf_82_4, gf_82_5, gf_82_6, pf_82_6, gf_82_7, pf_82_7, gf_82_8, pf_82_8, gf_82_9, pf_82_9, gf_82_10, pf_82_10, gf_82_11, pf_82_11, gf_82_12, pf_82_12, gf_82_13, gf_82_14, gf_82_15, gf_82_16, pf_82_16, gf_82_17, gf_82_18, gf_82_19, gf_82_20, gf_82_21, gf_82_22, gf_82_23, gf_82_24, gf_82_25, pf_82_25, ga_83, wi_83, ga_84, wi_84, ga_85, wb_85, ga_86, wi_86, ga_87, wb_87, ga_88, wi_88, ga_89, wi_89, ga_90, wi_90, ga_91, wi_91, ga_92, wi_92, ga_93, wi_93, ga_94, wi_94, ga_95, wi_95, ga_96, wb_96, ga_97, wi_97, ga_98, wi_98, ga_99, wi_99, nl_add, nl_add', nl_mul, nI_add, in_t, cl_n, le_nn, lt_nn, le_ln, le_nl, lt_nl, lt_ln, eq_nn, eq_nl, in_lit, cl_lit, Nat.le_refl, Nat.add_zero, m7, eb, el]
        rw [run]
        by_cases h3 : tD n b s - s ≤ 3
        · have hk : tK n b p = 2 := by unfold tK; rw [hs, if_neg hend, if_neg hlt, if_pos hdg, if_pos h3]
          refine ⟨M', ?_, fM, fM2, by rw [hb]; exact m7, m8, fun z => by rw [hk] at z; omega, fun _ => ⟨m11, by rw [hk]; exact m9⟩, fun _ => ?_, fun z => by rw [hk] at z; omega⟩
          · simp (disch := omega) only [iX9_reads_217, iX9_reads_218, iX9_reads_219, iX9_reads_222, iX9_reads_223, iX9_reads_226, iX9_reads_227, iX9_reads_228, iX9_reads_231, iX9_reads_232, iX9_reads_235, iX9_reads_236, iX9_reads_237, iX9_reads_240, iX9_reads_274, true_or, or_true, Option.bind_some, Option.bind_none, kk_hp, kn_hp, el_i, el_b, el_z, am_cat_nil, am_cat_i, am_cat_r, am_cat_l, am_cat_n, gd_i, gd_r, gd_n, gd_u, List.length_cons, List.length_nil, true_and, and_true, ↓reduceIte, Nat.zero_le, Nat.reduceLeDiff, Nat.reduceAdd, e_10, e_01, e_00, e_11, Int32.reduceLE, Int32.reduceLT, Int32.reduceAdd, Int32.reduceSub, b01, if_true, if_false, ite_self, rc_82, gf_82_0, gf_82_1, gf_82_2, gf_82_3, gf_82_4, gf_82_5, gf_82_6, pf_82_6, gf_82_7, pf_82_7, gf_82_8, pf_82_8, gf_82_9, pf_82_9, gf_82_10, pf_82_10, gf_82_11, pf_82_11, gf_82_12, pf_82_12, gf_82_13, gf_82_14, gf_82_15, gf_82_16, pf_82_16, gf_82_17, gf_82_18, gf_82_19, gf_82_20, gf_82_21, gf_82_22, gf_82_23, gf_82_24, gf_82_25, pf_82_25, ga_83, wi_83, ga_84, wi_84, ga_85, wb_85, ga_86, wi_86, ga_87, wb_87, ga_88, wi_88, ga_89, wi_89, ga_90, wi_90, ga_91, wi_91, ga_92, wi_92, ga_93, wi_93, ga_94, wi_94, ga_95, wi_95, ga_96, wb_96, ga_97, wi_97, ga_98, wi_98, ga_99, wi_99, nl_add, nl_add', nl_mul, nI_add, in_t, cl_n, le_nn, lt_nn, le_ln, le_nl, lt_nl, lt_ln, eq_nn, eq_nl, in_lit, cl_lit, Nat.le_refl, Nat.add_zero, m7, m8, nI_sub', show ¬ 3 < tD n b s - s by omega, M_req1]
          · rw [m10, if_pos h3]; unfold tV; rw [hs]
        · have hk : tK n b p = 4 := by unfold tK; rw [hs, if_neg hend, if_neg hlt, if_pos hdg, if_neg h3]
          have er := @M_req0 X M' 1 m11
          rw [m8] at er
          refine ⟨up (up M' 82 11 1) 82 12 (nI s), ?_, fun a ha => by rw [up_n _ _ _ ha, up_n _ _ _ ha]; exact fM a ha, fun j hj => by rw [up_s, pk_un (by omega), up_s, pk_un (by omega)]; exact fM2 j hj, by rw [hb]; exact m7, m8, fun _ => ⟨rfl, rfl⟩, fun z => absurd hk z, fun z => by rw [hk] at z; omega, fun _ => by show M' 82 9 ≠ 1; rw [m9]; decide⟩
          simp (disch := omega) only [iX9_reads_217, iX9_reads_218, iX9_reads_219, iX9_reads_222, iX9_reads_223, iX9_reads_226, iX9_reads_227, iX9_reads_228, iX9_reads_231, iX9_reads_232, iX9_reads_235, iX9_reads_236, iX9_reads_237, iX9_reads_240, iX9_reads_274, true_or, or_true, Option.bind_some, Option.bind_none, kk_hp, kn_hp, el_i, el_b, el_z, am_cat_nil, am_cat_i, am_cat_r, am_cat_l, am_cat_n, gd_i, gd_r, gd_n, gd_u, List.length_cons, List.length_nil, true_and, and_true, ↓reduceIte, Nat.zero_le, Nat.reduceLeDiff, Nat.reduceAdd, e_10, e_01, e_00, e_11, Int32.reduceLE, Int32.reduceLT, Int32.reduceAdd, Int32.reduceSub, b01, if_true, if_false, ite_self, rc_82, gf_82_0, gf_82_1, gf_82_2, gf_82_3, gf_82_4, gf_82_5, gf_82_6, pf_82_6, gf_82_7, pf_82_7, gf_82_8, pf_82_8, gf_82_9, pf_82_9, gf_82_10, pf_82_10, gf_82_11, pf_82_11, gf_82_12, pf_82_12, gf_82_13, gf_82_14, gf_82_15, gf_82_16, pf_82_16, gf_82_17, gf_82_18, gf_82_19, gf_82_20, gf_82_21, gf_82_22, gf_82_23, gf_82_24, gf_82_25, pf_82_25, ga_83, wi_83, ga_84, wi_84, ga_85, wb_85, ga_86, wi_86, ga_87, wb_87, ga_88, wi_88, ga_89, wi_89, ga_90, wi_90, ga_91, wi_91, ga_92, wi_92, ga_93, wi_93, ga_94, wi_94, ga_95, wi_95, ga_96, wb_96, ga_97, wi_97, ga_98, wi_98, ga_99, wi_99, nl_add, nl_add', nl_mul, nI_add, in_t, cl_n, le_nn, lt_nn, le_ln, le_nl, lt_nl, lt_ln, eq_nn, eq_nl, in_lit, cl_lit, Nat.le_refl, Nat.add_zero, m7, m8, nI_sub', show 3 < tD n b s - s by omega, er]
      · rw [Bool.eq_false_iff.mpr hdg, bI_f] at eD
        have hb : tB n b p = s + 1 := by unfold tB; rw [hs, if_neg hend, if_neg hlt, if_neg hdg]
        have hbs := hby s (by omega)
        have w11 : ∀ x, (up K 82 9 x) 82 11 = 0 := fun x => k11
        have w8 : ∀ x, (up K 82 9 x) 82 8 = nI s := fun x => k8
        have w7 : ∀ x, (up K 82 9 x) 82 7 = nI s := fun x => k7
        by_cases h59 : b s = 59
        · have hk : tK n b p = 3 := by unfold tK; rw [hs, if_neg hend, if_neg hlt, if_neg hdg, if_pos h59]
          refine ⟨up (up K 82 9 3) 82 7 (nI (s + 1)), ?_, fun a ha => by rw [up_n _ _ _ ha, up_n _ _ _ ha]; exact fK a ha, fun j hj => by rw [up_s, pk_un (by omega), up_s, pk_un (by omega)]; exact fK2 j (by omega) (by omega), by rw [hb]; rfl, k8, fun z => by rw [hk] at z; omega, fun _ => ⟨k11, by rw [hk]; rfl⟩, fun z => by rw [hk] at z; omega, fun z => by rw [hk] at z; omega⟩
          have h59' : nI (b s) = 59 := by rw [h59]; rfl
          rw [hA, h59'] at eL eD ⊢
          simp (disch := omega) only [iX9_reads_51, iX9_reads_52, iX9_reads_55, iX9_reads_56, iX9_reads_57, iX9_reads_60, iX9_reads_63, iX9_reads_64, iX9_reads_65, iX9_reads_68, iX9_reads_71, iX9_reads_74, iX9_reads_116, iX9_reads_117, iX9_reads_118, iX9_reads_121, iX9_reads_124, iX9_reads_127, iX9_reads_243, iX9_reads_244, iX9_reads_245, iX9_reads_248, iX9_reads_249, iX9_reads_250, iX9_reads_252, iX9_reads_255, iX9_reads_256, iX9_reads_259, iX9_reads_260, iX9_reads_261, iX9_reads_264, iX9_reads_265, iX9_reads_266, iX9_reads_269, iX9_reads_270, iX9_reads_271, iX9_reads_274, true_or, or_true, Option.bind_some, Option.bind_none, kk_hp, kn_hp, el_i, el_b, el_z, am_cat_nil, am_cat_i, am_cat_r, am_cat_l, am_cat_n, gd_i, gd_r, gd_n, gd_u, List.length_cons, List.length_nil, true_and, and_true, ↓reduceIte, Nat.zero_le, Nat.reduceLeDiff, Nat.reduceAdd, e_10, e_01, e_00, e_11, Int32.reduceLE, Int32.reduceLT, Int32.reduceAdd, Int32.reduceSub, b01, if_true, if_false, ite_self, rc_82, gf_82_0, gf_82_1, gf_82_2, gf_82_3, gf_82_4, gf_82_5, gf_82_6, pf_82_6, gf_82_7, pf_82_7, gf_82_8, pf_82_8, gf_82_9, pf_82_9, gf_82_10, pf_82_10, gf_82_11, pf_82_11, gf_82_12, pf_82_12, gf_82_13, gf_82_14, gf_82_15, gf_82_16, pf_82_16, gf_82_17, gf_82_18, gf_82_19, gf_82_20, gf_82_21, gf_82_22, gf_82_23, gf_82_24, gf_82_25, pf_82_25, ga_83, wi_83, ga_84, wi_84, ga_85, wb_85, ga_86, wi_86, ga_87, wb_87, ga_88, wi_88, ga_89, wi_89, ga_90, wi_90, ga_91, wi_91, ga_92, wi_92, ga_93, wi_93, ga_94, wi_94, ga_95, wi_95, ga_96, wb_96, ga_97, wi_97, ga_98, wi_98, ga_99, wi_99, nl_add, nl_add', nl_mul, nI_add, in_t, cl_n, le_nn, lt_nn, le_ln, le_nl, lt_nl, lt_ln, eq_nn, eq_nl, in_lit, cl_lit, Nat.le_refl, Nat.add_zero, eL, eD, M_req1, w7]
        · have hk : tK n b p = 4 := by unfold tK; rw [hs, if_neg hend, if_neg hlt, if_neg hdg, if_neg h59]
          have h59' : ¬ nI (b s) = 59 := fun z => h59 (nI_inj (by omega) (by decide) z)
          have er := @M_req0 X (up K 82 9 3) 1 (w11 3)
          rw [w8 3] at er
          have w7' : (up (up (up K 82 9 3) 82 11 1) 82 12 (nI s)) 82 7 = nI s := k7
          refine ⟨up (up (up (up K 82 9 3) 82 11 1) 82 12 (nI s)) 82 7 (nI (s + 1)), ?_, fun a ha => by rw [up_n _ _ _ ha, up_n _ _ _ ha, up_n _ _ _ ha, up_n _ _ _ ha]; exact fK a ha, fun j hj => by rw [up_s, pk_un (by omega), up_s, pk_un (by omega), up_s, pk_un (by omega), up_s, pk_un (by omega)]; exact fK2 j (by omega) (by omega), by rw [hb]; rfl, k8, fun _ => ⟨rfl, rfl⟩, fun z => absurd hk z, fun z => by rw [hk] at z; omega, fun _ => by show (3 : Int32) ≠ 1; decide⟩
          rw [hA] at eL eD hA0 ⊢
          simp (disch := omega) only [iX9_reads_51, iX9_reads_52, iX9_reads_55, iX9_reads_56, iX9_reads_57, iX9_reads_60, iX9_reads_63, iX9_reads_64, iX9_reads_65, iX9_reads_68, iX9_reads_71, iX9_reads_74, iX9_reads_116, iX9_reads_117, iX9_reads_118, iX9_reads_121, iX9_reads_124, iX9_reads_127, iX9_reads_243, iX9_reads_244, iX9_reads_245, iX9_reads_248, iX9_reads_249, iX9_reads_250, iX9_reads_252, iX9_reads_255, iX9_reads_256, iX9_reads_259, iX9_reads_260, iX9_reads_261, iX9_reads_264, iX9_reads_265, iX9_reads_266, iX9_reads_269, iX9_reads_270, iX9_reads_271, iX9_reads_274, true_or, or_true, Option.bind_some, Option.bind_none, kk_hp, kn_hp, el_i, el_b, el_z, am_cat_nil, am_cat_i, am_cat_r, am_cat_l, am_cat_n, gd_i, gd_r, gd_n, gd_u, List.length_cons, List.length_nil, true_and, and_true, ↓reduceIte, Nat.zero_le, Nat.reduceLeDiff, Nat.reduceAdd, e_10, e_01, e_00, e_11, Int32.reduceLE, Int32.reduceLT, Int32.reduceAdd, Int32.reduceSub, b01, if_true, if_false, ite_self, rc_82, gf_82_0, gf_82_1, gf_82_2, gf_82_3, gf_82_4, gf_82_5, gf_82_6, pf_82_6, gf_82_7, pf_82_7, gf_82_8, pf_82_8, gf_82_9, pf_82_9, gf_82_10, pf_82_10, gf_82_11, pf_82_11, gf_82_12, pf_82_12, gf_82_13, gf_82_14, gf_82_15, gf_82_16, pf_82_16, gf_82_17, gf_82_18, gf_82_19, gf_82_20, gf_82_21, gf_82_22, gf_82_23, gf_82_24, gf_82_25, pf_82_25, ga_83, wi_83, ga_84, wi_84, ga_85, wb_85, ga_86, wi_86, ga_87, wb_87, ga_88, wi_88, ga_89, wi_89, ga_90, wi_90, ga_91, wi_91, ga_92, wi_92, ga_93, wi_93, ga_94, wi_94, ga_95, wi_95, ga_96, wb_96, ga_97, wi_97, ga_98, wi_98, ga_99, wi_99, nl_add, nl_add', nl_mul, nI_add, in_t, cl_n, le_nn, lt_nn, le_ln, le_nl, lt_nl, lt_ln, eq_nn, eq_nl, in_lit, cl_lit, Nat.le_refl, Nat.add_zero, hA0, eL, eD, h59', h59, er, w7']
end S89
