/-! the class's holes are the reference's -/
theorem bits_and {b c w : Nat} (hb : b < 64) (hc : c + w ≤ 6) : (nI b &&& bts c w = 0) ↔ ∀ x, x < w → b.testBit (c + x) = false := by
  have : ∀ b, b < 64 → ∀ c, c < 7 → ∀ w, w < 7 → c + w ≤ 6 → ((nI b &&& bts c w = 0) ↔ ∀ x, x < w → b.testBit (c + x) = false) := by decide +kernel
  exact this b hb c (by omega) w (by omega) hc
theorem bits_or {b c w : Nat} (hb : b < 64) (hc : c + w ≤ 6) : ∃ b', b' < 64 ∧ nI b ||| bts c w = nI b' ∧ ∀ x, x < 6 → b'.testBit x = (b.testBit x || decide (c ≤ x ∧ x < c + w)) := by
  have h1 : ∀ b, b < 64 → ∀ c, c < 7 → ∀ w, w < 7 → c + w ≤ 6 → (nI b ||| bts c w).toNatClampNeg < 64 := by decide +kernel
  have h2 : ∀ b, b < 64 → ∀ c, c < 7 → ∀ w, w < 7 → c + w ≤ 6 → (nI b ||| bts c w) = nI (nI b ||| bts c w).toNatClampNeg := by decide +kernel
  have h3 : ∀ b, b < 64 → ∀ c, c < 7 → ∀ w, w < 7 → c + w ≤ 6 → ∀ x, x < 6 → (nI b ||| bts c w).toNatClampNeg.testBit x = (b.testBit x || decide (c ≤ x ∧ x < c + w)) := by decide +kernel
  exact ⟨(nI b ||| bts c w).toNatClampNeg, h1 b hb c (by omega) w (by omega) hc, h2 b hb c (by omega) w (by omega) hc, h3 b hb c (by omega) w (by omega) hc⟩
/-- the rows of bits tell what the table tells -/
def RT (tk T : Nat → Int32) : Prop := ∀ y, y < 12 → ∃ b, b < 64 ∧ tk y = nI b ∧ ∀ x, x < 6 → (b.testBit x = true ↔ T (6 * y + x) ≠ -4)
theorem fre_iff {T : Nat → Int32} {c r w t : Nat} : fre T c r w t = true ↔ ∀ x, x < w → ∀ y, y < t → T (6 * (r + y) + (c + x)) = -4 := by
  unfold fre
  rw [alF_iff]
  constructor
  · intro h x hx y hy
    have h1 := h x hx
    rw [alF_iff] at h1
    exact of_decide_eq_true (h1 y hy)
  · intro h x hx
    rw [alF_iff]
    exact fun y hy => decide_eq_true (h x hx y hy)
theorem hitC_fre {tk T : Nat → Int32} (h : RT tk T) {c r w t : Nat} (hc : c + w ≤ 6) (hr : r + t ≤ 12) : hitC tk w t r c = fre T c r w t := by
  rw [Bool.eq_iff_iff, fre_iff]
  unfold hitC
  rw [alF_iff]
  constructor
  · intro h1 x hx y hy
    obtain ⟨b, hb, e, hx2⟩ := h (r + y) (by omega)
    have h2 := of_decide_eq_true (h1 y hy)
    rw [e, bits_and hb hc] at h2
    have h3 := h2 x hx
    by_cases h4 : T (6 * (r + y) + (c + x)) = -4
    · exact h4
    · rw [(hx2 (c + x) (by omega)).mpr h4] at h3
      exact absurd h3 (by decide)
  · intro h1 y hy
    obtain ⟨b, hb, e, hx2⟩ := h (r + y) (by omega)
    apply decide_eq_true
    rw [e, bits_and hb hc]
    intro x hx
    cases hq : b.testBit (c + x) with
    | false => rfl
    | true => exact absurd (h1 x hx y hy) ((hx2 (c + x) (by omega)).mp hq)
theorem holG_C {tk T : Nat → Int32} (h : RT tk T) {n w t c0 kc kc' r0 kr kr' : Nat} (hn : n ≤ 6) (h1 : c0 + kc' + w ≤ n + 1) (h2 : kc' ≤ kc) (h3 : kc' = kc ∨ n < c0 + kc' + w) (h4 : r0 + kr' + t ≤ 13) (h5 : kr' ≤ kr) (h6 : kr' = kr ∨ 12 < r0 + kr' + t) :
    hol T n w t c0 kc r0 kr = holG (hitC tk w t) c0 kc' r0 kr' := by
  obtain ⟨d, rfl⟩ : ∃ d, kc = kc' + d := ⟨kc - kc', by omega⟩
  obtain ⟨e, rfl⟩ : ∃ e, kr = kr' + e := ⟨kr - kr', by omega⟩
  rw [hol_G, holG_cols (fun y j hy hj1 hj2 => by
    unfold hit
    rw [decide_eq_false (fun z => by have := z.1; omega), Bool.false_and]), holG_rows (fun y j hy1 hy2 hj => by
    unfold hit
    rw [decide_eq_false (fun z => by have := z.2; omega), Bool.false_and])]
  refine holG_ext (fun y j hy hj => ?_)
  unfold hit
  rw [decide_eq_true ⟨by omega, by omega⟩, Bool.true_and, hitC_fre h (by omega) (by omega)]
theorem nI_sub' {a b : Nat} (h : b ≤ a) : nI a - nI b = nI (a - b) := by
  have : nI a = nI (a - b) + nI b := by rw [nI_add]; congr 1; omega
  rw [this, Int32.add_sub_cancel]
theorem nl_sub {n b : Nat} (h : b ≤ (OfNat.ofNat n : Nat)) : (no_index (OfNat.ofNat n) : Int32) - nI b = nI ((OfNat.ofNat n : Nat) - b) := nI_sub' h
theorem nl_sub' {n a : Nat} (h : (OfNat.ofNat n : Nat) ≤ a) : nI a - (no_index (OfNat.ofNat n) : Int32) = nI (a - (OfNat.ofNat n : Nat)) := nI_sub' h
/-- the rows of bits with a box -/
def orB (tk : Nat → Int32) (c w r : Nat) : Nat → Nat → Int32
  | 0 => tk
  | y + 1 => upd (orB tk c w r y) (r + y) (orB tk c w r y (r + y) ||| bts c w)
section S37
variable {X : am_X} {M : Nat → Nat → Int32}
theorem C_firstHole {s : Nat → Int32} {i n : Nat} (hi : itm s i) (hn : nC s ≤ 6) {T : Nat → Int32} (hT : RT (M 63) T) (en : n = nC s) : am_ev X kX3_firstHole 0 [.ref 60, .int (nI n), .int (nI (wI s i)), .int (nI (tI s i)), .int (s (26 + 6 * i + 4)), .int (s (26 + 6 * i + 5)), am_u, am_u, am_u, am_u, am_u, am_u] [] (hp M) = some (some (.int (holI (hoI s T i))), hp M) := by
  subst en
  obtain ⟨⟨hw, hw1, hwn⟩, ⟨ht, ht1, ht4⟩, hpc, hpr⟩ := hi
  unfold hoI
  rcases hpc with hpc | ⟨hpc, hpc2⟩ <;> rcases hpr with hpr | ⟨hpr, hpr2⟩
  · rw [if_pos hpc, if_pos hpc, if_pos hpr, if_pos hpr, holG_C hT (kc' := nC s - wI s i + 1) (kr' := 12 - tI s i + 1) hn (by omega) (by omega) (by omega) (by omega) (by omega) (by omega)]
    rw [← @firstHole_o X M (nI (nC s)) (-4) (-4) 0 (wI s i) (tI s i) 0 (nC s - wI s i) (nC s - wI s i + 1) (12 - tI s i) (by omega) (by omega) (by omega) (12 - tI s i + 1) 0 am_u (by omega)]
    simp (disch := omega) only [iX3_firstHole_0, iX3_firstHole_2, iX3_firstHole_4, iX3_firstHole_7, iX3_firstHole_8, iX3_firstHole_11, iX3_firstHole_13, iX3_firstHole_15, iX3_firstHole_17, iX3_firstHole_19, iX3_firstHole_22, iX3_firstHole_23, iX3_firstHole_24, iX3_firstHole_25, iX3_firstHole_28, iX3_firstHole_30, iX3_firstHole_32, iX3_firstHole_34, iX3_firstHole_36, iX3_firstHole_39, iX3_firstHole_40, iX3_firstHole_43, iX3_firstHole_45, iX3_firstHole_47, iX3_firstHole_49, iX3_firstHole_51, iX3_firstHole_54, iX3_firstHole_56, iX3_firstHole_57, iX3_firstHole_58, iX3_firstHole_61, iX3_firstHole_63, iX3_firstHole_65, iX3_firstHole_67, true_or, or_true, Option.bind_some, Option.bind_none, kk_hp, kn_hp, el_i, el_b, el_z, am_cat_nil, am_cat_i, am_cat_r, am_cat_l, am_cat_n, gd_i, gd_r, gd_n, gd_u, List.length_cons, List.length_nil, true_and, and_true, ↓reduceIte, Nat.zero_le, Nat.reduceLeDiff, Nat.reduceAdd, e_10, e_01, e_00, e_11, Int32.reduceLE, Int32.reduceLT, Int32.reduceAdd, Int32.reduceSub, b01, if_true, if_false, ite_self, nl_add, nl_add', nl_mul, nI_add, in_t, cl_n, le_nn, lt_nn, le_ln, le_nl, lt_nl, lt_ln, eq_nn, eq_nl, in_lit, cl_lit, Nat.le_refl, Nat.add_zero, hpc, hpr, nI_sub', nl_sub, nI_0]
  · rw [if_pos hpc, if_pos hpc, if_neg (by rw [hpr]; intro z; rwa [ne_m4 (by omega)] at z), if_neg (by rw [hpr]; intro z; rwa [ne_m4 (by omega)] at z), holG_C hT (kc' := nC s - wI s i + 1) (kr' := 1) hn (by omega) (by omega) (by omega) (by omega) (by omega) (by omega)]
    rw [← @firstHole_o X M (nI (nC s)) (-4) (nI (pR s i)) (nI (pR s i)) (wI s i) (tI s i) 0 (nC s - wI s i) (nC s - wI s i + 1) (pR s i) (by omega) (by omega) (by omega) 1 (pR s i) am_u (by omega)]
    simp (disch := omega) only [iX3_firstHole_0, iX3_firstHole_2, iX3_firstHole_4, iX3_firstHole_7, iX3_firstHole_8, iX3_firstHole_11, iX3_firstHole_13, iX3_firstHole_15, iX3_firstHole_17, iX3_firstHole_19, iX3_firstHole_22, iX3_firstHole_23, iX3_firstHole_24, iX3_firstHole_25, iX3_firstHole_28, iX3_firstHole_30, iX3_firstHole_32, iX3_firstHole_34, iX3_firstHole_36, iX3_firstHole_39, iX3_firstHole_40, iX3_firstHole_43, iX3_firstHole_45, iX3_firstHole_47, iX3_firstHole_49, iX3_firstHole_51, iX3_firstHole_54, iX3_firstHole_56, iX3_firstHole_57, iX3_firstHole_58, iX3_firstHole_61, iX3_firstHole_63, iX3_firstHole_65, iX3_firstHole_67, true_or, or_true, Option.bind_some, Option.bind_none, kk_hp, kn_hp, el_i, el_b, el_z, am_cat_nil, am_cat_i, am_cat_r, am_cat_l, am_cat_n, gd_i, gd_r, gd_n, gd_u, List.length_cons, List.length_nil, true_and, and_true, ↓reduceIte, Nat.zero_le, Nat.reduceLeDiff, Nat.reduceAdd, e_10, e_01, e_00, e_11, Int32.reduceLE, Int32.reduceLT, Int32.reduceAdd, Int32.reduceSub, b01, if_true, if_false, ite_self, nl_add, nl_add', nl_mul, nI_add, in_t, cl_n, le_nn, lt_nn, le_ln, le_nl, lt_nl, lt_ln, eq_nn, eq_nl, in_lit, cl_lit, Nat.le_refl, Nat.add_zero, hpc, hpr, nI_sub', nl_sub, nI_0, ne_m4]
  · rw [if_neg (by rw [hpc]; intro z; rwa [ne_m4 (by omega)] at z), if_neg (by rw [hpc]; intro z; rwa [ne_m4 (by omega)] at z), if_pos hpr, if_pos hpr, holG_C hT (kc' := 1) (kr' := 12 - tI s i + 1) hn (by omega) (by omega) (by omega) (by omega) (by omega) (by omega)]
    rw [← @firstHole_o X M (nI (nC s)) (nI (pC s i)) (-4) 0 (wI s i) (tI s i) (pC s i) (pC s i) 1 (12 - tI s i) (by omega) (by omega) (by omega) (12 - tI s i + 1) 0 am_u (by omega)]
    simp (disch := omega) only [iX3_firstHole_0, iX3_firstHole_2, iX3_firstHole_4, iX3_firstHole_7, iX3_firstHole_8, iX3_firstHole_11, iX3_firstHole_13, iX3_firstHole_15, iX3_firstHole_17, iX3_firstHole_19, iX3_firstHole_22, iX3_firstHole_23, iX3_firstHole_24, iX3_firstHole_25, iX3_firstHole_28, iX3_firstHole_30, iX3_firstHole_32, iX3_firstHole_34, iX3_firstHole_36, iX3_firstHole_39, iX3_firstHole_40, iX3_firstHole_43, iX3_firstHole_45, iX3_firstHole_47, iX3_firstHole_49, iX3_firstHole_51, iX3_firstHole_54, iX3_firstHole_56, iX3_firstHole_57, iX3_firstHole_58, iX3_firstHole_61, iX3_firstHole_63, iX3_firstHole_65, iX3_firstHole_67, true_or, or_true, Option.bind_some, Option.bind_none, kk_hp, kn_hp, el_i, el_b, el_z, am_cat_nil, am_cat_i, am_cat_r, am_cat_l, am_cat_n, gd_i, gd_r, gd_n, gd_u, List.length_cons, List.length_nil, true_and, and_true, ↓reduceIte, Nat.zero_le, Nat.reduceLeDiff, Nat.reduceAdd, e_10, e_01, e_00, e_11, Int32.reduceLE, Int32.reduceLT, Int32.reduceAdd, Int32.reduceSub, b01, if_true, if_false, ite_self, nl_add, nl_add', nl_mul, nI_add, in_t, cl_n, le_nn, lt_nn, le_ln, le_nl, lt_nl, lt_ln, eq_nn, eq_nl, in_lit, cl_lit, Nat.le_refl, Nat.add_zero, hpc, hpr, nI_sub', nl_sub, nI_0, ne_m4]
  · rw [if_neg (by rw [hpc]; intro z; rwa [ne_m4 (by omega)] at z), if_neg (by rw [hpc]; intro z; rwa [ne_m4 (by omega)] at z), if_neg (by rw [hpr]; intro z; rwa [ne_m4 (by omega)] at z), if_neg (by rw [hpr]; intro z; rwa [ne_m4 (by omega)] at z), holG_C hT (kc' := 1) (kr' := 1) hn (by omega) (by omega) (by omega) (by omega) (by omega) (by omega)]
    rw [← @firstHole_o X M (nI (nC s)) (nI (pC s i)) (nI (pR s i)) (nI (pR s i)) (wI s i) (tI s i) (pC s i) (pC s i) 1 (pR s i) (by omega) (by omega) (by omega) 1 (pR s i) am_u (by omega)]
    simp (disch := omega) only [iX3_firstHole_0, iX3_firstHole_2, iX3_firstHole_4, iX3_firstHole_7, iX3_firstHole_8, iX3_firstHole_11, iX3_firstHole_13, iX3_firstHole_15, iX3_firstHole_17, iX3_firstHole_19, iX3_firstHole_22, iX3_firstHole_23, iX3_firstHole_24, iX3_firstHole_25, iX3_firstHole_28, iX3_firstHole_30, iX3_firstHole_32, iX3_firstHole_34, iX3_firstHole_36, iX3_firstHole_39, iX3_firstHole_40, iX3_firstHole_43, iX3_firstHole_45, iX3_firstHole_47, iX3_firstHole_49, iX3_firstHole_51, iX3_firstHole_54, iX3_firstHole_56, iX3_firstHole_57, iX3_firstHole_58, iX3_firstHole_61, iX3_firstHole_63, iX3_firstHole_65, iX3_firstHole_67, true_or, or_true, Option.bind_some, Option.bind_none, kk_hp, kn_hp, el_i, el_b, el_z, am_cat_nil, am_cat_i, am_cat_r, am_cat_l, am_cat_n, gd_i, gd_r, gd_n, gd_u, List.length_cons, List.length_nil, true_and, and_true, ↓reduceIte, Nat.zero_le, Nat.reduceLeDiff, Nat.reduceAdd, e_10, e_01, e_00, e_11, Int32.reduceLE, Int32.reduceLT, Int32.reduceAdd, Int32.reduceSub, b01, if_true, if_false, ite_self, nl_add, nl_add', nl_mul, nI_add, in_t, cl_n, le_nn, lt_nn, le_ln, le_nl, lt_nl, lt_ln, eq_nn, eq_nl, in_lit, cl_lit, Nat.le_refl, Nat.add_zero, hpc, hpr, nI_sub', nl_sub, nI_0, ne_m4]
end S37
