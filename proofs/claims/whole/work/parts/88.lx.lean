/-! tokens, purely; the class reads one -/
def rn (P : Nat → Bool) : Nat → Nat → Nat
  | 0, p => p
  | k + 1, p => if P p = true then rn P k (p + 1) else p
theorem rn_p {P : Nat → Bool} (k : Nat) : ∀ p, p ≤ rn P k p ∧ rn P k p ≤ p + k ∧ (∀ x, p ≤ x → x < rn P k p → P x = true) ∧ (rn P k p < p + k → P (rn P k p) = false) := by
  induction k with
  | zero => intro p; exact ⟨Nat.le_refl _, Nat.le_refl _, fun x h1 h2 => by rw [rn] at h2; omega, fun h => by rw [rn] at h; omega⟩
  | succ k ih =>
    intro p
    rw [rn]
    by_cases h : P p = true
    · rw [if_pos h]
      obtain ⟨h1, h2, h3, h4⟩ := ih (p + 1)
      refine ⟨by omega, by omega, fun x i1 i2 => ?_, fun i => h4 (by omega)⟩
      by_cases hx : x = p
      · rw [hx]; exact h
      · exact h3 x (by omega) i2
    · rw [if_neg h]
      exact ⟨Nat.le_refl _, by omega, fun x i1 i2 => by omega, fun _ => Bool.eq_false_iff.mpr h⟩
/-- a letter, a figure, a space at a place of the tape -/
def cSp (n : Nat) (b : Nat → Nat) (p : Nat) : Bool := decide (p < n ∧ b p = 32)
def cLt (n : Nat) (b : Nat → Nat) (p : Nat) : Bool := decide (p < n ∧ 97 ≤ b p ∧ b p ≤ 122)
def cDg (n : Nat) (b : Nat → Nat) (p : Nat) : Bool := decide (p < n ∧ 48 ≤ b p ∧ b p ≤ 57)
def tS (n : Nat) (b : Nat → Nat) (p : Nat) : Nat := rn (cSp n b) (n - p) p
def tL (n : Nat) (b : Nat → Nat) (s : Nat) : Nat := rn (cLt n b) (n - s) s
def tD (n : Nat) (b : Nat → Nat) (s : Nat) : Nat := rn (cDg n b) (n - s) s
/-- the kind of the token from p on -/
def tK (n : Nat) (b : Nat → Nat) (p : Nat) : Nat :=
  if n ≤ tS n b p then 0 else if cLt n b (tS n b p) = true then 1 else if cDg n b (tS n b p) = true then (if tD n b (tS n b p) - tS n b p ≤ 3 then 2 else 4) else if b (tS n b p) = 59 then 3 else 4
/-- where it ends -/
def tB (n : Nat) (b : Nat → Nat) (p : Nat) : Nat :=
  if n ≤ tS n b p then tS n b p else if cLt n b (tS n b p) = true then tL n b (tS n b p) else if cDg n b (tS n b p) = true then tD n b (tS n b p) else tS n b p + 1
def vl (b : Nat → Nat) (s : Nat) : Nat → Int32
  | 0 => 0
  | j + 1 => 10 * vl b s j + nI (b (s + j)) - 48
def tV (n : Nat) (b : Nat → Nat) (p : Nat) : Int32 := vl b (tS n b p) (tD n b (tS n b p) - tS n b p)
theorem tS_p {n p : Nat} {b : Nat → Nat} (hp : p ≤ n) : p ≤ tS n b p ∧ tS n b p ≤ n ∧ (∀ x, p ≤ x → x < tS n b p → cSp n b x = true) ∧ cSp n b (tS n b p) = false := by
  obtain ⟨h1, h2, h3, h4⟩ := @rn_p (cSp n b) (n - p) p
  refine ⟨h1, by unfold tS; omega, h3, ?_⟩
  by_cases h : tS n b p < n
  · exact h4 (by unfold tS at h; omega)
  · exact decide_eq_false (fun z => h z.1)
theorem tL_p {n p : Nat} {b : Nat → Nat} (hp : p ≤ n) : p ≤ tL n b p ∧ tL n b p ≤ n ∧ (∀ x, p ≤ x → x < tL n b p → cLt n b x = true) ∧ cLt n b (tL n b p) = false := by
  obtain ⟨h1, h2, h3, h4⟩ := @rn_p (cLt n b) (n - p) p
  refine ⟨h1, by unfold tL; omega, h3, ?_⟩
  by_cases h : tL n b p < n
  · exact h4 (by unfold tL at h; omega)
  · exact decide_eq_false (fun z => h z.1)
theorem tD_p {n p : Nat} {b : Nat → Nat} (hp : p ≤ n) : p ≤ tD n b p ∧ tD n b p ≤ n ∧ (∀ x, p ≤ x → x < tD n b p → cDg n b x = true) ∧ cDg n b (tD n b p) = false := by
  obtain ⟨h1, h2, h3, h4⟩ := @rn_p (cDg n b) (n - p) p
  refine ⟨h1, by unfold tD; omega, h3, ?_⟩
  by_cases h : tD n b p < n
  · exact h4 (by unfold tD at h; omega)
  · exact decide_eq_false (fun z => h z.1)
theorem tL_lt {n p : Nat} {b : Nat → Nat} (hp : p < n) (h : cLt n b p = true) : p < tL n b p := by
  obtain ⟨h1, h2, h3, h4⟩ := @tL_p n p b (by omega)
  rcases Nat.lt_or_ge p (tL n b p) with z | z
  · exact z
  · have : tL n b p = p := by omega
    rw [this, h] at h4; exact absurd h4 (by decide)
theorem tD_lt {n p : Nat} {b : Nat → Nat} (hp : p < n) (h : cDg n b p = true) : p < tD n b p := by
  obtain ⟨h1, h2, h3, h4⟩ := @tD_p n p b (by omega)
  rcases Nat.lt_or_ge p (tD n b p) with z | z
  · exact z
  · have : tD n b p = p := by omega
    rw [this, h] at h4; exact absurd h4 (by decide)
theorem tB_p {n p : Nat} {b : Nat → Nat} (hp : p ≤ n) : tS n b p ≤ tB n b p ∧ tB n b p ≤ n ∧ (tK n b p ≠ 0 → tS n b p < tB n b p ∧ tS n b p < n) ∧ tK n b p ≤ 4 := by
  obtain ⟨s1, s2, s3, s4⟩ := @tS_p n p b hp
  unfold tB tK
  by_cases h1 : n ≤ tS n b p
  · rw [if_pos h1, if_pos h1]; exact ⟨Nat.le_refl _, s2, fun z => absurd rfl z, by omega⟩
  · rw [if_neg h1, if_neg h1]
    by_cases h2 : cLt n b (tS n b p) = true
    · rw [if_pos h2, if_pos h2]
      obtain ⟨l1, l2, l3, l4⟩ := @tL_p n (tS n b p) b s2
      exact ⟨l1, l2, fun _ => ⟨tL_lt (by omega) h2, by omega⟩, by omega⟩
    · rw [if_neg h2, if_neg h2]
      by_cases h3 : cDg n b (tS n b p) = true
      · rw [if_pos h3, if_pos h3]
        obtain ⟨l1, l2, l3, l4⟩ := @tD_p n (tS n b p) b s2
        exact ⟨l1, l2, fun _ => ⟨tD_lt (by omega) h3, by omega⟩, by split <;> omega⟩
      · rw [if_neg h3, if_neg h3]
        exact ⟨by omega, by omega, fun _ => ⟨by omega, by omega⟩, by split <;> omega⟩
/-- the tape of the class -/
def TP (M : Nat → Nat → Int32) (n : Nat) (b : Nat → Nat) : Prop := n ≤ 320 ∧ M 13 1 = nI n ∧ ∀ p, p < n → M 14 p = nI (b p) ∧ b p < 128
section S88
variable {X : am_X} {M : Nat → Nat → Int32}
theorem C_advance {n p : Nat} {b : Nat → Nat} (ht : TP M n b) (h5 : M 13 5 = nI p) (hpn : p ≤ n) : ∃ M', am_ev X kX7_advance 0 [.ref 13] [] (hp M) = some (none, hp M') ∧ (∀ a, a ≠ 13 → M' a = M a) ∧ M' 13 1 = nI n ∧ M' 13 2 = nI (tK n b p) ∧ M' 13 3 = nI (tS n b p) ∧ M' 13 5 = nI (tB n b p) ∧ (tK n b p = 2 → M' 13 4 = tV n b p) := by
  obtain ⟨hn, t1, t2⟩ := ht
  obtain ⟨s1, s2, s3, s4⟩ := @tS_p n p b hpn
  have m14 : ∀ x y, (up M 13 x y) 14 = M 14 := fun x y => rfl
  -- spaces
  have e1 := chain (fun q => am_ev X kX7_advance 0 [.ref 13] [] (hp (up M 13 5 (nI q)))) p (tS n b p) s1 (fun q h1 h2 => by
    have hs := of_decide_eq_true (s3 q h1 h2)
    have w1 : ∀ x, (up M 13 5 x) 13 1 = nI n := fun x => t1
    have w5 : ∀ x, (up M 13 5 x) 13 5 = x := fun x => by rw [up_s, pk_us]
    have w14 : M 14 q = nI 32 := by rw [(t2 q hs.1).1, hs.2]
    conv => lhs; rw [iX7_advance_0]
    simp (disch := omega) only [iX7_advance_1, iX7_advance_4, iX7_advance_5, iX7_advance_8, iX7_advance_11, iX7_advance_12, iX7_advance_15, iX7_advance_16, iX7_advance_19, iX7_advance_20, iX7_advance_22, iX7_advance_25, iX7_advance_26, iX7_advance_27, iX7_advance_30, iX7_advance_31, iX7_advance_32, iX7_advance_35, true_or, or_true, Option.bind_some, Option.bind_none, kk_hp, kn_hp, el_i, el_b, el_z, am_cat_nil, am_cat_i, am_cat_r, am_cat_l, am_cat_n, gd_i, gd_r, gd_n, gd_u, List.length_cons, List.length_nil, true_and, and_true, ↓reduceIte, Nat.zero_le, Nat.reduceLeDiff, Nat.reduceAdd, e_10, e_01, e_00, e_11, Int32.reduceLE, Int32.reduceLT, Int32.reduceAdd, Int32.reduceSub, b01, if_true, if_false, ite_self, rc_13, gf_13_0, gf_13_1, pf_13_1, gf_13_2, pf_13_2, gf_13_3, pf_13_3, gf_13_4, pf_13_4, gf_13_5, pf_13_5, ga_14, wb_14, nl_add, nl_add', nl_mul, nI_add, in_t, cl_n, le_nn, lt_nn, le_ln, le_nl, lt_nl, lt_ln, eq_nn, eq_nl, in_lit, cl_lit, Nat.le_refl, Nat.add_zero, w1, w5, m14, show ¬ n ≤ q by omega, w14, show nI 32 = (32 : Int32) from rfl, up_up2])
  have e0 : up M 13 5 (nI p) = M := by rw [← h5, up_self]
  rw [e0] at e1
  have hK1 : ∃ K, am_ev X kX7_advance 0 [.ref 13] [] (hp M) = am_ev X kX7_advance 51 [.ref 13] [] (hp K) ∧ (∀ a, a ≠ 13 → K a = M a) ∧ K 13 1 = nI n ∧ K 13 3 = nI (tS n b p) ∧ K 13 4 = 0 ∧ K 13 5 = nI (tS n b p) := by
    refine ⟨up (up (up M 13 5 (nI (tS n b p))) 13 3 (nI (tS n b p))) 13 4 0, ?_, fun a ha => by rw [up_n _ _ _ ha, up_n _ _ _ ha, up_n _ _ _ ha], t1, rfl, rfl, rfl⟩
    have w1 : (up M 13 5 (nI (tS n b p))) 13 1 = nI n := t1
    have w5 : (up M 13 5 (nI (tS n b p))) 13 5 = nI (tS n b p) := rfl
    rw [e1]
    by_cases hend : n ≤ tS n b p
    · simp (disch := omega) only [iX7_advance_0, iX7_advance_1, iX7_advance_4, iX7_advance_5, iX7_advance_8, iX7_advance_38, iX7_advance_39, iX7_advance_40, iX7_advance_43, iX7_advance_46, iX7_advance_47, iX7_advance_48, true_or, or_true, Option.bind_some, Option.bind_none, kk_hp, kn_hp, el_i, el_b, el_z, am_cat_nil, am_cat_i, am_cat_r, am_cat_l, am_cat_n, gd_i, gd_r, gd_n, gd_u, List.length_cons, List.length_nil, true_and, and_true, ↓reduceIte, Nat.zero_le, Nat.reduceLeDiff, Nat.reduceAdd, e_10, e_01, e_00, e_11, Int32.reduceLE, Int32.reduceLT, Int32.reduceAdd, Int32.reduceSub, b01, if_true, if_false, ite_self, rc_13, gf_13_0, gf_13_1, pf_13_1, gf_13_2, pf_13_2, gf_13_3, pf_13_3, gf_13_4, pf_13_4, gf_13_5, pf_13_5, ga_14, wb_14, nl_add, nl_add', nl_mul, nI_add, in_t, cl_n, le_nn, lt_nn, le_ln, le_nl, lt_nl, lt_ln, eq_nn, eq_nl, in_lit, cl_lit, Nat.le_refl, Nat.add_zero, w1, w5, hend]
    · have w14 : M 14 (tS n b p) = nI (b (tS n b p)) := (t2 _ (by omega)).1
      have w32 : b (tS n b p) ≠ 32 := fun z => by rw [show cSp n b (tS n b p) = true from decide_eq_true ⟨by omega, z⟩] at s4; exact absurd s4 (by decide)
      have wb := (t2 _ (show tS n b p < n by omega)).2
      have w33 : ¬ nI (b (tS n b p)) = 32 := fun z => w32 (nI_inj (by omega) (by decide) z)
      simp (disch := omega) only [iX7_advance_0, iX7_advance_1, iX7_advance_4, iX7_advance_5, iX7_advance_8, iX7_advance_11, iX7_advance_12, iX7_advance_15, iX7_advance_16, iX7_advance_19, iX7_advance_20, iX7_advance_22, iX7_advance_25, iX7_advance_26, iX7_advance_27, iX7_advance_30, iX7_advance_31, iX7_advance_32, iX7_advance_38, iX7_advance_39, iX7_advance_40, iX7_advance_43, iX7_advance_46, iX7_advance_47, iX7_advance_48, true_or, or_true, Option.bind_some, Option.bind_none, kk_hp, kn_hp, el_i, el_b, el_z, am_cat_nil, am_cat_i, am_cat_r, am_cat_l, am_cat_n, gd_i, gd_r, gd_n, gd_u, List.length_cons, List.length_nil, true_and, and_true, ↓reduceIte, Nat.zero_le, Nat.reduceLeDiff, Nat.reduceAdd, e_10, e_01, e_00, e_11, Int32.reduceLE, Int32.reduceLT, Int32.reduceAdd, Int32.reduceSub, b01, if_true, if_false, ite_self, rc_13, gf_13_0, gf_13_1, pf_13_1, gf_13_2, pf_13_2, gf_13_3, pf_13_3, gf_13_4, pf_13_4, gf_13_5, pf_13_5, ga_14, wb_14, nl_add, nl_add', nl_mul, nI_add, in_t, cl_n, le_nn, lt_nn, le_ln, le_nl, lt_nl, lt_ln, eq_nn, eq_nl, in_lit, cl_lit, Nat.le_refl, Nat.add_zero, w1, w5, hend, m14, w14, w33, w32]
  obtain ⟨K, eK, fK, k1, k3, k4, k5⟩ := hK1
  have k14 : K 14 = M 14 := fK 14 (by decide)
  rw [eK]
  clear e1 eK e0
  generalize hs : tS n b p = s at *
  by_cases hend : n ≤ s
  · have hk : tK n b p = 0 := by unfold tK; rw [hs, if_pos hend]
    have hb : tB n b p = s := by unfold tB; rw [hs, if_pos hend]
    refine ⟨up K 13 2 0, ?_, fun a ha => by rw [up_n _ _ _ ha]; exact fK a ha, k1, by rw [hk]; rfl, k3, by rw [hb]; exact k5, fun z => by rw [hk] at z; omega⟩
    simp (disch := omega) only [iX7_advance_51, iX7_advance_52, iX7_advance_55, iX7_advance_56, iX7_advance_59, iX7_advance_62, iX7_advance_63, iX7_advance_64, iX7_advance_67, true_or, or_true, Option.bind_some, Option.bind_none, kk_hp, kn_hp, el_i, el_b, el_z, am_cat_nil, am_cat_i, am_cat_r, am_cat_l, am_cat_n, gd_i, gd_r, gd_n, gd_u, List.length_cons, List.length_nil, true_and, and_true, ↓reduceIte, Nat.zero_le, Nat.reduceLeDiff, Nat.reduceAdd, e_10, e_01, e_00, e_11, Int32.reduceLE, Int32.reduceLT, Int32.reduceAdd, Int32.reduceSub, b01, if_true, if_false, ite_self, rc_13, gf_13_0, gf_13_1, pf_13_1, gf_13_2, pf_13_2, gf_13_3, pf_13_3, gf_13_4, pf_13_4, gf_13_5, pf_13_5, ga_14, wb_14, nl_add, nl_add', nl_mul, nI_add, in_t, cl_n, le_nn, lt_nn, le_ln, le_nl, lt_nl, lt_ln, eq_nn, eq_nl, in_lit, cl_lit, Nat.le_refl, Nat.add_zero, k1, k3, hend, show ¬ s < n by omega]
  · have w14 : ∀ q, q < n → K 14 q = nI (b q) := fun q hq => by rw [k14]; exact (t2 q hq).1
    have e51 : am_ev X kX7_advance 51 [.ref 13] [] (hp K) = am_ev X kX7_advance 68 [.ref 13] [] (hp K) := by
      simp (disch := omega) only [iX7_advance_51, iX7_advance_52, iX7_advance_55, iX7_advance_56, iX7_advance_59, iX7_advance_62, iX7_advance_63, iX7_advance_64, iX7_advance_67, true_or, or_true, Option.bind_some, Option.bind_none, kk_hp, kn_hp, el_i, el_b, el_z, am_cat_nil, am_cat_i, am_cat_r, am_cat_l, am_cat_n, gd_i, gd_r, gd_n, gd_u, List.length_cons, List.length_nil, true_and, and_true, ↓reduceIte, Nat.zero_le, Nat.reduceLeDiff, Nat.reduceAdd, e_10, e_01, e_00, e_11, Int32.reduceLE, Int32.reduceLT, Int32.reduceAdd, Int32.reduceSub, b01, if_true, if_false, ite_self, rc_13, gf_13_0, gf_13_1, pf_13_1, gf_13_2, pf_13_2, gf_13_3, pf_13_3, gf_13_4, pf_13_4, gf_13_5, pf_13_5, ga_14, wb_14, nl_add, nl_add', nl_mul, nI_add, in_t, cl_n, le_nn, lt_nn, le_ln, le_nl, lt_nl, lt_ln, eq_nn, eq_nl, in_lit, cl_lit, Nat.le_refl, Nat.add_zero, k1, k3, show s < n by omega]
    rw [e51]
    -- letters
    obtain ⟨l1, l2, l3, l4⟩ := @tL_p n s b (by omega)
    have e2 := chain (fun q => am_ev X kX7_advance 68 [.ref 13] [] (hp (up K 13 5 (nI q)))) s (tL n b s) l1 (fun q h1 h2 => by
      have hq := of_decide_eq_true (l3 q h1 h2)
      have v1 : ∀ x, (up K 13 5 x) 13 1 = nI n := fun x => k1
      have v5 : ∀ x, (up K 13 5 x) 13 5 = x := fun x => by rw [up_s, pk_us]
      have v14 : ∀ x, (up K 13 5 x) 14 = K 14 := fun x => rfl
      have vq := w14 q hq.1
      conv => lhs; rw [iX7_advance_68]
      simp (disch := omega) only [iX7_advance_69, iX7_advance_72, iX7_advance_73, iX7_advance_76, iX7_advance_79, iX7_advance_80, iX7_advance_83, iX7_advance_84, iX7_advance_87, iX7_advance_88, iX7_advance_90, iX7_advance_93, iX7_advance_94, iX7_advance_97, iX7_advance_98, iX7_advance_101, iX7_advance_102, iX7_advance_104, iX7_advance_107, iX7_advance_108, iX7_advance_109, iX7_advance_112, iX7_advance_113, iX7_advance_114, iX7_advance_117, true_or, or_true, Option.bind_some, Option.bind_none, kk_hp, kn_hp, el_i, el_b, el_z, am_cat_nil, am_cat_i, am_cat_r, am_cat_l, am_cat_n, gd_i, gd_r, gd_n, gd_u, List.length_cons, List.length_nil, true_and, and_true, ↓reduceIte, Nat.zero_le, Nat.reduceLeDiff, Nat.reduceAdd, e_10, e_01, e_00, e_11, Int32.reduceLE, Int32.reduceLT, Int32.reduceAdd, Int32.reduceSub, b01, if_true, if_false, ite_self, rc_13, gf_13_0, gf_13_1, pf_13_1, gf_13_2, pf_13_2, gf_13_3, pf_13_3, gf_13_4, pf_13_4, gf_13_5, pf_13_5, ga_14, wb_14, nl_add, nl_add', nl_mul, nI_add, in_t, cl_n, le_nn, lt_nn, le_ln, le_nl, lt_nl, lt_ln, eq_nn, eq_nl, in_lit, cl_lit, Nat.le_refl, Nat.add_zero, v1, v5, v14, show ¬ n ≤ q by omega, vq, show ¬ b q < 97 by omega, show ¬ 122 < b q by omega, up_up2])
    have e0 : up K 13 5 (nI s) = K := by rw [← k5, up_self]
    rw [e0] at e2
    have v1 : ∀ x, (up K 13 5 x) 13 1 = nI n := fun x => k1
    have v5 : ∀ x, (up K 13 5 x) 13 5 = x := fun x => by rw [up_s, pk_us]
    have v3 : ∀ x, (up K 13 5 x) 13 3 = nI s := fun x => k3
    have v14 : ∀ x, (up K 13 5 x) 14 = K 14 := fun x => rfl
    have e3 : am_ev X kX7_advance 68 [.ref 13] [] (hp K) = am_ev X kX7_advance 120 [.ref 13] [] (hp (up K 13 5 (nI (tL n b s)))) := by
      rw [e2]
      by_cases hlen : n ≤ tL n b s
      · simp (disch := omega) only [iX7_advance_68, iX7_advance_69, iX7_advance_72, iX7_advance_73, iX7_advance_76, true_or, or_true, Option.bind_some, Option.bind_none, kk_hp, kn_hp, el_i, el_b, el_z, am_cat_nil, am_cat_i, am_cat_r, am_cat_l, am_cat_n, gd_i, gd_r, gd_n, gd_u, List.length_cons, List.length_nil, true_and, and_true, ↓reduceIte, Nat.zero_le, Nat.reduceLeDiff, Nat.reduceAdd, e_10, e_01, e_00, e_11, Int32.reduceLE, Int32.reduceLT, Int32.reduceAdd, Int32.reduceSub, b01, if_true, if_false, ite_self, rc_13, gf_13_0, gf_13_1, pf_13_1, gf_13_2, pf_13_2, gf_13_3, pf_13_3, gf_13_4, pf_13_4, gf_13_5, pf_13_5, ga_14, wb_14, nl_add, nl_add', nl_mul, nI_add, in_t, cl_n, le_nn, lt_nn, le_ln, le_nl, lt_nl, lt_ln, eq_nn, eq_nl, in_lit, cl_lit, Nat.le_refl, Nat.add_zero, v1, v5, hlen]
      · have vq := w14 (tL n b s) (by omega)
        have vb := (t2 (tL n b s) (by omega)).2
        by_cases h97 : b (tL n b s) < 97
        · simp (disch := omega) only [iX7_advance_68, iX7_advance_69, iX7_advance_72, iX7_advance_73, iX7_advance_76, iX7_advance_79, iX7_advance_80, iX7_advance_83, iX7_advance_84, iX7_advance_87, iX7_advance_88, iX7_advance_90, iX7_advance_93, iX7_advance_94, iX7_advance_97, iX7_advance_98, iX7_advance_101, iX7_advance_102, iX7_advance_104, iX7_advance_107, iX7_advance_108, iX7_advance_109, iX7_advance_112, iX7_advance_113, iX7_advance_114, true_or, or_true, Option.bind_some, Option.bind_none, kk_hp, kn_hp, el_i, el_b, el_z, am_cat_nil, am_cat_i, am_cat_r, am_cat_l, am_cat_n, gd_i, gd_r, gd_n, gd_u, List.length_cons, List.length_nil, true_and, and_true, ↓reduceIte, Nat.zero_le, Nat.reduceLeDiff, Nat.reduceAdd, e_10, e_01, e_00, e_11, Int32.reduceLE, Int32.reduceLT, Int32.reduceAdd, Int32.reduceSub, b01, if_true, if_false, ite_self, rc_13, gf_13_0, gf_13_1, pf_13_1, gf_13_2, pf_13_2, gf_13_3, pf_13_3, gf_13_4, pf_13_4, gf_13_5, pf_13_5, ga_14, wb_14, nl_add, nl_add', nl_mul, nI_add, in_t, cl_n, le_nn, lt_nn, le_ln, le_nl, lt_nl, lt_ln, eq_nn, eq_nl, in_lit, cl_lit, Nat.le_refl, Nat.add_zero, v1, v5, v14, hlen, vq, h97]
        · have h122 : 122 < b (tL n b s) := by
            refine Decidable.byContradiction (fun z => ?_)
            rw [show cLt n b (tL n b s) = true from decide_eq_true ⟨by omega, by omega, by omega⟩] at l4
            exact absurd l4 (by decide)
          simp (disch := omega) only [iX7_advance_68, iX7_advance_69, iX7_advance_72, iX7_advance_73, iX7_advance_76, iX7_advance_79, iX7_advance_80, iX7_advance_83, iX7_advance_84, iX7_advance_87, iX7_advance_88, iX7_advance_90, iX7_advance_93, iX7_advance_94, iX7_advance_97, iX7_advance_98, iX7_advance_101, iX7_advance_102, iX7_advance_104, iX7_advance_107, iX7_advance_108, iX7_advance_109, iX7_advance_112, iX7_advance_113, iX7_advance_114, true_or, or_true, Option.bind_some, Option.bind_none, kk_hp, kn_hp, el_i, el_b, el_z, am_cat_nil, am_cat_i, am_cat_r, am_cat_l, am_cat_n, gd_i, gd_r, gd_n, gd_u, List.length_cons, List.length_nil, true_and, and_true, ↓reduceIte, Nat.zero_le, Nat.reduceLeDiff, Nat.reduceAdd, e_10, e_01, e_00, e_11, Int32.reduceLE, Int32.reduceLT, Int32.reduceAdd, Int32.reduceSub, b01, if_true, if_false, ite_self, rc_13, gf_13_0, gf_13_1, pf_13_1, gf_13_2, pf_13_2, gf_13_3, pf_13_3, gf_13_4, pf_13_4, gf_13_5, pf_13_5, ga_14, wb_14, nl_add, nl_add', nl_mul, nI_add, in_t, cl_n, le_nn, lt_nn, le_ln, le_nl, lt_nl, lt_ln, eq_nn, eq_nl, in_lit, cl_lit, Nat.le_refl, Nat.add_zero, v1, v5, v14, hlen, vq, h97, h122]
    rw [e3]
    by_cases hlt : cLt n b s = true
    · have hk : tK n b p = 1 := by unfold tK; rw [hs, if_neg hend, if_pos hlt]
      have hb : tB n b p = tL n b s := by unfold tB; rw [hs, if_neg hend, if_pos hlt]
      have hls := tL_lt (by omega) hlt
      refine ⟨up (up K 13 5 (nI (tL n b s))) 13 2 1, ?_, fun a ha => by rw [up_n _ _ _ ha, up_n _ _ _ ha]; exact fK a ha, k1, by rw [hk]; rfl, k3, by rw [hb]; rfl, fun z => by rw [hk] at z; omega⟩
      simp (disch := omega) only [iX7_advance_120, iX7_advance_121, iX7_advance_124, iX7_advance_125, iX7_advance_128, iX7_advance_131, iX7_advance_132, iX7_advance_133, iX7_advance_136, true_or, or_true, Option.bind_some, Option.bind_none, kk_hp, kn_hp, el_i, el_b, el_z, am_cat_nil, am_cat_i, am_cat_r, am_cat_l, am_cat_n, gd_i, gd_r, gd_n, gd_u, List.length_cons, List.length_nil, true_and, and_true, ↓reduceIte, Nat.zero_le, Nat.reduceLeDiff, Nat.reduceAdd, e_10, e_01, e_00, e_11, Int32.reduceLE, Int32.reduceLT, Int32.reduceAdd, Int32.reduceSub, b01, if_true, if_false, ite_self, rc_13, gf_13_0, gf_13_1, pf_13_1, gf_13_2, pf_13_2, gf_13_3, pf_13_3, gf_13_4, pf_13_4, gf_13_5, pf_13_5, ga_14, wb_14, nl_add, nl_add', nl_mul, nI_add, in_t, cl_n, le_nn, lt_nn, le_ln, le_nl, lt_nl, lt_ln, eq_nn, eq_nl, in_lit, cl_lit, Nat.le_refl, Nat.add_zero, v1, v3, v5, show ¬ tL n b s ≤ s by omega]
    · have hls : tL n b s = s := by
        rcases Nat.lt_or_ge s (tL n b s) with z | z
        · exact absurd (l3 s (Nat.le_refl _) z) hlt
        · omega
      rw [hls, e0]
      have e4 : am_ev X kX7_advance 120 [.ref 13] [] (hp K) = am_ev X kX7_advance 137 [.ref 13] [] (hp K) := by
        simp (disch := omega) only [iX7_advance_120, iX7_advance_121, iX7_advance_124, iX7_advance_125, iX7_advance_128, iX7_advance_131, iX7_advance_132, iX7_advance_133, iX7_advance_136, true_or, or_true, Option.bind_some, Option.bind_none, kk_hp, kn_hp, el_i, el_b, el_z, am_cat_nil, am_cat_i, am_cat_r, am_cat_l, am_cat_n, gd_i, gd_r, gd_n, gd_u, List.length_cons, List.length_nil, true_and, and_true, ↓reduceIte, Nat.zero_le, Nat.reduceLeDiff, Nat.reduceAdd, e_10, e_01, e_00, e_11, Int32.reduceLE, Int32.reduceLT, Int32.reduceAdd, Int32.reduceSub, b01, if_true, if_false, ite_self, rc_13, gf_13_0, gf_13_1, pf_13_1, gf_13_2, pf_13_2, gf_13_3, pf_13_3, gf_13_4, pf_13_4, gf_13_5, pf_13_5, ga_14, wb_14, nl_add, nl_add', nl_mul, nI_add, in_t, cl_n, le_nn, lt_nn, le_ln, le_nl, lt_nl, lt_ln, eq_nn, eq_nl, in_lit, cl_lit, Nat.le_refl, Nat.add_zero, k3, k5, Nat.le_refl]
      rw [e4]
      -- figures
      obtain ⟨d1, d2, d3, d4⟩ := @tD_p n s b (by omega)
      have e5 := chain (fun q => am_ev X kX7_advance 137 [.ref 13] [] (hp (up (up K 13 5 (nI q)) 13 4 (vl b s (q - s))))) s (tD n b s) d1 (fun q h1 h2 => by
        have hq := of_decide_eq_true (d3 q h1 h2)
        have u1 : ∀ x y, (up (up K 13 5 x) 13 4 y) 13 1 = nI n := fun x y => k1
        have u5 : ∀ x y, (up (up K 13 5 x) 13 4 y) 13 5 = x := fun x y => by rw [up_s, pk_un (by decide), up_s, pk_us]
        have u4 : ∀ x y, (up (up K 13 5 x) 13 4 y) 13 4 = y := fun x y => by rw [up_s, pk_us]
        have u14 : ∀ x y, (up (up K 13 5 x) 13 4 y) 14 = K 14 := fun x y => rfl
        have vq := w14 q hq.1
        have ev : vl b s (q + 1 - s) = 10 * vl b s (q - s) + nI (b q) - 48 := by
          rw [show q + 1 - s = (q - s) + 1 by omega, vl, show s + (q - s) = q by omega]
        have ecm : ∀ x y x' y', up (up (up (up K 13 5 x) 13 4 y) 13 4 y') 13 5 x' = up (up K 13 5 x') 13 4 y' := fun x y x' y' => by
          rw [up_up2]
          rw [up_ua K, up_of, up_of, up_ua K, up_of]
          congr 1
          funext j
          by_cases h5 : j = 5
          · rw [h5, pk_us, pk_un (by decide), pk_us]
          · by_cases h4 : j = 4
            · rw [h4, pk_un (by decide), pk_us, pk_us]
            · rw [pk_un h5, pk_un h4, pk_un h5, pk_un h4, pk_un h5]
        conv => lhs; rw [iX7_advance_137]
        rw [ev]
        have u5' : ∀ x y y', (up (up (up K 13 5 x) 13 4 y) 13 4 y') 13 5 = x := fun x y y' => by rw [up_s, pk_un (by decide)]; exact u5 x y
        simp (disch := omega) only [iX7_advance_138, iX7_advance_141, iX7_advance_142, iX7_advance_145, iX7_advance_148, iX7_advance_149, iX7_advance_152, iX7_advance_153, iX7_advance_156, iX7_advance_157, iX7_advance_159, iX7_advance_162, iX7_advance_163, iX7_advance_166, iX7_advance_167, iX7_advance_170, iX7_advance_171, iX7_advance_173, iX7_advance_176, iX7_advance_177, iX7_advance_179, iX7_advance_180, iX7_advance_183, iX7_advance_184, iX7_advance_185, iX7_advance_188, iX7_advance_189, iX7_advance_192, iX7_advance_193, iX7_advance_194, iX7_advance_196, iX7_advance_197, iX7_advance_200, iX7_advance_201, iX7_advance_202, iX7_advance_205, iX7_advance_206, iX7_advance_207, iX7_advance_210, true_or, or_true, Option.bind_some, Option.bind_none, kk_hp, kn_hp, el_i, el_b, el_z, am_cat_nil, am_cat_i, am_cat_r, am_cat_l, am_cat_n, gd_i, gd_r, gd_n, gd_u, List.length_cons, List.length_nil, true_and, and_true, ↓reduceIte, Nat.zero_le, Nat.reduceLeDiff, Nat.reduceAdd, e_10, e_01, e_00, e_11, Int32.reduceLE, Int32.reduceLT, Int32.reduceAdd, Int32.reduceSub, b01, if_true, if_false, ite_self, rc_13, gf_13_0, gf_13_1, pf_13_1, gf_13_2, pf_13_2, gf_13_3, pf_13_3, gf_13_4, pf_13_4, gf_13_5, pf_13_5, ga_14, wb_14, nl_add, nl_add', nl_mul, nI_add, in_t, cl_n, le_nn, lt_nn, le_ln, le_nl, lt_nl, lt_ln, eq_nn, eq_nl, in_lit, cl_lit, Nat.le_refl, Nat.add_zero, u1, u4, u5, u5', u14, show ¬ n ≤ q by omega, vq, show ¬ b q < 48 by omega, show ¬ 57 < b q by omega, ecm])
      have e6 : up (up K 13 5 (nI s)) 13 4 (vl b s (s - s)) = K := by
        rw [e0, Nat.sub_self]
        have : vl b s 0 = K 13 4 := k4.symm
        rw [this, up_self]
      rw [e6] at e5
      generalize hz : vl b s (tD n b s - s) = z at *
      have u1 : ∀ x, (up (up K 13 5 x) 13 4 z) 13 1 = nI n := fun x => k1
      have u5 : ∀ x, (up (up K 13 5 x) 13 4 z) 13 5 = x := fun x => by rw [up_s, pk_un (by decide), up_s, pk_us]
      have u3 : ∀ x, (up (up K 13 5 x) 13 4 z) 13 3 = nI s := fun x => k3
      have u14 : ∀ x, (up (up K 13 5 x) 13 4 z) 14 = K 14 := fun x => rfl
      have e7 : am_ev X kX7_advance 137 [.ref 13] [] (hp K) = am_ev X kX7_advance 213 [.ref 13] [] (hp (up (up K 13 5 (nI (tD n b s))) 13 4 z)) := by
        rw [e5]
        by_cases hlen : n ≤ tD n b s
        · simp (disch := omega) only [iX7_advance_137, iX7_advance_138, iX7_advance_141, iX7_advance_142, iX7_advance_145, true_or, or_true, Option.bind_some, Option.bind_none, kk_hp, kn_hp, el_i, el_b, el_z, am_cat_nil, am_cat_i, am_cat_r, am_cat_l, am_cat_n, gd_i, gd_r, gd_n, gd_u, List.length_cons, List.length_nil, true_and, and_true, ↓reduceIte, Nat.zero_le, Nat.reduceLeDiff, Nat.reduceAdd, e_10, e_01, e_00, e_11, Int32.reduceLE, Int32.reduceLT, Int32.reduceAdd, Int32.reduceSub, b01, if_true, if_false, ite_self, rc_13, gf_13_0, gf_13_1, pf_13_1, gf_13_2, pf_13_2, gf_13_3, pf_13_3, gf_13_4, pf_13_4, gf_13_5, pf_13_5, ga_14, wb_14, nl_add, nl_add', nl_mul, nI_add, in_t, cl_n, le_nn, lt_nn, le_ln, le_nl, lt_nl, lt_ln, eq_nn, eq_nl, in_lit, cl_lit, Nat.le_refl, Nat.add_zero, u1, u5, hlen]
        · have vq := w14 (tD n b s) (by omega)
          have vb := (t2 (tD n b s) (by omega)).2
          by_cases h48 : b (tD n b s) < 48
          · simp (disch := omega) only [iX7_advance_137, iX7_advance_138, iX7_advance_141, iX7_advance_142, iX7_advance_145, iX7_advance_148, iX7_advance_149, iX7_advance_152, iX7_advance_153, iX7_advance_156, iX7_advance_157, iX7_advance_159, iX7_advance_162, iX7_advance_163, iX7_advance_166, iX7_advance_167, iX7_advance_170, iX7_advance_171, iX7_advance_173, iX7_advance_176, iX7_advance_177, iX7_advance_179, iX7_advance_180, iX7_advance_183, iX7_advance_184, iX7_advance_185, iX7_advance_188, iX7_advance_189, iX7_advance_192, iX7_advance_193, iX7_advance_194, iX7_advance_196, iX7_advance_197, iX7_advance_200, iX7_advance_201, iX7_advance_202, iX7_advance_205, iX7_advance_206, iX7_advance_207, true_or, or_true, Option.bind_some, Option.bind_none, kk_hp, kn_hp, el_i, el_b, el_z, am_cat_nil, am_cat_i, am_cat_r, am_cat_l, am_cat_n, gd_i, gd_r, gd_n, gd_u, List.length_cons, List.length_nil, true_and, and_true, ↓reduceIte, Nat.zero_le, Nat.reduceLeDiff, Nat.reduceAdd, e_10, e_01, e_00, e_11, Int32.reduceLE, Int32.reduceLT, Int32.reduceAdd, Int32.reduceSub, b01, if_true, if_false, ite_self, rc_13, gf_13_0, gf_13_1, pf_13_1, gf_13_2, pf_13_2, gf_13_3, pf_13_3, gf_13_4, pf_13_4, gf_13_5, pf_13_5, ga_14, wb_14, nl_add, nl_add', nl_mul, nI_add, in_t, cl_n, le_nn, lt_nn, le_ln, le_nl, lt_nl, lt_ln, eq_nn, eq_nl, in_lit, cl_lit, Nat.le_refl, Nat.add_zero, u1, u5, u14, hlen, vq, h48]
          · have h57 : 57 < b (tD n b s) := by
              refine Decidable.byContradiction (fun z => ?_)
              rw [show cDg n b (tD n b s) = true from decide_eq_true ⟨by omega, by omega, by omega⟩] at d4
              exact absurd d4 (by decide)
            simp (disch := omega) only [iX7_advance_137, iX7_advance_138, iX7_advance_141, iX7_advance_142, iX7_advance_145, iX7_advance_148, iX7_advance_149, iX7_advance_152, iX7_advance_153, iX7_advance_156, iX7_advance_157, iX7_advance_159, iX7_advance_162, iX7_advance_163, iX7_advance_166, iX7_advance_167, iX7_advance_170, iX7_advance_171, iX7_advance_173, iX7_advance_176, iX7_advance_177, iX7_advance_179, iX7_advance_180, iX7_advance_183, iX7_advance_184, iX7_advance_185, iX7_advance_188, iX7_advance_189, iX7_advance_192, iX7_advance_193, iX7_advance_194, iX7_advance_196, iX7_advance_197, iX7_advance_200, iX7_advance_201, iX7_advance_202, iX7_advance_205, iX7_advance_206, iX7_advance_207, true_or, or_true, Option.bind_some, Option.bind_none, kk_hp, kn_hp, el_i, el_b, el_z, am_cat_nil, am_cat_i, am_cat_r, am_cat_l, am_cat_n, gd_i, gd_r, gd_n, gd_u, List.length_cons, List.length_nil, true_and, and_true, ↓reduceIte, Nat.zero_le, Nat.reduceLeDiff, Nat.reduceAdd, e_10, e_01, e_00, e_11, Int32.reduceLE, Int32.reduceLT, Int32.reduceAdd, Int32.reduceSub, b01, if_true, if_false, ite_self, rc_13, gf_13_0, gf_13_1, pf_13_1, gf_13_2, pf_13_2, gf_13_3, pf_13_3, gf_13_4, pf_13_4, gf_13_5, pf_13_5, ga_14, wb_14, nl_add, nl_add', nl_mul, nI_add, in_t, cl_n, le_nn, lt_nn, le_ln, le_nl, lt_nl, lt_ln, eq_nn, eq_nl, in_lit, cl_lit, Nat.le_refl, Nat.add_zero, u1, u5, u14, hlen, vq, h48, h57]
      rw [e7]
      by_cases hdg : cDg n b s = true
      · have hb : tB n b p = tD n b s := by unfold tB; rw [hs, if_neg hend, if_neg hlt, if_pos hdg]
        have hds := tD_lt (by omega) hdg
        by_cases h3 : tD n b s - s ≤ 3
        · have hk : tK n b p = 2 := by unfold tK; rw [hs, if_neg hend, if_neg hlt, if_pos hdg, if_pos h3]
          refine ⟨up (up (up K 13 5 (nI (tD n b s))) 13 4 z) 13 2 2, ?_, fun a ha => by rw [up_n _ _ _ ha, up_n _ _ _ ha, up_n _ _ _ ha]; exact fK a ha, k1, by rw [hk]; rfl, k3, by rw [hb]; rfl, fun _ => by unfold tV; rw [hs, hz]; rfl⟩
          simp (disch := omega) only [iX7_advance_213, iX7_advance_214, iX7_advance_217, iX7_advance_218, iX7_advance_221, iX7_advance_224, iX7_advance_225, iX7_advance_226, iX7_advance_229, iX7_advance_230, iX7_advance_233, iX7_advance_234, iX7_advance_235, iX7_advance_238, iX7_advance_239, iX7_advance_242, iX7_advance_243, iX7_advance_246, true_or, or_true, Option.bind_some, Option.bind_none, kk_hp, kn_hp, el_i, el_b, el_z, am_cat_nil, am_cat_i, am_cat_r, am_cat_l, am_cat_n, gd_i, gd_r, gd_n, gd_u, List.length_cons, List.length_nil, true_and, and_true, ↓reduceIte, Nat.zero_le, Nat.reduceLeDiff, Nat.reduceAdd, e_10, e_01, e_00, e_11, Int32.reduceLE, Int32.reduceLT, Int32.reduceAdd, Int32.reduceSub, b01, if_true, if_false, ite_self, rc_13, gf_13_0, gf_13_1, pf_13_1, gf_13_2, pf_13_2, gf_13_3, pf_13_3, gf_13_4, pf_13_4, gf_13_5, pf_13_5, ga_14, wb_14, nl_add, nl_add', nl_mul, nI_add, in_t, cl_n, le_nn, lt_nn, le_ln, le_nl, lt_nl, lt_ln, eq_nn, eq_nl, in_lit, cl_lit, Nat.le_refl, Nat.add_zero, u3, u5, show ¬ tD n b s ≤ s by omega, nI_sub', show ¬ 3 < tD n b s - s by omega]
        · have hk : tK n b p = 4 := by unfold tK; rw [hs, if_neg hend, if_neg hlt, if_pos hdg, if_neg h3]
          refine ⟨up (up (up K 13 5 (nI (tD n b s))) 13 4 z) 13 2 4, ?_, fun a ha => by rw [up_n _ _ _ ha, up_n _ _ _ ha, up_n _ _ _ ha]; exact fK a ha, k1, by rw [hk]; rfl, k3, by rw [hb]; rfl, fun q => by rw [hk] at q; omega⟩
          simp (disch := omega) only [iX7_advance_213, iX7_advance_214, iX7_advance_217, iX7_advance_218, iX7_advance_221, iX7_advance_224, iX7_advance_225, iX7_advance_226, iX7_advance_229, iX7_advance_230, iX7_advance_233, iX7_advance_234, iX7_advance_235, iX7_advance_238, iX7_advance_239, iX7_advance_242, iX7_advance_243, iX7_advance_246, true_or, or_true, Option.bind_some, Option.bind_none, kk_hp, kn_hp, el_i, el_b, el_z, am_cat_nil, am_cat_i, am_cat_r, am_cat_l, am_cat_n, gd_i, gd_r, gd_n, gd_u, List.length_cons, List.length_nil, true_and, and_true, ↓reduceIte, Nat.zero_le, Nat.reduceLeDiff, Nat.reduceAdd, e_10, e_01, e_00, e_11, Int32.reduceLE, Int32.reduceLT, Int32.reduceAdd, Int32.reduceSub, b01, if_true, if_false, ite_self, rc_13, gf_13_0, gf_13_1, pf_13_1, gf_13_2, pf_13_2, gf_13_3, pf_13_3, gf_13_4, pf_13_4, gf_13_5, pf_13_5, ga_14, wb_14, nl_add, nl_add', nl_mul, nI_add, in_t, cl_n, le_nn, lt_nn, le_ln, le_nl, lt_nl, lt_ln, eq_nn, eq_nl, in_lit, cl_lit, Nat.le_refl, Nat.add_zero, u3, u5, show ¬ tD n b s ≤ s by omega, nI_sub', show 3 < tD n b s - s by omega]
      · have hds : tD n b s = s := by
          rcases Nat.lt_or_ge s (tD n b s) with z | z
          · exact absurd (d3 s (Nat.le_refl _) z) hdg
          · omega
        have hb : tB n b p = s + 1 := by unfold tB; rw [hs, if_neg hend, if_neg hlt, if_neg hdg]
        have hz0 : z = K 13 4 := by rw [← hz, hds, Nat.sub_self]; exact k4.symm
        rw [hds, e0, hz0, up_self]
        have vq := w14 s (by omega)
        have vb := (t2 s (by omega)).2
        by_cases h59 : b s = 59
        · have hk : tK n b p = 3 := by unfold tK; rw [hs, if_neg hend, if_neg hlt, if_neg hdg, if_pos h59]
          rw [h59] at vq
          refine ⟨up (up K 13 2 3) 13 5 (nI (s + 1)), ?_, fun a ha => by rw [up_n _ _ _ ha, up_n _ _ _ ha]; exact fK a ha, k1, by rw [hk]; rfl, k3, by rw [hb]; rfl, fun q => by rw [hk] at q; omega⟩
          have x5 : (up K 13 2 3) 13 5 = nI s := k5
          simp (disch := omega) only [iX7_advance_213, iX7_advance_214, iX7_advance_217, iX7_advance_218, iX7_advance_221, iX7_advance_247, iX7_advance_248, iX7_advance_249, iX7_advance_252, iX7_advance_253, iX7_advance_256, iX7_advance_257, iX7_advance_259, iX7_advance_262, iX7_advance_263, iX7_advance_266, iX7_advance_267, iX7_advance_270, iX7_advance_271, iX7_advance_272, iX7_advance_275, iX7_advance_276, iX7_advance_277, iX7_advance_280, true_or, or_true, Option.bind_some, Option.bind_none, kk_hp, kn_hp, el_i, el_b, el_z, am_cat_nil, am_cat_i, am_cat_r, am_cat_l, am_cat_n, gd_i, gd_r, gd_n, gd_u, List.length_cons, List.length_nil, true_and, and_true, ↓reduceIte, Nat.zero_le, Nat.reduceLeDiff, Nat.reduceAdd, e_10, e_01, e_00, e_11, Int32.reduceLE, Int32.reduceLT, Int32.reduceAdd, Int32.reduceSub, b01, if_true, if_false, ite_self, rc_13, gf_13_0, gf_13_1, pf_13_1, gf_13_2, pf_13_2, gf_13_3, pf_13_3, gf_13_4, pf_13_4, gf_13_5, pf_13_5, ga_14, wb_14, nl_add, nl_add', nl_mul, nI_add, in_t, cl_n, le_nn, lt_nn, le_ln, le_nl, lt_nl, lt_ln, eq_nn, eq_nl, in_lit, cl_lit, Nat.le_refl, Nat.add_zero, k3, k5, Nat.le_refl, vq, show nI 59 = (59 : Int32) from rfl, x5]
        · have hk : tK n b p = 4 := by unfold tK; rw [hs, if_neg hend, if_neg hlt, if_neg hdg, if_neg h59]
          refine ⟨up (up K 13 2 4) 13 5 (nI (s + 1)), ?_, fun a ha => by rw [up_n _ _ _ ha, up_n _ _ _ ha]; exact fK a ha, k1, by rw [hk]; rfl, k3, by rw [hb]; rfl, fun q => by rw [hk] at q; omega⟩
          have x5 : (up K 13 2 4) 13 5 = nI s := k5
          have v59 : ¬ nI (b s) = 59 := fun z => h59 (nI_inj (by omega) (by decide) z)
          simp (disch := omega) only [iX7_advance_213, iX7_advance_214, iX7_advance_217, iX7_advance_218, iX7_advance_221, iX7_advance_247, iX7_advance_248, iX7_advance_249, iX7_advance_252, iX7_advance_253, iX7_advance_256, iX7_advance_257, iX7_advance_259, iX7_advance_262, iX7_advance_263, iX7_advance_266, iX7_advance_267, iX7_advance_270, iX7_advance_271, iX7_advance_272, iX7_advance_275, iX7_advance_276, iX7_advance_277, iX7_advance_280, true_or, or_true, Option.bind_some, Option.bind_none, kk_hp, kn_hp, el_i, el_b, el_z, am_cat_nil, am_cat_i, am_cat_r, am_cat_l, am_cat_n, gd_i, gd_r, gd_n, gd_u, List.length_cons, List.length_nil, true_and, and_true, ↓reduceIte, Nat.zero_le, Nat.reduceLeDiff, Nat.reduceAdd, e_10, e_01, e_00, e_11, Int32.reduceLE, Int32.reduceLT, Int32.reduceAdd, Int32.reduceSub, b01, if_true, if_false, ite_self, rc_13, gf_13_0, gf_13_1, pf_13_1, gf_13_2, pf_13_2, gf_13_3, pf_13_3, gf_13_4, pf_13_4, gf_13_5, pf_13_5, ga_14, wb_14, nl_add, nl_add', nl_mul, nI_add, in_t, cl_n, le_nn, lt_nn, le_ln, le_nl, lt_nl, lt_ln, eq_nn, eq_nl, in_lit, cl_lit, Nat.le_refl, Nat.add_zero, k3, k5, Nat.le_refl, vq, v59, h59, x5]
end S88
