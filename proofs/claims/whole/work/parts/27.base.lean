theorem am_cat_nil : am_cat [] = 0 := rfl
theorem am_cat_i {x : Int32} {r : List Value} : am_cat (.int x :: r) = 1 + am_cat r := rfl
theorem am_cat_r {x : Addr} {r : List Value} : am_cat (.ref x :: r) = 1 + am_cat r := rfl
theorem am_cat_l {x : Int64} {r : List Value} : am_cat (.long x :: r) = 2 + am_cat r := rfl
theorem am_cat_n {r : List Value} : am_cat (.null :: r) = 1 + am_cat r := rfl
theorem cat_i {x : Int32} : (Value.int x).category = 1 := rfl
theorem cat_r {x : Addr} : (Value.ref x).category = 1 := rfl
theorem cat_n : Value.null.category = 1 := rfl
theorem cat_u : am_u.category = 1 := rfl
theorem lg_lt {x y : Int64} : (lg_cmp x y < 0) = (x < y) := by
  unfold lg_cmp
  split
  · rename_i h; simp only [gt_iff_lt] at h; simp; exact Int64.le_of_lt h
  · split
    · rename_i h; subst h; simp
    · rename_i h1 h2; simp; simp at h1; exact Int64.lt_of_le_of_ne h1 h2
theorem lg_gt {x y : Int64} : (0 < lg_cmp x y) = (y < x) := by
  unfold lg_cmp
  split
  · rename_i h; simp only [gt_iff_lt] at h; simp; exact h
  · split
    · rename_i h; subst h; simp
    · rename_i h1 h2; simp; simp at h1; exact h1
theorem lg_ge {x y : Int64} : (0 ≤ lg_cmp x y) = (y ≤ x) := by
  have := @lg_lt x y
  simp only [eq_iff_iff] at this ⊢
  rw [← Int32.not_lt, ← Int64.not_lt, this]
-- small numbers
theorem in_t {j n : Nat} (h : j < n) (hn : n < 2147483648) : am_in (nI j) n = true := am_in_iff.mpr (vp_in_nI h hn)
theorem cl_n {j : Nat} (h : j < 2147483648) : (nI j).toNatClampNeg = j := nI_clamp h
theorem nl_add (n c : Nat) : (no_index (OfNat.ofNat n) : Int32) + nI c = nI ((OfNat.ofNat n : Nat) + c) := nI_add n c
theorem nl_add' (n c : Nat) : nI c + (no_index (OfNat.ofNat n) : Int32) = nI (c + (OfNat.ofNat n : Nat)) := nI_add c n
theorem nl_mul (n c : Nat) : (no_index (OfNat.ofNat n) : Int32) * nI c = nI ((OfNat.ofNat n : Nat) * c) := pk_mul n c
theorem nl_n (n : Nat) : nI (OfNat.ofNat n) = (OfNat.ofNat n : Int32) := rfl
theorem in_lit (n : Nat) (N : Nat) (h : (OfNat.ofNat n : Nat) < N) (hN : N < 2147483648) : am_in (no_index (OfNat.ofNat n) : Int32) N = true := in_t h hN
theorem cl_lit (n : Nat) (h : (OfNat.ofNat n : Nat) < 2147483648) : (no_index (OfNat.ofNat n) : Int32).toNatClampNeg = (OfNat.ofNat n : Nat) := nI_clamp h
theorem le_nn {a b : Nat} (ha : a < 2147483648) (hb : b < 2147483648) : (nI a ≤ nI b) = (a ≤ b) := propext (nI_leI ha hb)
theorem lt_nn {a b : Nat} (ha : a < 2147483648) (hb : b < 2147483648) : (nI a < nI b) = (a < b) := propext (nI_ltI ha hb)
theorem eq_nn {a b : Nat} (ha : a < 2147483648) (hb : b < 2147483648) : (nI a = nI b) = (a = b) := propext (nI_eq ha hb)
theorem le_nl {a n : Nat} (ha : a < 2147483648) (hb : (OfNat.ofNat n : Nat) < 2147483648) : (nI a ≤ (no_index (OfNat.ofNat n) : Int32)) = (a ≤ (OfNat.ofNat n : Nat)) := le_nn ha hb
theorem lt_nl {a n : Nat} (ha : a < 2147483648) (hb : (OfNat.ofNat n : Nat) < 2147483648) : (nI a < (no_index (OfNat.ofNat n) : Int32)) = (a < (OfNat.ofNat n : Nat)) := lt_nn ha hb
theorem eq_nl {a n : Nat} (ha : a < 2147483648) (hb : (OfNat.ofNat n : Nat) < 2147483648) : (nI a = (no_index (OfNat.ofNat n) : Int32)) = (a = (OfNat.ofNat n : Nat)) := eq_nn ha hb
theorem le_ln {a n : Nat} (ha : a < 2147483648) (hb : (OfNat.ofNat n : Nat) < 2147483648) : ((no_index (OfNat.ofNat n) : Int32) ≤ nI a) = ((OfNat.ofNat n : Nat) ≤ a) := le_nn hb ha
theorem lt_ln {a n : Nat} (ha : a < 2147483648) (hb : (OfNat.ofNat n : Nat) < 2147483648) : ((no_index (OfNat.ofNat n) : Int32) < nI a) = ((OfNat.ofNat n : Nat) < a) := lt_nn hb ha
theorem ne_m4 {a : Nat} (ha : a < 2147483648) : (nI a = (-4)) = False := by
  apply propext
  constructor
  · intro h
    have := congrArg Int32.toInt h
    rw [nI_toInt ha] at this
    have e : (-4 : Int32).toInt = -4 := by decide
    omega
  · exact False.elim
theorem wl (x y : Int32) : (x.toInt64 ≤ y.toInt64) = (x ≤ y) := by
  apply propext
  rw [Int64.le_iff_toInt_le, Int32.le_iff_toInt_le, Int32.toInt_toInt64, Int32.toInt_toInt64]
theorem wl_l (n : Nat) (x : Int32) (h : (OfNat.ofNat n : Nat) < 2147483648) : ((no_index (OfNat.ofNat n) : Int64) ≤ x.toInt64) = ((OfNat.ofNat n : Int32) ≤ x) := by
  have e : (OfNat.ofNat n : Int64) = (OfNat.ofNat n : Int32).toInt64 := (nI_l h).symm
  rw [e, wl]
theorem wl_r (n : Nat) (x : Int32) (h : (OfNat.ofNat n : Nat) < 2147483648) : (x.toInt64 ≤ (no_index (OfNat.ofNat n) : Int64)) = (x ≤ (OfNat.ofNat n : Int32)) := by
  have e : (OfNat.ofNat n : Int64) = (OfNat.ofNat n : Int32).toInt64 := (nI_l h).symm
  rw [e, wl]
theorem up_up (M : Nat → Nat → Int32) (a : Nat) (f g : Nat → Int32) : ua (ua M a f) a g = ua M a g := by
  funext b
  unfold ua
  split <;> rfl
theorem chain {β : Type} (F : Nat → β) (i n : Nat) (hin : i ≤ n) (h : ∀ j, i ≤ j → j < n → F j = F (j + 1)) : F i = F n := by
  obtain ⟨d, rfl⟩ : ∃ d, n = i + d := ⟨n - i, by omega⟩
  clear hin
  induction d with
  | zero => rfl
  | succ d ih =>
    rw [ih (fun j h1 h2 => h j h1 (by omega)), h (i + d) (by omega) (by omega)]
    rfl
def sm (f : Nat → Int32) : Nat → Int32
  | 0 => 0
  | n + 1 => sm f n + f n
/-- places 0 .. n - 1 from g, the others from f -/
def fil (f g : Nat → Int32) (n : Nat) : Nat → Int32 := fun j => if j < n then g j else f j
theorem fil_0 (f g : Nat → Int32) : fil f g 0 = f := by funext j; simp [fil]
theorem fil_s (f g : Nat → Int32) (n : Nat) : upd (fil f g n) n (g n) = fil f g (n + 1) := by
  funext j
  by_cases h : j = n
  · subst h; rw [pk_us]; simp [fil]
  · rw [pk_un h]
    unfold fil
    by_cases h2 : j < n
    · rw [if_pos h2, if_pos (by omega)]
    · rw [if_neg h2, if_neg (by omega)]
theorem fil_in {f g : Nat → Int32} {n j : Nat} (h : j < n) : fil f g n j = g j := if_pos h
theorem fil_out {f g : Nat → Int32} {n j : Nat} (h : ¬ j < n) : fil f g n j = f j := if_neg h
theorem ua_self (M : Nat → Nat → Int32) (a : Nat) : ua M a (M a) = M := by
  funext b
  unfold ua
  split
  · rename_i h; rw [h]
  · rfl
theorem up_of (M : Nat → Nat → Int32) (a j : Nat) (f : Nat → Int32) (x : Int32) : up (ua M a f) a j x = ua M a (upd f j x) := by
  rw [up_ua, ua_s, up_up]
theorem e_10 : ((1 : Int32) = 0) = False := by decide
theorem e_01 : ((0 : Int32) = 1) = False := by decide
theorem e_00 : ((0 : Int32) = 0) = True := by decide
theorem e_11 : ((1 : Int32) = 1) = True := by decide
theorem eq_ll (n m : Nat) (hn : (OfNat.ofNat n : Nat) < 2147483648) (hm : (OfNat.ofNat m : Nat) < 2147483648) : ((no_index (OfNat.ofNat n) : Int32) = no_index (OfNat.ofNat m)) = ((OfNat.ofNat n : Nat) = (OfNat.ofNat m : Nat)) := eq_nn hn hm
theorem loop_inv {β σ : Type} (F : Nat → σ → β) (I : Nat → σ → Prop) (i n : Nat) (hin : i ≤ n) (s : σ) (hI : I i s) (h : ∀ j s, i ≤ j → j < n → I j s → ∃ s', F j s = F (j + 1) s' ∧ I (j + 1) s') : ∃ s', F i s = F n s' ∧ I n s' := by
  obtain ⟨d, rfl⟩ : ∃ d, n = i + d := ⟨n - i, by omega⟩
  clear hin
  induction d with
  | zero => exact ⟨s, rfl, hI⟩
  | succ d ih =>
    obtain ⟨s1, e1, h1⟩ := ih (fun j s h1 h2 h3 => h j s h1 (by omega) h3)
    obtain ⟨s2, e2, h2⟩ := h (i + d) s1 (by omega) (by omega) h1
    exact ⟨s2, e1.trans e2, h2⟩
theorem b01 {p : Prop} [Decidable p] : ((if p then (1 : Int32) else 0) = 0 ∨ (if p then (1 : Int32) else 0) = 1) = True := by
  apply propext
  by_cases h : p <;> simp [h]
theorem f01 {p : Prop} [Decidable p] : ((if p then (1 : Int32) else 0) = 0) = ¬ p := by
  apply propext
  by_cases h : p <;> simp [h]
theorem f01n {p : Prop} [Decidable p] : ¬ ((if p then (1 : Int32) else 0) = 0) ↔ p := by
  by_cases h : p <;> simp [h]
section S27
variable {X : am_X} {M : Nat → Nat → Int32}
theorem M_in {a b c : Int64} : am_ev X kX9_in 0 [.long a, am_u, .long b, am_u, .long c, am_u] [] (hp M) = some (some (.int (if b ≤ a ∧ a ≤ c then 1 else 0)), hp M) := by
  simp only [iX9_in_0, iX9_in_1, iX9_in_2, iX9_in_3, iX9_in_6, iX9_in_7, iX9_in_9, iX9_in_10, iX9_in_13, iX9_in_14, iX9_in_17, iX9_in_18, true_or, or_true, Option.bind_some, Option.bind_none, kk_hp, kn_hp, el_i, el_b, el_z, am_cat_nil, am_cat_i, am_cat_r, am_cat_l, am_cat_n, gd_i, gd_r, gd_n, gd_u, List.length_cons, List.length_nil, true_and, and_true, ↓reduceIte, Nat.zero_le, Nat.reduceLeDiff, Nat.reduceAdd, e_10, e_01, e_00, e_11, Int32.reduceLE, Int32.reduceLT, Int32.reduceAdd, Int32.reduceSub, b01, if_true, if_false, ite_self, lg_lt, lg_gt]
  by_cases h1 : a < b
  · rw [if_pos h1, if_neg (fun z => Int64.not_le.mpr h1 z.1)]
  · rw [if_neg h1]
    by_cases h2 : c < a
    · rw [if_pos h2, if_neg (fun z => Int64.not_le.mpr h2 z.2)]
    · rw [if_neg h2, if_pos ⟨Int64.not_lt.mp h1, Int64.not_lt.mp h2⟩]
theorem M_flag {a : Int32} : am_ev X kX9_flag 0 [.int a] [] (hp M) = some (some (.int (if a = 0 then 0 else 1)), hp M) := by
  simp only [iX9_flag_0, iX9_flag_1, iX9_flag_4, iX9_flag_5, iX9_flag_8, iX9_flag_9, true_or, or_true, Option.bind_some, Option.bind_none, kk_hp, kn_hp, el_i, el_b, el_z, am_cat_nil, am_cat_i, am_cat_r, am_cat_l, am_cat_n, gd_i, gd_r, gd_n, gd_u, List.length_cons, List.length_nil, true_and, and_true, ↓reduceIte, Nat.zero_le, Nat.reduceLeDiff, Nat.reduceAdd, e_10, e_01, e_00, e_11, Int32.reduceLE, Int32.reduceLT, Int32.reduceAdd, Int32.reduceSub, b01, if_true, if_false, ite_self]
  split <;> rfl
theorem M_isOpen {c : Nat} (hc : c < 6) : am_ev X kX9_isOpen 0 [.ref 82, .int (nI c)] [] (hp M) = some (some (.int (if M 83 (5 + c) = 2 ∧ M 96 c = 0 then 1 else 0)), hp M) := by
  simp (disch := omega) only [iX9_isOpen_0, iX9_isOpen_1, iX9_isOpen_4, iX9_isOpen_5, iX9_isOpen_6, iX9_isOpen_7, iX9_isOpen_8, iX9_isOpen_9, iX9_isOpen_12, iX9_isOpen_13, iX9_isOpen_16, iX9_isOpen_17, iX9_isOpen_18, iX9_isOpen_21, iX9_isOpen_22, iX9_isOpen_25, iX9_isOpen_26, true_or, or_true, Option.bind_some, Option.bind_none, kk_hp, kn_hp, el_i, el_b, el_z, am_cat_nil, am_cat_i, am_cat_r, am_cat_l, am_cat_n, gd_i, gd_r, gd_n, gd_u, List.length_cons, List.length_nil, true_and, and_true, ↓reduceIte, Nat.zero_le, Nat.reduceLeDiff, Nat.reduceAdd, e_10, e_01, e_00, e_11, Int32.reduceLE, Int32.reduceLT, Int32.reduceAdd, Int32.reduceSub, b01, if_true, if_false, ite_self, rc_82, gf_82_0, gf_82_1, gf_82_2, gf_82_3, gf_82_4, gf_82_5, gf_82_6, pf_82_6, gf_82_7, pf_82_7, gf_82_8, pf_82_8, gf_82_9, pf_82_9, gf_82_10, pf_82_10, gf_82_11, pf_82_11, gf_82_12, pf_82_12, gf_82_13, gf_82_14, gf_82_15, gf_82_16, pf_82_16, gf_82_17, gf_82_18, gf_82_19, gf_82_20, gf_82_21, gf_82_22, gf_82_23, gf_82_24, gf_82_25, pf_82_25, ga_83, wi_83, ga_84, wi_84, ga_85, wb_85, ga_86, wi_86, ga_87, wb_87, ga_88, wi_88, ga_89, wi_89, ga_90, wi_90, ga_91, wi_91, ga_92, wi_92, ga_93, wi_93, ga_94, wi_94, ga_95, wi_95, ga_96, wb_96, ga_97, wi_97, ga_98, wi_98, ga_99, wi_99, nl_add, in_t, cl_n]
  by_cases h1 : M 83 (5 + c) = 2 <;> by_cases h2 : M 96 c = 0 <;> simp [h1, h2]
theorem M_noGrowth : am_ev X kX9_noGrowth 0 [.ref 82, am_u] [] (hp M) = some (none, hp (ua M 94 (fil (M 94) (fun _ => 0) 12))) := by
  have hs : ∀ j, 0 ≤ j → j < 12 → am_ev X kX9_noGrowth 2 [.ref 82, .int (nI j)] [] (hp (ua M 94 (fil (M 94) (fun _ => 0) j))) = am_ev X kX9_noGrowth 2 [.ref 82, .int (nI (j + 1))] [] (hp (ua M 94 (fil (M 94) (fun _ => 0) (j + 1)))) := by
    intro j _ hj
    conv => lhs; rw [iX9_noGrowth_2]
    simp (disch := omega) only [iX9_noGrowth_3, iX9_noGrowth_5, iX9_noGrowth_8, iX9_noGrowth_9, iX9_noGrowth_12, iX9_noGrowth_13, iX9_noGrowth_14, iX9_noGrowth_15, iX9_noGrowth_18, iX9_noGrowth_21, true_or, or_true, Option.bind_some, Option.bind_none, kk_hp, kn_hp, el_i, el_b, el_z, am_cat_nil, am_cat_i, am_cat_r, am_cat_l, am_cat_n, gd_i, gd_r, gd_n, gd_u, List.length_cons, List.length_nil, true_and, and_true, ↓reduceIte, Nat.zero_le, Nat.reduceLeDiff, Nat.reduceAdd, e_10, e_01, e_00, e_11, Int32.reduceLE, Int32.reduceLT, Int32.reduceAdd, Int32.reduceSub, b01, if_true, if_false, ite_self, rc_82, gf_82_0, gf_82_1, gf_82_2, gf_82_3, gf_82_4, gf_82_5, gf_82_6, pf_82_6, gf_82_7, pf_82_7, gf_82_8, pf_82_8, gf_82_9, pf_82_9, gf_82_10, pf_82_10, gf_82_11, pf_82_11, gf_82_12, pf_82_12, gf_82_13, gf_82_14, gf_82_15, gf_82_16, pf_82_16, gf_82_17, gf_82_18, gf_82_19, gf_82_20, gf_82_21, gf_82_22, gf_82_23, gf_82_24, gf_82_25, pf_82_25, ga_83, wi_83, ga_84, wi_84, ga_85, wb_85, ga_86, wi_86, ga_87, wb_87, ga_88, wi_88, ga_89, wi_89, ga_90, wi_90, ga_91, wi_91, ga_92, wi_92, ga_93, wi_93, ga_94, wi_94, ga_95, wi_95, ga_96, wb_96, ga_97, wi_97, ga_98, wi_98, ga_99, wi_99, nl_add', in_t, cl_n, le_ln, up_of, ← fil_s, show ¬ 12 ≤ j by omega]
  have e := chain (fun j => am_ev X kX9_noGrowth 2 [.ref 82, .int (nI j)] [] (hp (ua M 94 (fil (M 94) (fun _ => 0) j)))) 0 12 (by omega) hs
  simp only [fil_0, ua_self, nI_0] at e
  simp only [iX9_noGrowth_0, iX9_noGrowth_1, true_or, or_true, Option.bind_some, Option.bind_none, kk_hp, kn_hp, el_i, el_b, el_z, am_cat_nil, am_cat_i, am_cat_r, am_cat_l, am_cat_n, gd_i, gd_r, gd_n, gd_u, List.length_cons, List.length_nil, true_and, and_true, ↓reduceIte, Nat.zero_le, Nat.reduceLeDiff, Nat.reduceAdd, e_10, e_01, e_00, e_11, Int32.reduceLE, Int32.reduceLT, Int32.reduceAdd, Int32.reduceSub, b01, if_true, if_false, ite_self]
  rw [e]
  simp (disch := omega) only [iX9_noGrowth_2, iX9_noGrowth_3, iX9_noGrowth_5, iX9_noGrowth_8, iX9_noGrowth_9, iX9_noGrowth_12, iX9_noGrowth_13, iX9_noGrowth_14, iX9_noGrowth_15, iX9_noGrowth_18, iX9_noGrowth_21, true_or, or_true, Option.bind_some, Option.bind_none, kk_hp, kn_hp, el_i, el_b, el_z, am_cat_nil, am_cat_i, am_cat_r, am_cat_l, am_cat_n, gd_i, gd_r, gd_n, gd_u, List.length_cons, List.length_nil, true_and, and_true, ↓reduceIte, Nat.zero_le, Nat.reduceLeDiff, Nat.reduceAdd, e_10, e_01, e_00, e_11, Int32.reduceLE, Int32.reduceLT, Int32.reduceAdd, Int32.reduceSub, b01, if_true, if_false, ite_self, le_ln, Nat.le_refl]
end S27
theorem sm_0 (f : Nat → Int32) : sm f 0 = 0 := rfl
theorem sm_s (f : Nat → Int32) (n : Nat) : sm f (n + 1) = sm f n + f n := rfl
