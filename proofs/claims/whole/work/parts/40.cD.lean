/-! the class places all items -/
def f4 (x : Int32) : Int32 := if x = -4 then 1 else 0
def RPL (M : Nat → Nat → Int32) (s : Nat → Int32) (S : Nat → Prop) (P : PT) : Prop :=
  PI s S P ∧ RT (M 63) P.1 ∧ M 60 3 = P.2.2.2 ∧ (∀ i, i < mI s → S i → M 61 i = P.2.1 i ∧ M 62 i = P.2.2.1 i) ∧
  (∃ L : Nat → Int32, M 60 4 = sm L (mI s) ∧ (∀ i, i < mI s → S i → L i = f4 (P.2.1 i)) ∧ (∀ i, i < mI s → ¬ S i → L i = 0)) ∧
  M 60 5 = nI (cnt P.1 72)
def frC (M M' : Nat → Nat → Int32) : Prop := ∀ a, a ≠ 60 → a ≠ 61 → a ≠ 62 → a ≠ 63 → M' a = M a
theorem sm_one {f g : Nat → Int32} {i m : Nat} (hi : i < m) (h : ∀ j, j ≠ i → g j = f j) (h0 : f i = 0) : sm g m = sm f m + g i := by
  induction m with
  | zero => omega
  | succ m ih =>
    rw [sm_s, sm_s]
    by_cases hm : i = m
    · subst hm
      rw [h0, Int32.add_zero, sm_ext (fun j hj => h j (by omega))]
    · rw [ih (by omega), h m (by omega), Int32.add_assoc, Int32.add_assoc, Int32.add_comm (g i)]
theorem mx_if (x y : Int32) : am_mx x y = if y ≤ x then x else y := by
  unfold am_mx
  by_cases h : x < y
  · rw [if_pos h, if_neg (Int32.not_le.mpr h)]
  · rw [if_neg h, if_pos (Int32.not_lt.mp h)]
theorem RPL_sk {M : Nat → Nat → Int32} {s : Nat → Int32} {S : Nat → Prop} {P : PT} (hwf : wf s) (h : RPL M s S P) {i : Nat} (hi : i < mI s) (hS : ¬ S i) : RPL (plM M s P.1 i) s (fun j => S j ∨ j = i) (sk s i P) := by
  obtain ⟨h1, h2, h3, h4, ⟨L, h5, h6, h7⟩, h8⟩ := h
  have hm := hwf.2.1.2
  have hn := hwf.1.2
  have ht4 : tI s i ≤ 4 := (hwf.2.2.1 i hi).2.1.2.2
  refine ⟨PI_sk hwf h1 hi hS, ?_⟩
  unfold plM sk
  cases hh : hoI s P.1 i with
  | none =>
    refine ⟨h2, h3, ?_, ⟨upd L i 1, ?_, ?_, ?_⟩, h8⟩
    · intro k hk hSk
      dsimp only
      show upd (M 61) i (-4) k = _ ∧ upd (M 62) i (-4) k = _
      by_cases hki : k = i
      · subst hki; rw [pk_us, pk_us, pk_us, pk_us]; exact ⟨rfl, rfl⟩
      · rw [pk_un hki, pk_un hki, pk_un hki, pk_un hki]
        exact h4 k hk (hSk.elim id (fun z => absurd z hki))
    · show M 60 4 + 1 = _
      rw [h5, sm_one (f := L) hi (fun j hj => pk_un hj) (h7 i hi hS), pk_us]
    · intro k hk hSk
      dsimp only
      by_cases hki : k = i
      · subst hki; rw [pk_us, pk_us]; rfl
      · rw [pk_un hki, pk_un hki]
        exact h6 k hk (hSk.elim id (fun z => absurd z hki))
    · intro k hk hSk
      have hki : k ≠ i := fun z => hSk (Or.inr z)
      rw [pk_un hki]
      exact h7 k hk (fun z => hSk (Or.inl z))
  | some q =>
    obtain ⟨q1, q2, q3⟩ := hol_p hh
    obtain ⟨r, c⟩ := q
    dsimp only at q1 q2 q3 ⊢
    refine ⟨RT_box h2 (nI_ne (by omega)) (by omega), ?_, ?_, ⟨L, h5, ?_, ?_⟩, ?_⟩
    · show am_mx (M 60 3) (nI (r + tI s i)) = _
      rw [mx_if, h3]
    · intro k hk hSk
      show upd (M 61) i (nI c) k = _ ∧ upd (M 62) i (nI r) k = _
      by_cases hki : k = i
      · subst hki; rw [pk_us, pk_us, pk_us, pk_us]; exact ⟨rfl, rfl⟩
      · rw [pk_un hki, pk_un hki, pk_un hki, pk_un hki]
        exact h4 k hk (hSk.elim id (fun z => absurd z hki))
    · intro k hk hSk
      by_cases hki : k = i
      · subst hki; rw [pk_us, f4, if_neg (nI_ne (by omega))]; exact h7 k hk hS
      · rw [pk_un hki]
        exact h6 k hk (hSk.elim id (fun z => absurd z hki))
    · intro k hk hSk
      exact h7 k hk (fun z => hSk (Or.inl z))
    · show M 60 5 + nI (wI s i) * nI (tI s i) = _
      rw [cnt_fiB (nI_ne (by omega)) (by omega) (by omega) q3, h8, pk_mul, nI_add]
theorem plM_fr (M : Nat → Nat → Int32) (s T : Nat → Int32) (i : Nat) : frC M (plM M s T i) := by
  unfold plM
  intro a h0 h1 h2 h3
  cases hoI s T i with
  | none => dsimp only; rw [up_n _ _ _ h0, up_n _ _ _ h2, up_n _ _ _ h1]
  | some q => dsimp only; rw [up_n _ _ _ h0, up_n _ _ _ h0, ua_n _ _ h3, up_n _ _ _ h2, up_n _ _ _ h1]
theorem RG_fr {M M' : Nat → Nat → Int32} {g : Nat} {s : Nat → Int32} (hg : isG g) (h : frC M M') (hR : RG M g s) : RG M' g s := by
  have hb := isG_60 hg
  have e : ∀ k, k < 11 → M' (g + k) = M (g + k) := by
    intro k hk
    rcases hg with rfl | rfl | rfl | rfl <;> exact h _ (by omega) (by omega) (by omega) (by omega)
  obtain ⟨r1, r2, r3, r4⟩ := hR
  have e0 : M' g = M g := e 0 (by omega)
  refine ⟨by rw [e0]; exact r1, fun c hc => by rw [e 1 (by omega), e 2 (by omega)]; exact r2 c hc, fun v hv => by rw [e 10 (by omega)]; exact r3 v hv, fun i hi w hw => ?_⟩
  rw [Nat.add_assoc, e (4 + w) (by omega), ← Nat.add_assoc]
  exact r4 i hi w hw
/-- the items that had their turn -/
def Sq (s : Nat → Int32) (turn j : Nat) : Nat → Prop := fun i => i < mI s ∧ (trn s i < turn ∨ trn s i = turn ∧ i < j)
theorem Sq_in {s : Nat → Int32} {turn j : Nat} (hj : j < mI s) (h : trn s j = turn) : (fun i => Sq s turn j i ∨ i = j) = Sq s turn (j + 1) := by
  funext i
  apply propext
  unfold Sq
  constructor
  · rintro (h | rfl) <;> omega
  · intro ⟨h1, h2⟩
    by_cases hi : i = j
    · exact Or.inr hi
    · left; omega
theorem Sq_out {s : Nat → Int32} {turn j : Nat} (h : trn s j ≠ turn) : Sq s turn j = Sq s turn (j + 1) := by
  funext i
  apply propext
  unfold Sq
  constructor
  · intro h; omega
  · intro ⟨h1, h2⟩
    refine ⟨h1, ?_⟩
    rcases h2 with h2 | ⟨h2, h3⟩
    · exact Or.inl h2
    · right
      refine ⟨h2, ?_⟩
      have : i ≠ j := fun z => h (by rw [← z]; exact h2)
      omega
theorem Sq_turn {s : Nat → Int32} {turn : Nat} : Sq s turn (mI s) = Sq s (turn + 1) 0 := by
  funext i
  apply propext
  unfold Sq
  constructor <;> intro h <;> omega
section S40
variable {X : am_X} {M : Nat → Nat → Int32}
theorem placeAll_i {g turn : Nat} {s : Nat → Int32} (hg : isG g) (hR : RG M g s) (hwf : wf s) (ht : turn < 3) {P : PT} (hP : RPL M s (Sq s turn 0) P) : ∃ M', am_ev X kX3_placeAll 32 [.ref 60, .ref g, .int (nI turn), .int (nI 0)] [] (hp M) = am_ev X kX3_placeAll 32 [.ref 60, .ref g, .int (nI turn), .int (nI (mI s))] [] (hp M') ∧ frC M M' ∧ RPL M' s (Sq s turn (mI s)) (skF s turn P (mI s)) := by
  refine loop_inv (fun j M' => am_ev X kX3_placeAll 32 [.ref 60, .ref g, .int (nI turn), .int (nI j)] [] (hp M')) (fun j M' => frC M M' ∧ RPL M' s (Sq s turn j) (skF s turn P j)) 0 (mI s) (by omega) M ⟨fun _ _ _ _ _ => rfl, hP⟩ ?_
  intro j M' _ hj ⟨hf, hg'⟩
  have hR' := RG_fr hg hf hR
  have h7 : M' g 7 = nI (mI s) := hR'.1.2.2.2.2.2.trans hwf.2.1.1
  have hm := hwf.2.1.2
  have et := @C_turnOf X M' g j hg (by omega)
  rw [hR'.2.2.2 j hj 5 (by omega), hR'.2.2.2 j hj 4 (by omega), trn_I] at et
  have es := @C_place X M' g j s (skF s turn P j).1 hg hR' hwf hj hg'.2.1
  have ht3 := trn_3 s j
  by_cases h : trn s j = turn
  · refine ⟨plM M' s (skF s turn P j).1 j, ?_, fun a h0 h1 h2 h3 => (plM_fr M' s _ j a h0 h1 h2 h3).trans (hf a h0 h1 h2 h3), ?_⟩
    · conv => lhs; rw [iX3_placeAll_32]
      simp (disch := omega) only [iX3_placeAll_33, iX3_placeAll_34, iX3_placeAll_37, iX3_placeAll_40, iX3_placeAll_41, iX3_placeAll_42, iX3_placeAll_45, iX3_placeAll_46, iX3_placeAll_49, iX3_placeAll_50, iX3_placeAll_51, iX3_placeAll_52, iX3_placeAll_55, iX3_placeAll_58, true_or, or_true, Option.bind_some, Option.bind_none, kk_hp, kn_hp, el_i, el_b, el_z, am_cat_nil, am_cat_i, am_cat_r, am_cat_l, am_cat_n, gd_i, gd_r, gd_n, gd_u, List.length_cons, List.length_nil, true_and, and_true, ↓reduceIte, Nat.zero_le, Nat.reduceLeDiff, Nat.reduceAdd, e_10, e_01, e_00, e_11, Int32.reduceLE, Int32.reduceLT, Int32.reduceAdd, Int32.reduceSub, b01, if_true, if_false, ite_self, rc_60, gf_60_0, gf_60_1, gf_60_2, gf_60_3, pf_60_3, gf_60_4, pf_60_4, gf_60_5, pf_60_5, nl_add, nl_add', nl_mul, nI_add, in_t, cl_n, le_nn, lt_nn, le_ln, le_nl, lt_nl, lt_ln, eq_nn, eq_nl, in_lit, cl_lit, Nat.le_refl, Nat.add_zero, gG7 hg, h7, show ¬ mI s ≤ j by omega, et, h, es]
    · rw [← Sq_in hj h, skF, if_pos h]
      exact RPL_sk hwf hg' hj (fun z => by unfold Sq at z; omega)
  · refine ⟨M', ?_, hf, ?_⟩
    · conv => lhs; rw [iX3_placeAll_32]
      simp (disch := omega) only [iX3_placeAll_33, iX3_placeAll_34, iX3_placeAll_37, iX3_placeAll_40, iX3_placeAll_41, iX3_placeAll_42, iX3_placeAll_45, iX3_placeAll_46, iX3_placeAll_49, iX3_placeAll_50, iX3_placeAll_51, iX3_placeAll_52, iX3_placeAll_55, iX3_placeAll_58, true_or, or_true, Option.bind_some, Option.bind_none, kk_hp, kn_hp, el_i, el_b, el_z, am_cat_nil, am_cat_i, am_cat_r, am_cat_l, am_cat_n, gd_i, gd_r, gd_n, gd_u, List.length_cons, List.length_nil, true_and, and_true, ↓reduceIte, Nat.zero_le, Nat.reduceLeDiff, Nat.reduceAdd, e_10, e_01, e_00, e_11, Int32.reduceLE, Int32.reduceLT, Int32.reduceAdd, Int32.reduceSub, b01, if_true, if_false, ite_self, rc_60, gf_60_0, gf_60_1, gf_60_2, gf_60_3, pf_60_3, gf_60_4, pf_60_4, gf_60_5, pf_60_5, nl_add, nl_add', nl_mul, nI_add, in_t, cl_n, le_nn, lt_nn, le_ln, le_nl, lt_nl, lt_ln, eq_nn, eq_nl, in_lit, cl_lit, Nat.le_refl, Nat.add_zero, gG7 hg, h7, show ¬ mI s ≤ j by omega, et, h]
    · rw [← Sq_out h, skF, if_neg h]; exact hg'
theorem cnt_0 {T : Nat → Int32} {k : Nat} (h : ∀ j, j < k → T j = -4) : cnt T k = 0 := by
  induction k with
  | zero => rfl
  | succ k ih => rw [cnt, ih (fun j hj => h j (by omega)), if_pos (h k (by omega))]
theorem C_placeAll {g : Nat} {s : Nat → Int32} (hg : isG g) (hR : RG M g s) (hwf : wf s) {P : PT} (hP : ∀ k, k < 72 → P.1 k = -4) (hP2 : P.2.2.2 = 0) : ∃ M', am_ev X kX3_placeAll 0 [.ref 60, .ref g, am_u, am_u] [] (hp M) = some (none, hp M') ∧ frC M M' ∧ RPL M' s (Sq s 3 0) (plc s P) := by
  have hm := hwf.2.1.2
  have ef : ∀ K, am_ev X kJ7_fill_53178 0 [.ref 63, .int 0, am_u, am_u] [] (hp K) = some (none, hp (ua K 63 (fil (K 63) (fun _ => 0) 12))) := fun K => C_fill (by rfl) (by decide)
  have ex : ∀ (K : Nat → Nat → Int32) (turn : Nat), turn < 3 → K g 7 = nI (mI s) → am_ev X kX3_placeAll 32 [.ref 60, .ref g, .int (nI turn), .int (nI (mI s))] [] (hp K) = am_ev X kX3_placeAll 25 [.ref 60, .ref g, .int (nI (turn + 1)), .int (nI (mI s))] [] (hp K) := by
    intro K turn _ h7
    simp (disch := omega) only [iX3_placeAll_32, iX3_placeAll_33, iX3_placeAll_34, iX3_placeAll_37, iX3_placeAll_61, iX3_placeAll_64, true_or, or_true, Option.bind_some, Option.bind_none, kk_hp, kn_hp, el_i, el_b, el_z, am_cat_nil, am_cat_i, am_cat_r, am_cat_l, am_cat_n, gd_i, gd_r, gd_n, gd_u, List.length_cons, List.length_nil, true_and, and_true, ↓reduceIte, Nat.zero_le, Nat.reduceLeDiff, Nat.reduceAdd, e_10, e_01, e_00, e_11, Int32.reduceLE, Int32.reduceLT, Int32.reduceAdd, Int32.reduceSub, b01, if_true, if_false, ite_self, nl_add, nl_add', nl_mul, nI_add, in_t, cl_n, le_nn, lt_nn, le_ln, le_nl, lt_nl, lt_ln, eq_nn, eq_nl, in_lit, cl_lit, Nat.le_refl, Nat.add_zero, gG7 hg, h7]
  have en : ∀ (K : Nat → Nat → Int32) (turn : Nat) (v : Value), turn < 3 → am_ev X kX3_placeAll 25 [.ref 60, .ref g, .int (nI turn), v] [] (hp K) = am_ev X kX3_placeAll 32 [.ref 60, .ref g, .int (nI turn), .int (nI 0)] [] (hp K) := by
    intro K turn v _
    simp (disch := omega) only [iX3_placeAll_25, iX3_placeAll_26, iX3_placeAll_27, iX3_placeAll_30, iX3_placeAll_31, true_or, or_true, Option.bind_some, Option.bind_none, kk_hp, kn_hp, el_i, el_b, el_z, am_cat_nil, am_cat_i, am_cat_r, am_cat_l, am_cat_n, gd_i, gd_r, gd_n, gd_u, List.length_cons, List.length_nil, true_and, and_true, ↓reduceIte, Nat.zero_le, Nat.reduceLeDiff, Nat.reduceAdd, e_10, e_01, e_00, e_11, Int32.reduceLE, Int32.reduceLT, Int32.reduceAdd, Int32.reduceSub, b01, if_true, if_false, ite_self, nl_add, nl_add', nl_mul, nI_add, in_t, cl_n, le_nn, lt_nn, le_ln, le_nl, lt_nl, lt_ln, eq_nn, eq_nl, in_lit, cl_lit, Nat.le_refl, Nat.add_zero, show ¬ 3 ≤ turn by omega, nI_0]
  have one : ∀ (K : Nat → Nat → Int32) (turn : Nat) (v : Value) (Q : PT), turn < 3 → frC M K → RPL K s (Sq s turn 0) Q → ∃ K', am_ev X kX3_placeAll 25 [.ref 60, .ref g, .int (nI turn), v] [] (hp K) = am_ev X kX3_placeAll 25 [.ref 60, .ref g, .int (nI (turn + 1)), .int (nI (mI s))] [] (hp K') ∧ frC M K' ∧ RPL K' s (Sq s (turn + 1) 0) (skF s turn Q (mI s)) := by
    intro K turn v Q ht hK hQ
    have hRK := RG_fr hg hK hR
    obtain ⟨K', e1, e2, e3⟩ := @placeAll_i X K g turn s hg hRK hwf ht Q hQ
    have hK' : frC M K' := fun a h0 h1 h2 h3 => (e2 a h0 h1 h2 h3).trans (hK a h0 h1 h2 h3)
    refine ⟨K', ?_, hK', ?_⟩
    · rw [en K turn v ht, e1, ex K' turn ht ((RG_fr hg hK' hR).1.2.2.2.2.2.trans hwf.2.1.1)]
    · rw [← Sq_turn]; exact e3
  have f0 : frC M (up (up (up (ua M 63 (fil (M 63) (fun _ => 0) 12)) 60 3 0) 60 4 0) 60 5 0) := fun a h0 h1 h2 h3 => by
    rw [up_n _ _ _ h0, up_n _ _ _ h0, up_n _ _ _ h0, ua_n _ _ h3]
  obtain ⟨K1, a1, b1, c1⟩ := one (up (up (up (ua M 63 (fil (M 63) (fun _ => 0) 12)) 60 3 0) 60 4 0) 60 5 0) 0 am_u P (by omega) f0 (by
    have no : ∀ i, ¬ Sq s 0 0 i := fun i z => by unfold Sq at z; omega
    refine ⟨⟨0, by omega, hP2, ?_, ?_, ?_, ?_⟩, ?_, ?_, ?_, ⟨fun _ => 0, ?_, ?_, ?_⟩, ?_⟩
    · intro y x hy hx h; exact absurd (hP _ (by omega)) h
    · intro i _ h; exact absurd h (no i)
    · intro y x hy hx; exact Or.inl (hP _ (by omega))
    · intro i _ h; exact absurd h (no i)
    · intro y hy
      refine ⟨0, by omega, ?_, fun x hx => ?_⟩
      · show fil (M 63) (fun _ => 0) 12 y = _
        rw [fil_in hy]; rfl
      · rw [Nat.zero_testBit]
        exact ⟨fun z => absurd z (by decide), fun z => absurd (hP _ (by omega)) z⟩
    · exact hP2.symm
    · intro i _ h; exact absurd h (no i)
    · show (0 : Int32) = _
      have : ∀ k, sm (fun _ => 0) k = 0 := by
        intro k
        induction k with
        | zero => rfl
        | succ k ih => rw [sm_s, ih]; rfl
      rw [this]
    · intro i _ h; exact absurd h (no i)
    · intro i _ _; rfl
    · rw [cnt_0 hP]; rfl)
  obtain ⟨K2, a2, b2, c2⟩ := one K1 1 (.int (nI (mI s))) _ (by omega) b1 c1
  obtain ⟨K3, a3, b3, c3⟩ := one K2 2 (.int (nI (mI s))) _ (by omega) b2 c2
  refine ⟨K3, ?_, b3, c3⟩
  simp (disch := omega) only [iX3_placeAll_0, iX3_placeAll_1, iX3_placeAll_4, iX3_placeAll_5, iX3_placeAll_8, iX3_placeAll_9, iX3_placeAll_10, iX3_placeAll_13, iX3_placeAll_14, iX3_placeAll_15, iX3_placeAll_18, iX3_placeAll_19, iX3_placeAll_20, iX3_placeAll_23, iX3_placeAll_24, true_or, or_true, Option.bind_some, Option.bind_none, kk_hp, kn_hp, el_i, el_b, el_z, am_cat_nil, am_cat_i, am_cat_r, am_cat_l, am_cat_n, gd_i, gd_r, gd_n, gd_u, List.length_cons, List.length_nil, true_and, and_true, ↓reduceIte, Nat.zero_le, Nat.reduceLeDiff, Nat.reduceAdd, e_10, e_01, e_00, e_11, Int32.reduceLE, Int32.reduceLT, Int32.reduceAdd, Int32.reduceSub, b01, if_true, if_false, ite_self, rc_60, gf_60_0, gf_60_1, gf_60_2, gf_60_3, pf_60_3, gf_60_4, pf_60_4, gf_60_5, pf_60_5, ef]
  rw [nI_0] at a1
  rw [a1, a2, a3]
  simp (disch := omega) only [iX3_placeAll_25, iX3_placeAll_26, iX3_placeAll_27, iX3_placeAll_30, iX3_placeAll_31, iX3_placeAll_67, true_or, or_true, Option.bind_some, Option.bind_none, kk_hp, kn_hp, el_i, el_b, el_z, am_cat_nil, am_cat_i, am_cat_r, am_cat_l, am_cat_n, gd_i, gd_r, gd_n, gd_u, List.length_cons, List.length_nil, true_and, and_true, ↓reduceIte, Nat.zero_le, Nat.reduceLeDiff, Nat.reduceAdd, e_10, e_01, e_00, e_11, Int32.reduceLE, Int32.reduceLT, Int32.reduceAdd, Int32.reduceSub, b01, if_true, if_false, ite_self, nl_add, nl_add', nl_mul, nI_add, in_t, cl_n, le_nn, lt_nn, le_ln, le_nl, lt_nl, lt_ln, eq_nn, eq_nl, in_lit, cl_lit, Nat.le_refl, Nat.add_zero]
end S40
