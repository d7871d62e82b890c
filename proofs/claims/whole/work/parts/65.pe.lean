/-! placing does not depend on what stood before -/
def PE (s : Nat → Int32) (S : Nat → Prop) (P P' : PT) : Prop :=
  (∀ k, k < 72 → P.1 k = P'.1 k) ∧ (∀ i, i < mI s → S i → P.2.1 i = P'.2.1 i ∧ P.2.2.1 i = P'.2.2.1 i) ∧ P.2.2.2 = P'.2.2.2
theorem hit_ext {T T' : Nat → Int32} {n w t r c : Nat} (hn : n ≤ 6) (h : ∀ k, k < 72 → T k = T' k) : hit T n w t r c = hit T' n w t r c := by
  unfold hit
  by_cases hb : c + w ≤ n ∧ r + t ≤ 12
  · rw [decide_eq_true hb, Bool.true_and, Bool.true_and, Bool.eq_iff_iff, fre_iff, fre_iff]
    constructor
    · intro hh x hx y hy; rw [← h _ (by omega)]; exact hh x hx y hy
    · intro hh x hx y hy; rw [h _ (by omega)]; exact hh x hx y hy
  · rw [decide_eq_false hb, Bool.false_and, Bool.false_and]
theorem hoI_ext {s T T' : Nat → Int32} {i : Nat} (hn : nC s ≤ 6) (h : ∀ k, k < 72 → T k = T' k) : hoI s T i = hoI s T' i := by
  unfold hoI
  rw [hol_G, hol_G]
  exact holG_ext (fun y j _ _ => hit_ext hn h)
theorem PE_sk {s : Nat → Int32} {S : Nat → Prop} {P P' : PT} (hwf : wf s) (h : PE s S P P') {i : Nat} (hi : i < mI s) : PE s (fun j => S j ∨ j = i) (sk s i P) (sk s i P') := by
  obtain ⟨h1, h2, h3⟩ := h
  unfold sk
  rw [hoI_ext hwf.1.2 h1]
  cases hh : hoI s P'.1 i with
  | none =>
    refine ⟨h1, fun k hk hS => ?_, h3⟩
    dsimp only
    by_cases hki : k = i
    · rw [hki, pk_us, pk_us, pk_us, pk_us]; exact ⟨rfl, rfl⟩
    · rw [pk_un hki, pk_un hki, pk_un hki, pk_un hki]; exact h2 k hk (hS.elim id (fun z => absurd z hki))
  | some q =>
    obtain ⟨q1, q2, q3⟩ := hol_p hh
    have hn := hwf.1.2
    refine ⟨fun k hk => ?_, fun k hk hS => ?_, ?_⟩
    · dsimp only
      rw [show k = 6 * (k / 6) + k % 6 by omega, fiB_at (by omega) (by omega), fiB_at (by omega) (by omega), h1 (6 * (k / 6) + k % 6) (by omega)]
    · dsimp only
      by_cases hki : k = i
      · rw [hki, pk_us, pk_us, pk_us, pk_us]; exact ⟨rfl, rfl⟩
      · rw [pk_un hki, pk_un hki, pk_un hki, pk_un hki]; exact h2 k hk (hS.elim id (fun z => absurd z hki))
    · dsimp only
      rw [h3]
theorem PE_skF {s : Nat → Int32} {P P' : PT} (hwf : wf s) {turn : Nat} (h : PE s (Sq s turn 0) P P') (j : Nat) (hj : j ≤ mI s) : PE s (Sq s turn j) (skF s turn P j) (skF s turn P' j) := by
  induction j with
  | zero => exact h
  | succ j ih =>
    have := ih (by omega)
    rw [skF, skF]
    by_cases ht : trn s j = turn
    · rw [if_pos ht, if_pos ht, ← Sq_in (by omega) ht]
      exact PE_sk hwf this (by omega)
    · rw [if_neg ht, if_neg ht, ← Sq_out ht]
      exact this
theorem PE_plc {s : Nat → Int32} {P P' : PT} (hwf : wf s) (h1 : ∀ k, k < 72 → P.1 k = P'.1 k) (h3 : P.2.2.2 = P'.2.2.2) : PE s (Sq s 3 0) (plc s P) (plc s P') := by
  have h0 : PE s (Sq s 0 0) P P' := ⟨h1, fun i _ hS => by unfold Sq at hS; omega, h3⟩
  unfold plc
  rw [← Sq_turn]
  refine PE_skF hwf ?_ _ (Nat.le_refl _)
  rw [← Sq_turn]
  refine PE_skF hwf ?_ _ (Nat.le_refl _)
  rw [← Sq_turn]
  exact PE_skF hwf h0 _ (Nat.le_refl _)
theorem Sq_all {s : Nat → Int32} {i : Nat} (hi : i < mI s) : Sq s 3 0 i := ⟨hi, Or.inl (trn_3 s i)⟩
/-- where all stand -/
def PS (s : Nat → Int32) : PT := plc s (fun _ => -4, fun _ => 0, fun _ => 0, 0)
def roI (s : Nat → Int32) : Nat := (PS s).2.2.2.toNatClampNeg
theorem gst_ext {C C' F F' : Nat → Int32} {W : Nat → Nat} {N : Nat → Int32} {m : Nat} (h : ∀ i, i < m → C i = C' i ∧ F i = F' i) : gst C F W N m = gst C' F' W N m := by
  induction m with
  | zero => rfl
  | succ m ih => rw [gst, gst, ih (fun i hi => h i (by omega)), (h m (by omega)).1, (h m (by omega)).2]
theorem szX_ext {s C C' : Nat → Int32} (h : ∀ i, i < mI s → C i = C' i) : szX s C = szX s C' := by
  have : glX s C (mI s) = glX s C' (mI s) := gst_ext (fun i hi => ⟨h i hi, h i hi⟩)
  unfold szX
  rw [this]
theorem szY_ext {s C C' R R' : Nat → Int32} (h : ∀ i, i < mI s → C i = C' i ∧ R i = R' i) : szY s C R = szY s C' R' := by
  have : glY s C R (mI s) = glY s C' R' (mI s) := gst_ext h
  unfold szY
  rw [this]
