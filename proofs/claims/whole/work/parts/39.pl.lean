/-! boxes in the table -/
theorem fiR_at (T : Nat → Int32) (v : Int32) (c y n k : Nat) : fiR T v c y n k = if 6 * y + c ≤ k ∧ k < 6 * y + c + n then v else T k := by
  induction n with
  | zero => rw [fiR, if_neg (by omega)]
  | succ n ih =>
    rw [fiR]
    by_cases h : k = 6 * y + (c + n)
    · rw [h, pk_us, if_pos (by omega)]
    · rw [pk_un h, ih]
      by_cases h2 : 6 * y + c ≤ k ∧ k < 6 * y + c + n
      · rw [if_pos h2, if_pos (by omega)]
      · rw [if_neg h2, if_neg (by omega)]
theorem fiB_at {T : Nat → Int32} {v : Int32} {c r w t x y : Nat} (hx : x < 6) (hc : c + w ≤ 6) : fiB T v c r w t (6 * y + x) = if (c ≤ x ∧ x < c + w) ∧ (r ≤ y ∧ y < r + t) then v else T (6 * y + x) := by
  induction t with
  | zero => rw [fiB, if_neg (by omega)]
  | succ t ih =>
    rw [fiB, fiR_at, ih]
    by_cases h : 6 * (r + t) + c ≤ 6 * y + x ∧ 6 * y + x < 6 * (r + t) + c + w
    · rw [if_pos h, if_pos (by omega)]
    · rw [if_neg h]
      by_cases h2 : (c ≤ x ∧ x < c + w) ∧ (r ≤ y ∧ y < r + t)
      · rw [if_pos h2, if_pos (by omega)]
      · rw [if_neg h2, if_neg (by omega)]
theorem orB_at {tk : Nat → Int32} {c w r t y : Nat} : orB tk c w r t y = if r ≤ y ∧ y < r + t then tk y ||| bts c w else tk y := by
  induction t generalizing y with
  | zero => rw [orB, if_neg (by omega)]
  | succ t ih =>
    rw [orB]
    by_cases h : y = r + t
    · subst h
      rw [pk_us, ih, if_neg (by omega), if_pos (by omega)]
    · rw [pk_un h, ih]
      by_cases h2 : r ≤ y ∧ y < r + t
      · rw [if_pos h2, if_pos (by omega)]
      · rw [if_neg h2, if_neg (by omega)]
theorem RT_box {tk T : Nat → Int32} (h : RT tk T) {v : Int32} (hv : v ≠ -4) {c w r t : Nat} (hc : c + w ≤ 6) : RT (orB tk c w r t) (fiB T v c r w t) := by
  intro y hy
  obtain ⟨b, hb, e, hx⟩ := h y hy
  by_cases hyt : r ≤ y ∧ y < r + t
  · obtain ⟨b', hb', e', hx'⟩ := @bits_or b c w hb hc
    refine ⟨b', hb', ?_, fun x hx6 => ?_⟩
    · rw [orB_at, if_pos hyt, e, e']
    · rw [hx' x hx6, fiB_at hx6 hc, Bool.or_eq_true, hx x hx6, decide_eq_true_iff]
      by_cases h2 : c ≤ x ∧ x < c + w
      · rw [if_pos ⟨h2, hyt⟩]
        exact ⟨fun _ => hv, fun _ => Or.inr h2⟩
      · rw [if_neg (fun z => h2 z.1)]
        exact ⟨fun z => z.elim id (fun q => absurd q h2), Or.inl⟩
  · refine ⟨b, hb, ?_, fun x hx6 => ?_⟩
    · rw [orB_at, if_neg hyt, e]
    · rw [fiB_at hx6 hc, if_neg (fun z => hyt z.2)]
      exact hx x hx6
/-- how many of the first k cells are taken -/
def cnt (T : Nat → Int32) : Nat → Nat
  | 0 => 0
  | k + 1 => cnt T k + if T k = -4 then 0 else 1
theorem cnt_ext {T T' : Nat → Int32} {k : Nat} (h : ∀ j, j < k → T j = T' j) : cnt T k = cnt T' k := by
  induction k with
  | zero => rfl
  | succ k ih => rw [cnt, cnt, ih (fun j hj => h j (by omega)), h k (by omega)]
theorem cnt_upd {T : Nat → Int32} {N j : Nat} {v : Int32} (hj : j < N) (h : T j = -4) (hv : v ≠ -4) : cnt (upd T j v) N = cnt T N + 1 := by
  induction N with
  | zero => omega
  | succ N ih =>
    rw [cnt, cnt]
    by_cases h1 : j = N
    · subst h1
      rw [pk_us, if_neg hv, if_pos h, cnt_ext (T' := T) (fun k hk => pk_un (by omega))]
    · rw [ih (by omega), pk_un (by omega)]
      omega
theorem cnt_fiR {T : Nat → Int32} {v : Int32} (hv : v ≠ -4) {c y n : Nat} (hn : 6 * y + (c + n) ≤ 72) (h : ∀ x, x < n → T (6 * y + (c + x)) = -4) : cnt (fiR T v c y n) 72 = cnt T 72 + n := by
  induction n with
  | zero => rfl
  | succ n ih =>
    rw [fiR, cnt_upd (by omega) (by rw [fiR_at, if_neg (by omega)]; exact h n (by omega)) hv, ih (by omega) (fun x hx => h x (by omega))]
    omega
theorem cnt_fiB {T : Nat → Int32} {v : Int32} (hv : v ≠ -4) {c r w t : Nat} (hc : c + w ≤ 6) (hr : r + t ≤ 12) (h : fre T c r w t = true) : cnt (fiB T v c r w t) 72 = cnt T 72 + w * t := by
  rw [fre_iff] at h
  have : ∀ k, k ≤ t → cnt (fiB T v c r w k) 72 = cnt T 72 + w * k := by
    intro k
    induction k with
    | zero => intro _; rfl
    | succ k ih =>
      intro hk
      rw [fiB, cnt_fiR hv (by omega) (fun x hx => by
        rw [fiB_at (by omega) hc, if_neg (by omega)]
        exact h x hx k (by omega)), ih (by omega), Nat.mul_succ]
      omega
  exact this t (Nat.le_refl t)
/-- what holds while items are placed: S the items that had their turn -/
def PI (s : Nat → Int32) (S : Nat → Prop) (P : PT) : Prop :=
  ∃ ro, ro ≤ 12 ∧ P.2.2.2 = nI ro ∧
  (∀ y x, y < 12 → x < 6 → P.1 (6 * y + x) ≠ -4 → y < ro ∧ x < nC s) ∧
  (∀ i, i < mI s → S i → P.2.1 i = -4 ∨ ∃ c r, P.2.1 i = nI c ∧ P.2.2.1 i = nI r ∧ c + wI s i ≤ nC s ∧ r + tI s i ≤ ro) ∧
  (∀ y x, y < 12 → x < 6 → P.1 (6 * y + x) = -4 ∨ ∃ i, i < mI s ∧ S i ∧ P.1 (6 * y + x) = nI i) ∧
  (∀ i, i < mI s → S i → ∀ y x, y < 12 → x < 6 → (P.1 (6 * y + x) = nI i ↔ ∃ c r, P.2.1 i = nI c ∧ P.2.2.1 i = nI r ∧ (c ≤ x ∧ x < c + wI s i) ∧ (r ≤ y ∧ y < r + tI s i)))
theorem nI_ne {i : Nat} (h : i < 2147483648) : nI i ≠ -4 := fun z => by rwa [ne_m4 h] at z
theorem nI_inj {a b : Nat} (ha : a < 2147483648) (hb : b < 2147483648) (h : nI a = nI b) : a = b := (nI_eq ha hb).mp h
theorem PI_sk {s : Nat → Int32} {S : Nat → Prop} {P : PT} (hwf : wf s) (h : PI s S P) {i : Nat} (hi : i < mI s) (hS : ¬ S i) : PI s (fun j => S j ∨ j = i) (sk s i P) := by
  obtain ⟨ro, h1, h2, h3, h4, h5, h6⟩ := h
  have hm := hwf.2.1.2
  have hn := hwf.1.2
  have ht4 : tI s i ≤ 4 := (hwf.2.2.1 i hi).2.1.2.2
  unfold sk
  cases hh : hoI s P.1 i with
  | none =>
    refine ⟨ro, h1, h2, h3, ?_, ?_, ?_⟩
    · intro k hk hSk
      dsimp only
      by_cases hki : k = i
      · left; rw [hki, pk_us]
      · rw [pk_un hki, pk_un hki]
        exact h4 k hk (hSk.elim id (fun z => absurd z hki))
    · intro y x hy hx
      rcases h5 y x hy hx with h | ⟨k, hk, hSk, e⟩
      · exact Or.inl h
      · exact Or.inr ⟨k, hk, Or.inl hSk, e⟩
    · intro k hk hSk y x hy hx
      dsimp only
      by_cases hki : k = i
      · subst hki
        rw [pk_us, pk_us]
        constructor
        · intro e
          rcases h5 y x hy hx with h | ⟨k', hk', hSk', e'⟩
          · rw [h] at e; exact absurd e.symm (nI_ne (by omega))
          · have := nI_inj (by omega) (by omega) (e.symm.trans e')
            rw [this] at hS
            exact absurd hSk' hS
        · rintro ⟨c, r, e1, e2, ⟨e3, e4⟩, e5⟩
          have : c < 6 := by omega
          exact absurd e1.symm (nI_ne (by omega))
      · rw [pk_un hki, pk_un hki]
        exact h6 k hk (hSk.elim id (fun z => absurd z hki)) y x hy hx
  | some q =>
    obtain ⟨q1, q2, q3⟩ := hol_p hh
    obtain ⟨r, c⟩ := q
    dsimp only at q1 q2 q3 ⊢
    rw [fre_iff] at q3
    have q3' : ∀ y x, (c ≤ x ∧ x < c + wI s i) → (r ≤ y ∧ y < r + tI s i) → P.1 (6 * y + x) = -4 := by
      intro y x hx hy
      have := q3 (x - c) (by omega) (y - r) (by omega)
      rwa [show r + (y - r) = y by omega, show c + (x - c) = x by omega] at this
    refine ⟨if r + tI s i ≤ ro then ro else r + tI s i, ?_, ?_, ?_, ?_, ?_, ?_⟩
    · split <;> omega
    · dsimp only
      rw [h2]
      by_cases hz : r + tI s i ≤ ro
      · rw [if_pos ((nI_leI (by omega) (by omega)).mpr hz), if_pos hz]
      · rw [if_neg (fun z => hz ((nI_leI (by omega) (by omega)).mp z)), if_neg hz]
    · intro y x hy hx
      dsimp only
      rw [fiB_at hx (by omega)]
      intro hne
      by_cases hb : (c ≤ x ∧ x < c + wI s i) ∧ (r ≤ y ∧ y < r + tI s i)
      · split <;> omega
      · rw [if_neg hb] at hne
        have := h3 y x hy hx hne
        split <;> omega
    · intro k hk hSk
      dsimp only
      by_cases hki : k = i
      · right
        subst hki
        refine ⟨c, r, by rw [pk_us], by rw [pk_us], q1, ?_⟩
        split <;> omega
      · rw [pk_un hki, pk_un hki]
        rcases h4 k hk (hSk.elim id (fun z => absurd z hki)) with h | ⟨c', r', e1, e2, e3, e4⟩
        · exact Or.inl h
        · refine Or.inr ⟨c', r', e1, e2, e3, ?_⟩
          split <;> omega
    · intro y x hy hx
      dsimp only
      rw [fiB_at hx (by omega)]
      by_cases hb : (c ≤ x ∧ x < c + wI s i) ∧ (r ≤ y ∧ y < r + tI s i)
      · rw [if_pos hb]; exact Or.inr ⟨i, hi, Or.inr rfl, rfl⟩
      · rw [if_neg hb]
        rcases h5 y x hy hx with h | ⟨k, hk, hSk, e⟩
        · exact Or.inl h
        · exact Or.inr ⟨k, hk, Or.inl hSk, e⟩
    · intro k hk hSk y x hy hx
      dsimp only
      rw [fiB_at hx (by omega)]
      by_cases hki : k = i
      · subst hki
        rw [pk_us, pk_us]
        by_cases hb : (c ≤ x ∧ x < c + wI s k) ∧ (r ≤ y ∧ y < r + tI s k)
        · rw [if_pos hb]
          exact ⟨fun _ => ⟨c, r, rfl, rfl, hb⟩, fun _ => rfl⟩
        · rw [if_neg hb]
          constructor
          · intro e
            rcases h5 y x hy hx with h | ⟨k', hk', hSk', e'⟩
            · rw [h] at e; exact absurd e.symm (nI_ne (by omega))
            · have := nI_inj (by omega) (by omega) (e.symm.trans e')
              rw [this] at hS
              exact absurd hSk' hS
          · rintro ⟨c', r', e1, e2, e3, e4⟩
            have a1 := nI_inj (by omega) (by omega) e1
            have a2 := nI_inj (by omega) (by omega) e2
            subst a1; subst a2
            exact absurd ⟨e3, e4⟩ hb
      · have hSk' := hSk.elim id (fun z => absurd z hki)
        rw [pk_un hki, pk_un hki, ← h6 k hk hSk' y x hy hx]
        by_cases hb : (c ≤ x ∧ x < c + wI s i) ∧ (r ≤ y ∧ y < r + tI s i)
        · rw [if_pos hb, q3' y x hb.1 hb.2]
          exact ⟨fun e => absurd (nI_inj (by omega) (by omega) e).symm hki, fun e => absurd e.symm (nI_ne (by omega))⟩
        · rw [if_neg hb]
