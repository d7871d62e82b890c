/-! the two constructors: the heap they leave -/
def rdC (e : va_E) : Nat → Int32 := match e with
  | .inl (_, _, .inl f) => f
  | .inr (_, fs) => fun j => match fs[j]? with
    | some (.int x) => x
    | _ => 0
  | _ => fun _ => 0
def MH (h : am_H) : Nat → Nat → Int32 := fun a => match h[a]? with
  | some e => rdC e
  | none => fun _ => 0
def okV (r : Option Nat) (v : Value) : Bool := match r, v with
  | some a, .ref b => decide (a = b)
  | none, .int _ => true
  | _, _ => false
def okL : List (Option Nat) → List Value → Bool
  | [], [] => true
  | r :: rs, v :: vs => okV r v && okL rs vs
  | _, _ => false
def okC (c : am_LC) (e : va_E) : Bool := match e with
  | .inl (t, n, .inl _) => decide (t = c.1) && (decide (n = c.2.1) && decide (t < 3))
  | .inl (t, n, .inr (.inr (.inr (.inr f)))) => decide (t = c.1) && (decide (n = c.2.1) && (decide (3 ≤ t) && (decide (t < 1000) && (List.range n).all (fun j => decide (f j = c.2.2.getD j none)))))
  | .inr (ci, fs) => decide (c.1 = 1000 + ci) && okL c.2.2 fs
  | _ => false
def okH : List am_LC → am_H → Bool
  | [], [] => true
  | c :: cs, e :: es => okC c e && okH cs es
  | _, _ => false
theorem okL_at : ∀ (rs : List (Option Nat)) (vs : List Value) (j : Nat), okL rs vs = true → (rs[j]? = none ∧ vs[j]? = none) ∨ ∃ r v, rs[j]? = some r ∧ vs[j]? = some v ∧ okV r v = true
  | [], [], j, _ => Or.inl ⟨rfl, rfl⟩
  | [], _ :: _, _, h => by cases h
  | _ :: _, [], _, h => by cases h
  | r :: rs, v :: vs, 0, h => by
    rw [okL, Bool.and_eq_true] at h
    exact Or.inr ⟨r, v, rfl, rfl, h.1⟩
  | r :: rs, v :: vs, j + 1, h => by
    rw [okL, Bool.and_eq_true] at h
    rw [List.getElem?_cons_succ, List.getElem?_cons_succ]
    exact okL_at rs vs j h.2
theorem okC_e {c : am_LC} {e : va_E} (h : okC c e = true) (hr : am_rc e) : am_cel c (rdC e) = e := by
  obtain ⟨c1, c2, c3⟩ := c
  unfold okC at h
  split at h
  · rename_i t n f
    rw [Bool.and_eq_true, Bool.and_eq_true, decide_eq_true_eq, decide_eq_true_eq, decide_eq_true_eq] at h
    obtain ⟨h1, h2, h3⟩ := h
    dsimp only at h1 h2
    subst h1 h2
    unfold am_cel
    dsimp only
    rw [if_neg (Nat.not_le.mpr (Nat.lt_of_lt_of_le h3 (by decide))), if_pos h3]
    rfl
  · rename_i t n f
    rw [Bool.and_eq_true, Bool.and_eq_true, Bool.and_eq_true, Bool.and_eq_true, decide_eq_true_eq, decide_eq_true_eq, decide_eq_true_eq, decide_eq_true_eq, List.all_eq_true] at h
    obtain ⟨h1, h2, h3, h4, h5⟩ := h
    dsimp only at h1 h2 h5
    subst h1 h2
    unfold am_cel
    dsimp only
    rw [if_neg (Nat.not_le.mpr h4), if_neg (Nat.not_lt.mpr h3)]
    have : (fun j => if j < n then c3.getD j none else none) = f := by
      funext j
      by_cases hj : j < n
      · rw [if_pos hj]; exact (of_decide_eq_true (h5 j (List.mem_range.mpr hj))).symm
      · rw [if_neg hj]; exact ((hr : ∀ j, n ≤ j → f j = none) j (by omega)).symm
    rw [this]
  · rename_i ci fs
    rw [Bool.and_eq_true, decide_eq_true_eq] at h
    obtain ⟨h1, h2⟩ := h
    dsimp only at h1 h2
    subst h1
    unfold am_cel
    dsimp only
    rw [if_pos (by omega), show 1000 + ci - 1000 = ci by omega]
    have : (c3.mapIdx fun j r => match r with
        | some a => Value.ref a
        | none => Value.int (rdC (Sum.inr (ci, fs)) j)) = fs := by
      apply List.ext_getElem?
      intro j
      rw [List.getElem?_mapIdx]
      rcases okL_at c3 fs j h2 with ⟨z1, z2⟩ | ⟨r, v, z1, z2, z3⟩
      · rw [z1, z2]; rfl
      · rw [z1, z2]
        show some _ = some v
        congr 1
        cases r with
        | some a =>
          cases v with
          | ref b => rw [show a = b from of_decide_eq_true z3]
          | _ => cases z3
        | none =>
          cases v with
          | int x =>
            show Value.int (match fs[j]? with
              | some (.int x) => x
              | _ => 0) = Value.int x
            rw [z2]
          | _ => cases z3
    exact congrArg (fun z => (Sum.inr (ci, z) : va_E)) this
  · cases h
theorem okH_e : ∀ (l : List am_LC) (h : am_H) (M : Nat → Nat → Int32) (i : Nat), okH l h = true → am_rk h → (∀ a e, h[a]? = some e → M (i + a) = rdC e) → am_hl M i l = h
  | [], [], _, _, _, _, _ => rfl
  | [], _ :: _, _, _, h, _, _ => by cases h
  | _ :: _, [], _, _, h, _, _ => by cases h
  | c :: cs, e :: es, M, i, h, hk, hM => by
    rw [okH, Bool.and_eq_true] at h
    rw [am_hl, show M i = rdC e from hM 0 e rfl, okC_e h.1 (hk e List.mem_cons_self), okH_e cs es M (i + 1) h.2 (fun c hc => hk c (List.mem_cons_of_mem _ hc)) (fun a e' he => by
      rw [show i + 1 + a = i + (a + 1) by omega]
      exact hM (a + 1) e' (by rw [List.getElem?_cons_succ]; exact he))]
theorem okH_hp {h : am_H} (hk : okH am_lay h = true) (hr : am_rk h) : h = hp (MH h) := by
  refine (okH_e am_lay h (MH h) 0 hk hr (fun a e he => ?_)).symm
  unfold MH
  rw [Nat.zero_add, he]
/-- what the constructors leave in the numbers -/
def ct_vals : List (Nat × Nat × Int32) := [(1, 0, 0), (1, 3, 0), (1, 4, 0), (1, 5, -4), (1, 6, 0), (1, 7, 0), (11, 0, -4), (11, 1, -4), (11, 2, -4), (11, 3, -4), (11, 4, -4), (11, 5, -4), (11, 6, -4), (11, 7, -4), (0, 8, 1), (0, 9, 0), (27, 1, 0), (39, 1, 0), (13, 1, 0), (82, 6, 0), (97, 0, -4), (97, 1, -4), (97, 2, -4), (97, 3, -4), (52, 2, -4), (54, 2, -4), (56, 2, -4), (58, 2, -4), (82, 11, 0), (12, 2, 0), (82, 25, 0)]
def ct_L1 (L : List Value) : Bool := match L with
  | [.ref a, .ref b, .retAddr c, .retAddr d] => decide (a = 3000) && (decide (b = 0) && (decide (c = 0) && decide (d = 0)))
  | _ => false
def ct_s1 (L : List Value) : Bool := match L with
  | [.ref a, .ref b] => decide (a = 82) && decide (b = 82)
  | _ => false
def ct_L2 (L : List Value) : Bool := match L with
  | [.ref a, .int b] => decide (a = 82) && decide (b = 4)
  | _ => false
def ct_run1 : Option (List Value × List Value × am_H) := am_rn 300 12 60 kL_law 0 [.ref 3000, am_u, am_u, am_u] [] []
def ct_run2 : Option (List Value × List Value × am_H) := ct_run1.bind fun q => am_rn 300 160 200 kX9_init 0 [.ref 82, am_u] [] q.2.2
def ct_chk1 : Bool := match ct_run1 with
  | some (L, st, h) => ct_L1 L && (ct_s1 st && (decide (h.length = 83) && am_rcv h 9 (some (.ref 82))))
  | none => false
