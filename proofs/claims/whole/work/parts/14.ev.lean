/-! runs without fuel: what a run from a place on gives -/
theorem am_ex_mono1 {X : am_X} : ∀ {f k pc : Nat} {L st : List Value} {h : am_H} {q : am_Q}, am_ex X f k pc L st h = some q → am_ex X (f + 1) k pc L st h = some q
  | 0, _, _, _, _, _, _, hx => by cases hx
  | f + 1, k, pc, L, st, h, q, hx => by
    rcases am_ex_of hx with ⟨o, h1, rfl⟩ | ⟨h1, j, as, r, o1, g, h2, h3, he, h4, hk⟩ | ⟨h1, h2, i, n, P, h3, hd, hk⟩
    · unfold am_ex; rw [h1]
    · unfold am_ex
      simp only [h1, h2, h3, am_ex_mono1 he, h4, if_true, am_ex_mono1 hk]
    · unfold am_ex
      simp only [h1, h2, h3, hd, am_ex_mono1 hk]
theorem am_ex_mono {X : am_X} {f g k pc : Nat} {L st : List Value} {h : am_H} {q : am_Q} (hx : am_ex X f k pc L st h = some q) (hfg : f ≤ g) : am_ex X g k pc L st h = some q := by
  induction hfg with
  | refl => exact hx
  | step _ ih => exact am_ex_mono1 ih
theorem am_ex_det {X : am_X} {f g k pc : Nat} {L st : List Value} {h : am_H} {q r : am_Q} (h1 : am_ex X f k pc L st h = some q) (h2 : am_ex X g k pc L st h = some r) : q = r := by
  have a := am_ex_mono h1 (Nat.le_max_left f g)
  have b := am_ex_mono h2 (Nat.le_max_right f g)
  exact Option.some.inj (a.symm.trans b)
noncomputable def am_ev (X : am_X) (k pc : Nat) (L st : List Value) (h : am_H) : Option am_Q := match Classical.propDecidable (∃ q f, am_ex X f k pc L st h = some q) with
  | .isTrue H => some H.choose
  | .isFalse _ => none
theorem am_ev_iff {X : am_X} {k pc : Nat} {L st : List Value} {h : am_H} {q : am_Q} : am_ev X k pc L st h = some q ↔ ∃ f, am_ex X f k pc L st h = some q := by
  unfold am_ev
  split
  · rename_i H _
    constructor
    · intro e
      cases e
      exact H.choose_spec
    · rintro ⟨f, hf⟩
      obtain ⟨g, hg⟩ := H.choose_spec
      rw [am_ex_det hg hf]
  · rename_i H _
    constructor
    · intro e; cases e
    · rintro ⟨f, hf⟩
      exact absurd ⟨q, f, hf⟩ H
theorem am_ev_eq {X : am_X} {k pc : Nat} {L st : List Value} {h : am_H} {r : Option am_Q} (h1 : ∀ q, (∃ f, am_ex X f k pc L st h = some q) ↔ r = some q) : am_ev X k pc L st h = r := by
  apply Option.ext
  intro q
  exact am_ev_iff.trans (h1 q)
theorem am_ev_ret {X : am_X} {k pc : Nat} {L st : List Value} {h : am_H} {o : Option Value} (hr : am_ret k pc st = some o) : am_ev X k pc L st h = some (o, h) := am_ev_iff.mpr ⟨1, by unfold am_ex; rw [hr]⟩
noncomputable def am_kk (X : am_X) (k pc : Nat) (L st : List Value) (h : am_H) (q : am_Q) : Option am_Q := if am_kp h q.2 L st = true then am_ev X k pc L (am_push q.1 st) q.2 else none
theorem am_ev_call {X : am_X} {k pc : Nat} {L st : List Value} {h : am_H} {j : Nat} {as r : List Value} (hr : am_ret k pc st = none) (hc : am_call k pc st h = some (j, as, r)) (hf : am_fit j as = true) : am_ev X k pc L st h = (am_ev X j 0 (am_ent j as) [] h).bind (am_kk X k (pc + 3) L r h) := by
  apply am_ev_eq
  intro q
  constructor
  · rintro ⟨f, hx⟩
    cases f with
    | zero => cases hx
    | succ f =>
      rcases am_ex_of hx with ⟨o, h1, rfl⟩ | ⟨h1, j', as', r', o1, g, h2, h3, he, h4, hk⟩ | ⟨h1, h2, i, n, P, h3, hd, hk⟩
      · rw [hr] at h1; cases h1
      · rw [hc] at h2
        cases h2
        rw [am_ev_iff.mpr ⟨f, he⟩]
        show am_kk X k (pc + 3) L r h (o1, g) = some q
        unfold am_kk
        rw [if_pos h4]
        exact am_ev_iff.mpr ⟨f, hk⟩
      · rw [hc] at h2; cases h2
  · intro e
    cases hv : am_ev X j 0 (am_ent j as) [] h with
    | none => rw [hv] at e; cases e
    | some q1 =>
      rw [hv] at e
      have e : am_kk X k (pc + 3) L r h q1 = some q := e
      unfold am_kk at e
      split at e
      · rename_i h4
        obtain ⟨f1, hf1⟩ := am_ev_iff.mp hv
        obtain ⟨f2, hf2⟩ := am_ev_iff.mp e
        refine ⟨max f1 f2 + 1, ?_⟩
        unfold am_ex
        simp only [hr, hc, hf, am_ex_mono hf1 (Nat.le_max_left f1 f2), h4, if_true, am_ex_mono hf2 (Nat.le_max_right f1 f2)]
      · cases e
theorem am_ev_step {X : am_X} {k pc : Nat} {L st : List Value} {h : am_H} {i : Instr} {n : Nat} (hr : am_ret k pc st = none) (hc : am_call k pc st h = none) (hi : am_ins k pc = some (i, n)) : am_ev X k pc L st h = (am_do X k pc i n L st h).bind (fun P => am_ev X k P.1 P.2.1 P.2.2.1 P.2.2.2) := by
  apply am_ev_eq
  intro q
  constructor
  · rintro ⟨f, hx⟩
    cases f with
    | zero => cases hx
    | succ f =>
      rcases am_ex_of hx with ⟨o, h1, rfl⟩ | ⟨h1, j', as', r', o1, g, h2, h3, he, h4, hk⟩ | ⟨h1, h2, i', n', P, h3, hd, hk⟩
      · rw [hr] at h1; cases h1
      · rw [hc] at h2; cases h2
      · rw [hi] at h3
        cases h3
        rw [hd]
        exact am_ev_iff.mpr ⟨f, hk⟩
  · intro e
    cases hv : am_do X k pc i n L st h with
    | none => rw [hv] at e; cases e
    | some P =>
      rw [hv] at e
      obtain ⟨f, hf⟩ := am_ev_iff.mp e
      refine ⟨f + 1, ?_⟩
      unfold am_ex
      simp only [hr, hc, hi, hv, hf]
/-- neither a return nor a call of a walked method -/
def am_pl (i : Instr) : Bool := match i with
  | .ireturn => false
  | .return_ => false
  | .areturn => false
  | .invokevirtual _ => false
  | .invokestatic _ => false
  | .invokespecial _ => false
  | _ => true
theorem am_pl_ret {k pc n : Nat} {i : Instr} (hi : am_ins k pc = some (i, n)) (hp : am_pl i = true) (st : List Value) (h : am_H) : am_ret k pc st = none ∧ am_call k pc st h = none := by
  unfold am_ret am_call
  rw [hi]
  cases i <;> first | exact ⟨rfl, rfl⟩ | exact absurd hp (by simp [am_pl])
section EV
variable {X : am_X} {k pc : Nat} {L st : List Value} {h : am_H}
theorem am_e1 {i : Instr} {n : Nat} {P : am_P} (hi : am_ins k pc = some (i, n)) (hp : am_pl i = true) (hd : am_do X k pc i n L st h = some P) : am_ev X k pc L st h = am_ev X k P.1 P.2.1 P.2.2.1 P.2.2.2 := by
  obtain ⟨a, b⟩ := am_pl_ret hi hp st h
  rw [am_ev_step a b hi, hd]
  rfl
theorem am_e0 {i : Instr} {n : Nat} (hi : am_ins k pc = some (i, n)) (hp : am_pl i = true) : am_ev X k pc L st h = (am_do X k pc i n L st h).bind (fun P => am_ev X k P.1 P.2.1 P.2.2.1 P.2.2.2) := by
  obtain ⟨a, b⟩ := am_pl_ret hi hp st h
  exact am_ev_step a b hi
-- the forms that the rows of each instruction take
theorem e_push {c : Value} {i : Instr} {n : Nat} (hi : am_ins k pc = some (i, n)) (hp : am_pl i = true) (hd : ∀ L st h, am_do X k pc i n L st h = some (pc + n, L, c :: st, h)) : am_ev X k pc L st h = am_ev X k (pc + n) L (c :: st) h := am_e1 (P := (pc + n, L, c :: st, h)) hi hp (hd L st h)
theorem e_bin {x y : Int32} {f : Int32 → Int32 → Int32} {i : Instr} (hi : am_ins k pc = some (i, 1)) (hp : am_pl i = true) (hd : ∀ L st h, am_do X k pc i 1 L st h = am_ii pc L st h f) : am_ev X k pc L (.int y :: .int x :: st) h = am_ev X k (pc + 1) L (.int (f x y) :: st) h := am_e1 (P := (pc + 1, L, .int (f x y) :: st, h)) hi hp (hd L _ h)
theorem e_div {x y : Int32} {f : Int32 → Int32 → Int32} {i : Instr} (hi : am_ins k pc = some (i, 1)) (hp : am_pl i = true) (hd : ∀ L st h, am_do X k pc i 1 L st h = am_id pc L st h f) : am_ev X k pc L (.int y :: .int x :: st) h = if y = 0 then none else am_ev X k (pc + 1) L (.int (f x y) :: st) h := by
  rw [am_e0 hi hp, hd]
  show (if y = 0 then none else _).bind _ = _
  split <;> rfl
theorem e_lbin {x y : Int64} {f : Int64 → Int64 → Value} {i : Instr} (hi : am_ins k pc = some (i, 1)) (hp : am_pl i = true) (hd : ∀ L st h, am_do X k pc i 1 L st h = am_ll pc L st h f) : am_ev X k pc L (.long y :: .long x :: st) h = am_ev X k (pc + 1) L (f x y :: st) h := am_e1 (P := (pc + 1, L, f x y :: st, h)) hi hp (hd L _ h)
theorem e_un {x : Int32} {f : Int32 → Value} {i : Instr} (hi : am_ins k pc = some (i, 1)) (hp : am_pl i = true) (hd : ∀ L st h, am_do X k pc i 1 L st h = am_i1 pc L st h f) : am_ev X k pc L (.int x :: st) h = am_ev X k (pc + 1) L (f x :: st) h := am_e1 (P := (pc + 1, L, f x :: st, h)) hi hp (hd L _ h)
theorem e_l2i {x : Int64} (hi : am_ins k pc = some (.l2i, 1)) : am_ev X k pc L (.long x :: st) h = am_ev X k (pc + 1) L (.int x.toInt32 :: st) h := am_e1 (P := (pc + 1, L, .int x.toInt32 :: st, h)) hi rfl rfl
theorem e_ldi {x : Int32} {i : Instr} {n j : Nat} (hi : am_ins k pc = some (i, n)) (hp : am_pl i = true) (hd : ∀ L st h, am_do X k pc i n L st h = am_li1 n pc j L st h) (hl : L[j]? = some (.int x)) : am_ev X k pc L st h = am_ev X k (pc + n) L (.int x :: st) h := am_e1 (P := (pc + n, L, .int x :: st, h)) hi hp (by rw [hd]; unfold am_li1; rw [hl])
theorem e_ldl {x : Int64} {i : Instr} {n j : Nat} (hi : am_ins k pc = some (i, n)) (hp : am_pl i = true) (hd : ∀ L st h, am_do X k pc i n L st h = am_ll1 n pc j L st h) (hl : L[j]? = some (.long x)) : am_ev X k pc L st h = am_ev X k (pc + n) L (.long x :: st) h := am_e1 (P := (pc + n, L, .long x :: st, h)) hi hp (by rw [hd]; unfold am_ll1; rw [hl])
theorem e_lda {x : Nat} {i : Instr} {n j : Nat} (hi : am_ins k pc = some (i, n)) (hp : am_pl i = true) (hd : ∀ L st h, am_do X k pc i n L st h = am_la1 n pc j L st h) (hl : L[j]? = some (.ref x)) : am_ev X k pc L st h = am_ev X k (pc + n) L (.ref x :: st) h := am_e1 (P := (pc + n, L, .ref x :: st, h)) hi hp (by rw [hd]; unfold am_la1; rw [hl])
theorem e_ldn {i : Instr} {n j : Nat} (hi : am_ins k pc = some (i, n)) (hp : am_pl i = true) (hd : ∀ L st h, am_do X k pc i n L st h = am_la1 n pc j L st h) (hl : L[j]? = some .null) : am_ev X k pc L st h = am_ev X k (pc + n) L (.null :: st) h := am_e1 (P := (pc + n, L, .null :: st, h)) hi hp (by rw [hd]; unfold am_la1; rw [hl])
theorem e_sti {x : Int32} {i : Instr} {n j : Nat} (hi : am_ins k pc = some (i, n)) (hp : am_pl i = true) (hd : ∀ L st h, am_do X k pc i n L st h = am_si n pc j L st h) (hl : j < L.length ∧ am_nl j L = true) {L' : List Value} (hL : L.set j (.int x) = L') : am_ev X k pc L (.int x :: st) h = am_ev X k (pc + n) L' st h := by
  subst hL
  exact am_e1 (P := (pc + n, L.set j (.int x), st, h)) hi hp (by rw [hd]; show am_s1 n pc j L st h (.int x) = _; unfold am_s1; rw [if_pos hl])
theorem e_sta {v : Value} {i : Instr} {n j : Nat} (hv : v = .null ∨ ∃ a, v = .ref a) (hi : am_ins k pc = some (i, n)) (hp : am_pl i = true) (hd : ∀ L st h, am_do X k pc i n L st h = am_sr n pc j L st h) (hl : j < L.length ∧ am_nl j L = true) {L' : List Value} (hL : L.set j v = L') : am_ev X k pc L (v :: st) h = am_ev X k (pc + n) L' st h := by
  subst hL
  refine am_e1 (P := (pc + n, L.set j v, st, h)) hi hp ?_
  rw [hd]
  rcases hv with rfl | ⟨a, rfl⟩
  · show am_s1 n pc j L st h .null = _; unfold am_s1; rw [if_pos hl]
  · show am_s1 n pc j L st h (.ref a) = _; unfold am_s1; rw [if_pos hl]
theorem e_stl {x : Int64} {j : Nat} (hi : am_ins k pc = some (.lstore j, 2)) (hl : j + 1 < L.length ∧ am_nl j L = true) {L' : List Value} (hL : (L.set j (.long x)).set (j + 1) am_u = L') : am_ev X k pc L (.long x :: st) h = am_ev X k (pc + 2) L' st h := by
  subst hL
  exact am_e1 (P := (pc + 2, (L.set j (.long x)).set (j + 1) am_u, st, h)) hi rfl (by show am_sL 2 pc j L (.long x :: st) h = _; unfold am_sL; dsimp only; rw [if_pos hl])
theorem e_inc {x : Int32} {j : Nat} {v : Int} (hi : am_ins k pc = some (.iinc j v, 3)) (hl : j < L.length ∧ am_nl j L = true) (hx : L[j]? = some (.int x)) {L' : List Value} (hL : L.set j (.int (x + Int32.ofInt v)) = L') : am_ev X k pc L st h = am_ev X k (pc + 3) L' st h := by
  subst hL
  exact am_e1 (P := (pc + 3, L.set j (.int (x + Int32.ofInt v)), st, h)) hi rfl (by show am_inc pc j v L st h = _; unfold am_inc; rw [hx]; show am_s1 3 pc j L st h _ = _; unfold am_s1; rw [if_pos hl])
theorem e_dup {v : Value} (hi : am_ins k pc = some (.dup, 1)) (hv : v.category = 1) : am_ev X k pc L (v :: st) h = am_ev X k (pc + 1) L (v :: v :: st) h := am_e1 (P := (pc + 1, L, v :: v :: st, h)) hi rfl (by show am_dup pc L (v :: st) h = _; unfold am_dup; dsimp only; rw [if_pos hv])
theorem e_dup2 {v w : Value} (hi : am_ins k pc = some (.dup2, 1)) (hv : v.category = 1) (hw : w.category = 1) : am_ev X k pc L (v :: w :: st) h = am_ev X k (pc + 1) L (v :: w :: v :: w :: st) h := am_e1 (P := (pc + 1, L, v :: w :: v :: w :: st, h)) hi rfl (by show am_dup2 pc L (v :: w :: st) h = _; unfold am_dup2; dsimp only; rw [if_pos ⟨hv, hw⟩])
theorem e_pop {v : Value} (hi : am_ins k pc = some (.pop, 1)) (hv : v.category = 1) : am_ev X k pc L (v :: st) h = am_ev X k (pc + 1) L st h := am_e1 (P := (pc + 1, L, st, h)) hi rfl (by show am_pop pc L (v :: st) h = _; unfold am_pop; dsimp only; rw [if_pos hv])
theorem e_goto {off : Int} {t : Nat} (hi : am_ins k pc = some (.goto off, 3)) (ht : am_tg pc off = some t) : am_ev X k pc L st h = am_ev X k t L st h := am_e1 (P := (t, L, st, h)) hi rfl (by show am_br pc 3 off true L st h = _; unfold am_br; rw [ht]; rfl)
theorem e_if {q : Jvm.ClassFile.Cond} {off : Int} {t : Nat} {x : Int32} {c : Prop} {dc : Decidable c} (hi : am_ins k pc = some (.ifCond q off, 3)) (ht : am_tg pc off = some t) (hc : am_cb q x 0 = decide c) : am_ev X k pc L (.int x :: st) h = if c then am_ev X k t L st h else am_ev X k (pc + 3) L st h := by
  rw [am_e0 hi rfl]
  show (am_br pc 3 off (am_cb q x 0) L st h).bind _ = _
  unfold am_br
  rw [ht, hc]
  by_cases hq : c
  · simp only [hq, decide_true, if_true]; rfl
  · simp only [hq, decide_false, if_false]; rfl
theorem e_ic {q : Jvm.ClassFile.Cond} {off : Int} {t : Nat} {x y : Int32} {c : Prop} {dc : Decidable c} (hi : am_ins k pc = some (.if_icmp q off, 3)) (ht : am_tg pc off = some t) (hc : am_cb q x y = decide c) : am_ev X k pc L (.int y :: .int x :: st) h = if c then am_ev X k t L st h else am_ev X k (pc + 3) L st h := by
  rw [am_e0 hi rfl]
  show (am_br pc 3 off (am_cb q x y) L st h).bind _ = _
  unfold am_br
  rw [ht, hc]
  by_cases hq : c
  · simp only [hq, decide_true, if_true]; rfl
  · simp only [hq, decide_false, if_false]; rfl
theorem e_nul {off : Int} {t : Nat} (hi : am_ins k pc = some (.ifnull off, 3)) (ht : am_tg pc off = some t) : (∀ a, am_ev X k pc L (.ref a :: st) h = am_ev X k (pc + 3) L st h) ∧ am_ev X k pc L (.null :: st) h = am_ev X k t L st h :=
  ⟨fun a => am_e1 (P := (pc + 3, L, st, h)) hi rfl (by show am_br pc 3 off false L st h = _; unfold am_br; rw [ht]; rfl), am_e1 (P := (t, L, st, h)) hi rfl (by show am_br pc 3 off true L st h = _; unfold am_br; rw [ht]; rfl)⟩
theorem e_nnl {off : Int} {t : Nat} (hi : am_ins k pc = some (.ifnonnull off, 3)) (ht : am_tg pc off = some t) : (∀ a, am_ev X k pc L (.ref a :: st) h = am_ev X k t L st h) ∧ am_ev X k pc L (.null :: st) h = am_ev X k (pc + 3) L st h :=
  ⟨fun a => am_e1 (P := (t, L, st, h)) hi rfl (by show am_br pc 3 off true L st h = _; unfold am_br; rw [ht]; rfl), am_e1 (P := (pc + 3, L, st, h)) hi rfl (by show am_br pc 3 off false L st h = _; unfold am_br; rw [ht]; rfl)⟩
/-- an element, if it is in -/
def am_el (r : Option (Nat × Nat × (Nat → Int32))) (t1 t2 : Nat) (i : Int32) (K : Int32 → Option am_Q) : Option am_Q := match r with
  | some (t, n, f) => if (t = t1 ∨ t = t2) ∧ am_in i n = true then K (f i.toNatClampNeg) else none
  | none => none
theorem e_ald {t1 t2 : Nat} {i : Int32} {a : Nat} {w : Instr} (hi : am_ins k pc = some (w, 1)) (hp : am_pl w = true) (hd : ∀ L st h, am_do X k pc w 1 L st h = am_ald X t1 t2 pc L st h) : am_ev X k pc L (.int i :: .ref a :: st) h = am_el (am_ga X h a) t1 t2 i (fun x => am_ev X k (pc + 1) L (.int x :: st) h) := by
  rw [am_e0 hi hp, hd]
  unfold am_ald am_el
  dsimp only
  cases am_ga X h a with
  | none => rfl
  | some r =>
    obtain ⟨t, n, f⟩ := r
    dsimp only
    split <;> rfl
theorem e_aal {i : Int32} {a : Nat} (hi : am_ins k pc = some (.aaload, 1)) : am_ev X k pc L (.int i :: .ref a :: st) h = match am_gq h a with
    | some (t, n, f) => if (t = 3 ∨ t = 4 ∨ t = 5) ∧ am_in i n = true then am_ev X k (pc + 1) L (va_rf (f i.toNatClampNeg) :: st) h else none
    | none => none := by
  rw [am_e0 hi rfl, show am_do X k pc .aaload 1 L (.int i :: .ref a :: st) h = am_aal pc L (.int i :: .ref a :: st) h from rfl]
  unfold am_aal
  dsimp only
  cases am_gq h a with
  | none => rfl
  | some r =>
    obtain ⟨t, n, f⟩ := r
    dsimp only
    split <;> rfl
/-- an element written -/
def am_wi (h : am_H) (a : Nat) (i x : Int32) : Option am_H := match h[a]? with
  | some (.inl (t, n, .inl f)) => if t = 0 ∧ am_in i n = true then some (h.set a (.inl (t, n, .inl (upd f i.toNatClampNeg x)))) else none
  | _ => none
def am_wb (h : am_H) (a : Nat) (i x : Int32) : Option am_H := match h[a]? with
  | some (.inl (t, n, .inl f)) => if (t = 1 ∨ t = 2) ∧ am_in i n = true then some (h.set a (.inl (t, n, .inl (upd f i.toNatClampNeg (am_nb t x))))) else none
  | _ => none
theorem e_ist {i x : Int32} {a : Nat} (hi : am_ins k pc = some (.iastore, 1)) : am_ev X k pc L (.int x :: .int i :: .ref a :: st) h = (am_wi h a i x).bind (fun h' => am_ev X k (pc + 1) L st h') := by
  rw [am_e0 hi rfl, show am_do X k pc .iastore 1 L (.int x :: .int i :: .ref a :: st) h = am_ist pc L (.int x :: .int i :: .ref a :: st) h from rfl]
  unfold am_ist am_wi
  dsimp only
  cases hq : h[a]? with
  | none => rfl
  | some r =>
    match r with
    | .inl (t, n, .inl f) => dsimp only; split <;> rfl
    | .inl (t, n, .inr y) => rfl
    | .inr y => rfl
theorem e_bst {i x : Int32} {a : Nat} (hi : am_ins k pc = some (.bastore, 1)) : am_ev X k pc L (.int x :: .int i :: .ref a :: st) h = (am_wb h a i x).bind (fun h' => am_ev X k (pc + 1) L st h') := by
  rw [am_e0 hi rfl, show am_do X k pc .bastore 1 L (.int x :: .int i :: .ref a :: st) h = am_bst pc L (.int x :: .int i :: .ref a :: st) h from rfl]
  unfold am_bst am_wb
  dsimp only
  cases hq : h[a]? with
  | none => rfl
  | some r =>
    match r with
    | .inl (t, n, .inl f) => dsimp only; split <;> rfl
    | .inl (t, n, .inr y) => rfl
    | .inr y => rfl
theorem e_len {a : Nat} (hi : am_ins k pc = some (.arraylength, 1)) : am_ev X k pc L (.ref a :: st) h = match am_ga X h a with
    | some (t, n, _) => if t < 3 then am_ev X k (pc + 1) L (.int (Int32.ofNat n) :: st) h else none
    | none => none := by
  rw [am_e0 hi rfl, show am_do X k pc .arraylength 1 L (.ref a :: st) h = am_len X pc L (.ref a :: st) h from rfl]
  unfold am_len
  dsimp only
  cases am_ga X h a with
  | none => rfl
  | some r =>
    obtain ⟨t, n, f⟩ := r
    dsimp only
    split <;> rfl
theorem e_gf {a o idx ci s q : Nat} (hi : am_ins k pc = some (.getfield idx, 3)) (ho : am_oc k = o) (hn : ¬ o = 11) (hl : am_lk am_fl o idx = some (ci, s, q)) : am_ev X k pc L (.ref a :: st) h = (am_gf h a ci s).bind (fun v => am_ev X k (pc + 3) L (v :: st) h) := by
  rw [am_e0 hi rfl, show am_do X k pc (.getfield idx) 3 L (.ref a :: st) h = am_gfd (am_oc k) idx pc L (.ref a :: st) h from rfl]
  unfold am_gfd
  dsimp only
  rw [ho, if_neg hn, hl]
  dsimp only
  cases am_gf h a ci s with
  | none => rfl
  | some v => rfl
theorem e_gfs {a idx : Nat} {v : Nat → Value} (hi : am_ins k pc = some (.getfield idx, 3)) (ho : am_oc k = 11) (hv : (idx = 9 ∧ v = fun a => .ref (a + 100)) ∨ (idx = 15 ∧ v = fun _ => .int 0)) : am_ev X k pc L (.ref a :: st) h = if 1000 ≤ a ∧ a < 1013 ∧ h.length ≤ 1000 then am_ev X k (pc + 3) L (v a :: st) h else none := by
  rw [am_e0 hi rfl, show am_do X k pc (.getfield idx) 3 L (.ref a :: st) h = am_gfd (am_oc k) idx pc L (.ref a :: st) h from rfl]
  unfold am_gfd
  dsimp only
  rw [ho, if_pos rfl]
  rcases hv with ⟨rfl, rfl⟩ | ⟨rfl, rfl⟩
  · by_cases hq : 1000 ≤ a ∧ a < 1013 ∧ h.length ≤ 1000
    · rw [if_pos hq, if_pos hq, if_pos rfl]; rfl
    · rw [if_neg hq, if_neg hq]; rfl
  · by_cases hq : 1000 ≤ a ∧ a < 1013 ∧ h.length ≤ 1000
    · rw [if_pos hq, if_pos hq, if_neg (by decide), if_pos rfl]; rfl
    · rw [if_neg hq, if_neg hq]; rfl
/-- a field written -/
def am_pf (h : am_H) (a ci s : Nat) (v : Value) : Option am_H := if narrow (am_fty ci s) v = v ∧ fits (am_fty ci s) v = true then am_sf h a ci s v else none
theorem e_pf {v : Value} {a o idx ci s q : Nat} (hi : am_ins k pc = some (.putfield idx, 3)) (ho : am_oc k = o) (hl : am_lk am_fl o idx = some (ci, s, q)) (hf : am_fin ci s = false ∨ ((am_y k).name = "<init>" ∧ ci = o)) : am_ev X k pc L (v :: .ref a :: st) h = (am_pf h a ci s v).bind (fun h' => am_ev X k (pc + 3) L st h') := by
  rw [am_e0 hi rfl, show am_do X k pc (.putfield idx) 3 L (v :: .ref a :: st) h = am_pfd k (am_oc k) idx pc L (v :: .ref a :: st) h from rfl]
  unfold am_pfd am_pf
  dsimp only
  rw [ho, hl]
  dsimp only
  by_cases hq : narrow (am_fty ci s) v = v ∧ fits (am_fty ci s) v = true
  · rw [if_pos ⟨hf, hq⟩, if_pos hq]
    cases am_sf h a ci s v with
    | none => rfl
    | some v => rfl
  · rw [if_neg (fun w => hq w.2), if_neg hq]; rfl
theorem e_gs {v : Value} {idx : Nat} (hi : am_ins k pc = some (.getstatic idx, 3)) (hv : ∀ L st h, am_gst X (am_oc k) idx pc L st h = some (pc + 3, L, v :: st, h)) : am_ev X k pc L st h = am_ev X k (pc + 3) L (v :: st) h := am_e1 (P := (pc + 3, L, v :: st, h)) hi rfl (hv L st h)
theorem e_tab {d lo hi : Int} {os : Array Int} {n : Nat} {x : Int32} (hi' : am_ins k pc = some (.tableswitch d lo hi os, n)) {K : Int → Option am_Q} (hK : ∀ z : Int, K z = (am_br pc 0 (if z < lo ∨ hi < z then d else os[(z - lo).toNat]?.getD 0) true L st h).bind (fun P => am_ev X k P.1 P.2.1 P.2.2.1 P.2.2.2)) (hos : os.size = (hi - lo + 1).toNat) : am_ev X k pc L (.int x :: st) h = K x.toInt := by
  rw [am_e0 hi' rfl, hK, show am_do X k pc (.tableswitch d lo hi os) n L (.int x :: st) h = am_tab pc d lo hi os L (.int x :: st) h from rfl]
  unfold am_tab
  dsimp only
  by_cases hq : x.toInt < lo ∨ hi < x.toInt
  · rw [if_pos hq, if_pos hq]
  · rw [if_neg hq, if_neg hq]
    have hlt : (x.toInt - lo).toNat < os.size := by rw [hos]; omega
    rw [Array.getElem?_eq_getElem hlt]
    rfl
theorem e_ret_i {v : Int32} {ty : FieldType} (hi : am_ins k pc = some (.ireturn, 1)) (hr : am_rt k = some ty) (hn : narrow ty (.int v) = .int v) : am_ev X k pc L [.int v] h = some (some (.int v), h) := am_ev_ret (by simp only [am_ret, hi, hr, hn, if_true])
theorem e_ret_v (hi : am_ins k pc = some (.return_, 1)) (hr : am_rt k = none) : am_ev X k pc L [] h = some (none, h) := am_ev_ret (by simp only [am_ret, hi, hr])
theorem e_ret_a {a : Nat} {s : String} (hi : am_ins k pc = some (.areturn, 1)) (hr : am_rt k = some (.object s)) : am_ev X k pc L [.ref a] h = some (some (.ref a), h) := am_ev_ret (by simp only [am_ret, hi, hr])
theorem e_ret_n {s : String} (hi : am_ins k pc = some (.areturn, 1)) (hr : am_rt k = some (.object s)) : am_ev X k pc L [.null] h = some (some .null, h) := am_ev_ret (by simp only [am_ret, hi, hr])
end EV
