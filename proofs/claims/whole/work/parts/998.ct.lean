/-! the two constructors: a run that does not look at the script -/
def am_xq (i : Instr) (st : List Value) : Bool := match i with
  | .getstatic _ => false
  | .arraylength => st.all fun v => match v with
    | .ref a => decide (a < 1000)
    | _ => true
  | .iaload => st.all fun v => match v with
    | .ref a => decide (a < 1000)
    | _ => true
  | .baload => st.all fun v => match v with
    | .ref a => decide (a < 1000)
    | _ => true
  | _ => true
theorem am_ga_X {X Y : am_X} {h : am_H} {a : Nat} (ha : a < 1000) : am_ga X h a = am_ga Y h a := by
  unfold am_ga
  split
  · rfl
  · rfl
  · rw [if_pos ha, if_pos ha]
theorem am_ald_X {X Y : am_X} {t1 t2 pc : Nat} {L st : List Value} {h : am_H} (hq : (st.all fun v => match v with
    | .ref a => decide (a < 1000)
    | _ => true) = true) : am_ald X t1 t2 pc L st h = am_ald Y t1 t2 pc L st h := by
  unfold am_ald
  cases st with
  | nil => rfl
  | cons v r =>
    cases v with
    | int i =>
      cases r with
      | nil => rfl
      | cons w r =>
        cases w with
        | ref a =>
          have ha : a < 1000 := by
            rw [List.all_eq_true] at hq
            exact of_decide_eq_true (hq (.ref a) (List.mem_cons_of_mem _ List.mem_cons_self))
          dsimp only
          rw [am_ga_X (X := X) (Y := Y) ha]
        | _ => rfl
    | _ => rfl
theorem am_len_X {X Y : am_X} {pc : Nat} {L st : List Value} {h : am_H} (hq : (st.all fun v => match v with
    | .ref a => decide (a < 1000)
    | _ => true) = true) : am_len X pc L st h = am_len Y pc L st h := by
  unfold am_len
  cases st with
  | nil => rfl
  | cons v r =>
    cases v with
    | ref a =>
      have ha : a < 1000 := by
        rw [List.all_eq_true] at hq
        exact of_decide_eq_true (hq (.ref a) List.mem_cons_self)
      dsimp only
      rw [am_ga_X (X := X) (Y := Y) ha]
    | _ => rfl
theorem am_do_X {X Y : am_X} {k pc n : Nat} {i : Instr} {L st : List Value} {h : am_H} (hq : am_xq i st = true) : am_do X k pc i n L st h = am_do Y k pc i n L st h := by
  cases i with
  | getstatic j => exact absurd hq (by simp [am_xq])
  | iaload =>
    show (if n = 1 then am_ald X 0 0 pc L st h else none) = (if n = 1 then am_ald Y 0 0 pc L st h else none)
    rw [am_ald_X (X := X) (Y := Y) hq]
  | baload =>
    show (if n = 1 then am_ald X 1 2 pc L st h else none) = (if n = 1 then am_ald Y 1 2 pc L st h else none)
    rw [am_ald_X (X := X) (Y := Y) hq]
  | arraylength =>
    show (if n = 1 then am_len X pc L st h else none) = (if n = 1 then am_len Y pc L st h else none)
    rw [am_len_X (X := X) (Y := Y) hq]
  | _ => rfl
def am_X0 : am_X := (0, fun _ => 0, .null)
def am_exF : Nat → Nat → Nat → List Value → List Value → am_H → Option am_Q
  | 0, _, _, _, _, _ => none
  | n + 1, k, pc, L, st, h => match am_ret k pc st with
    | some o => some (o, h)
    | none => match am_call k pc st h with
      | some (j, as, r) => if am_fit j as = true then (match am_exF n j 0 (am_ent j as) [] h with
        | some (o, h1) => if am_kp h h1 L r = true then am_exF n k (pc + 3) L (am_push o r) h1 else none
        | none => none) else none
      | none => match am_ins k pc with
        | some (i, m) => if am_xq i st = true then (match am_do am_X0 k pc i m L st h with
          | some (pc', L', st', h') => am_exF n k pc' L' st' h'
          | none => none) else none
        | none => none
theorem am_exF_X {X : am_X} : ∀ {f k pc : Nat} {L st : List Value} {h : am_H} {q : am_Q}, am_exF f k pc L st h = some q → am_ex X f k pc L st h = some q
  | 0, _, _, _, _, _, _, hx => by cases hx
  | f + 1, k, pc, L, st, h, q, hx => by
    unfold am_exF at hx
    unfold am_ex
    cases h1 : am_ret k pc st with
    | some o => simp only [h1] at hx ⊢; exact hx
    | none =>
      simp only [h1] at hx ⊢
      cases h2 : am_call k pc st h with
      | some t =>
        obtain ⟨j, as, r⟩ := t
        simp only [h2] at hx ⊢
        split at hx
        · rename_i h3
          rw [if_pos h3]
          cases h4 : am_exF f j 0 (am_ent j as) [] h with
          | none => simp only [h4] at hx; cases hx
          | some t =>
            obtain ⟨o, g⟩ := t
            simp only [h4] at hx
            simp only [am_exF_X h4]
            split at hx
            · rename_i h5; rw [if_pos h5]; exact am_exF_X hx
            · cases hx
        · cases hx
      | none =>
        simp only [h2] at hx ⊢
        cases h3 : am_ins k pc with
        | none => simp only [h3] at hx; cases hx
        | some t =>
          obtain ⟨i, m⟩ := t
          simp only [h3] at hx ⊢
          split at hx
          · rename_i h4
            rw [am_do_X (X := X) (Y := am_X0) h4]
            cases h5 : am_do am_X0 k pc i m L st h with
            | none => simp only [h5] at hx; cases hx
            | some P =>
              obtain ⟨a, b, c, d⟩ := P
              simp only [h5] at hx ⊢
              exact am_exF_X hx
          · cases hx
/-- a run up to a place of the same method -/
def am_rn (F s : Nat) : Nat → Nat → Nat → List Value → List Value → am_H → Option (List Value × List Value × am_H)
  | 0, _, _, _, _, _ => none
  | n + 1, k, pc, L, st, h => if pc = s then some (L, st, h) else match am_ret k pc st with
    | some _ => none
    | none => match am_call k pc st h with
      | some (j, as, r) => if am_fit j as = true then (match am_exF F j 0 (am_ent j as) [] h with
        | some (o, h1) => if am_kp h h1 L r = true then am_rn F s n k (pc + 3) L (am_push o r) h1 else none
        | none => none) else none
      | none => match am_ins k pc with
        | some (i, m) => if am_xq i st = true then (match am_do am_X0 k pc i m L st h with
          | some (pc', L', st', h') => am_rn F s n k pc' L' st' h'
          | none => none) else none
        | none => none
theorem am_rn_X {X : am_X} {F s : Nat} : ∀ {f k pc : Nat} {L st : List Value} {h : am_H} {q : List Value × List Value × am_H}, am_rn F s f k pc L st h = some q → am_ev X k pc L st h = am_ev X k s q.1 q.2.1 q.2.2
  | 0, _, _, _, _, _, _, hx => by cases hx
  | f + 1, k, pc, L, st, h, q, hx => by
    unfold am_rn at hx
    split at hx
    · rename_i h0; cases hx; rw [h0]
    · cases h1 : am_ret k pc st with
      | some o => simp only [h1] at hx; cases hx
      | none =>
        simp only [h1] at hx
        cases h2 : am_call k pc st h with
        | some t =>
          obtain ⟨j, as, r⟩ := t
          simp only [h2] at hx
          split at hx
          · rename_i h3
            cases h4 : am_exF F j 0 (am_ent j as) [] h with
            | none => simp only [h4] at hx; cases hx
            | some t =>
              obtain ⟨o, g⟩ := t
              simp only [h4] at hx
              split at hx
              · rename_i h5
                rw [am_ev_call h1 h2 h3, am_ev_iff.mpr ⟨F, am_exF_X h4⟩]
                show am_kk X k (pc + 3) L r h (o, g) = _
                unfold am_kk
                rw [if_pos h5]
                exact am_rn_X hx
              · cases hx
          · cases hx
        | none =>
          simp only [h2] at hx
          cases h3 : am_ins k pc with
          | none => simp only [h3] at hx; cases hx
          | some t =>
            obtain ⟨i, m⟩ := t
            simp only [h3] at hx
            split at hx
            · rename_i h4
              cases h5 : am_do am_X0 k pc i m L st h with
              | none => simp only [h5] at hx; cases hx
              | some P =>
                obtain ⟨a, b, c, d⟩ := P
                simp only [h5] at hx
                rw [am_ev_step h1 h2 h3, am_do_X (X := X) (Y := am_X0) h4, h5]
                exact am_rn_X hx
            · cases hx
/-- rows of references hold nothing behind their end -/
def am_rc (c : va_E) : Prop := match c with
  | .inl (_, n, .inr (.inr (.inr (.inr f)))) => ∀ j, n ≤ j → f j = none
  | _ => True
def am_rk (h : am_H) : Prop := ∀ c, c ∈ h → am_rc c
theorem am_rk.app {h g : am_H} (a : am_rk h) (b : am_rk g) : am_rk (h ++ g) := fun c hc => (List.mem_append.mp hc).elim (a c) (b c)
theorem am_rk.st {h : am_H} {i : Nat} {c : va_E} (a : am_rk h) (b : am_rc c) : am_rk (h.set i c) := fun x hx => (List.mem_or_eq_of_mem_set hx).elim (a x) (fun e => e ▸ b)
theorem am_rk.one {c : va_E} (b : am_rc c) : am_rk [c] := fun x hx => by
  rw [List.mem_singleton] at hx
  rw [hx]; exact b
theorem am_prm_rk {k o idx pc : Nat} {sp : Bool} {L st : List Value} {h : am_H} {P : am_P} (hd : am_prm k o idx sp pc L st h = some P) (hk : am_rk h) : am_rk P.2.2.2 := by
  unfold am_prm at hd
  split at hd
  · split at hd
    · unfold am_obj at hd
      split at hd
      · split at hd
        · cases hd; exact hk
        · cases hd
      · cases hd
    · cases hd
  · split at hd
    · unfold am_mmx at hd
      split at hd
      · split at hd
        · cases hd; exact hk
        · cases hd
      · cases hd
    · cases hd
  · split at hd
    · unfold am_cpy at hd
      split at hd
      · split at hd
        · split at hd
          · cases hd; exact hk.st trivial
          · cases hd
        · cases hd
      · cases hd
    · cases hd
  · cases hd
theorem am_do_rk {X : am_X} {k pc n : Nat} {i : Instr} {L st : List Value} {h : am_H} {P : am_P} (hd : am_do X k pc i n L st h = some P) (hk : am_rk h) : am_rk P.2.2.2 := by
  cases i with
  | iadd | isub | imul | iand | ior | ishl | ishr | iushr => obtain ⟨rfl, x, y, r, rfl, rfl⟩ := am_ii_of hd; exact hk
  | idiv | irem => obtain ⟨rfl, x, y, r, rfl, h0, rfl⟩ := am_id_of hd; exact hk
  | ladd | lmul | lcmp => obtain ⟨rfl, x, y, r, rfl, rfl⟩ := am_ll_of hd; exact hk
  | i2l | i2b | i2s | i2c => obtain ⟨rfl, x, r, rfl, rfl⟩ := am_i1_of hd; exact hk
  | l2i =>
    obtain ⟨rfl, hd⟩ := am_n_of hd
    match st, hd with
    | .long x :: r, hd => cases hd; exact hk
  | iconst _ | bipush _ | sipush _ | lconst _ | aconst_null => obtain ⟨rfl, rfl⟩ := am_ps_of hd; exact hk
  | ldc2_w j => obtain ⟨rfl, hd⟩ := am_n_of hd; obtain ⟨v, q, hl, rfl⟩ := am_ld2_of hd; exact hk
  | iload _ | iload_n _ => obtain ⟨rfl, x, hl, rfl⟩ := am_li1_of hd; exact hk
  | lload _ | lload_n _ => obtain ⟨rfl, x, hl, rfl⟩ := am_ll1_of hd; exact hk
  | aload _ | aload_n _ => obtain ⟨rfl, ⟨x, hl, rfl⟩ | ⟨hl, rfl⟩⟩ := am_la1_of hd <;> exact hk
  | istore _ | istore_n _ => obtain ⟨rfl, x, r, rfl, h1, h2, rfl⟩ := am_si_of hd; exact hk
  | astore _ | astore_n _ => obtain ⟨rfl, ⟨x, r, rfl, h1, h2, rfl⟩ | ⟨r, rfl, h1, h2, rfl⟩⟩ := am_sr_of hd <;> exact hk
  | lstore j => obtain ⟨rfl, hd⟩ := am_n_of hd; obtain ⟨x, r, rfl, h1, h2, rfl⟩ := am_sL_of hd; exact hk
  | iinc j v => obtain ⟨rfl, hd⟩ := am_n_of hd; obtain ⟨x, hl, h1, h2, rfl⟩ := am_inc_of hd; exact hk
  | dup => obtain ⟨rfl, hd⟩ := am_n_of hd; obtain ⟨v, r, rfl, q, rfl⟩ := am_dup_of hd; exact hk
  | dup2 => obtain ⟨rfl, hd⟩ := am_n_of hd; obtain ⟨v, w, r, rfl, q1, q2, rfl⟩ := am_dup2_of hd; exact hk
  | pop => obtain ⟨rfl, hd⟩ := am_n_of hd; obtain ⟨v, r, rfl, q, rfl⟩ := am_pop_of hd; exact hk
  | goto off => obtain ⟨rfl, hd⟩ := am_n_of hd; obtain ⟨t, ht, rfl⟩ := am_br_of hd; exact hk
  | ifCond q off => obtain ⟨rfl, hd⟩ := am_n_of hd; obtain ⟨x, r, t, rfl, ht, rfl⟩ := am_ifc_of hd; exact hk
  | if_icmp q off => obtain ⟨rfl, hd⟩ := am_n_of hd; obtain ⟨x, y, r, t, rfl, ht, rfl⟩ := am_ic_of hd; exact hk
  | ifnull off | ifnonnull off => obtain ⟨rfl, hd⟩ := am_n_of hd; obtain ⟨r, t, ht, ⟨x, rfl, rfl⟩ | ⟨rfl, rfl⟩⟩ := am_nul_of hd <;> exact hk
  | tableswitch d lo hi os => obtain ⟨x, r, t, rfl, rfl, q⟩ := am_tab_of hd; exact hk
  | lookupswitch d ps => obtain ⟨x, r, t, rfl, rfl, q⟩ := am_lks_of hd; exact hk
  | iaload | baload => obtain ⟨rfl, hd⟩ := am_n_of hd; obtain ⟨_, _, _, _, _, _, rfl, _, _, _, rfl⟩ := am_ald_of hd; exact hk
  | aaload => obtain ⟨rfl, hd⟩ := am_n_of hd; obtain ⟨_, _, _, _, _, _, rfl, _, _, _, rfl⟩ := am_aal_of hd; exact hk
  | iastore => obtain ⟨rfl, hd⟩ := am_n_of hd; obtain ⟨_, _, _, _, _, _, rfl, hc, _, rfl⟩ := am_ist_of hd; exact hk.st trivial
  | bastore => obtain ⟨rfl, hd⟩ := am_n_of hd; obtain ⟨_, _, _, _, _, _, _, rfl, hc, _, _, rfl⟩ := am_bst_of hd; exact hk.st trivial
  | aastore =>
    obtain ⟨rfl, hd⟩ := am_n_of hd
    obtain ⟨v, i, a, r, t, m, f, ci, fs, rfl, hc, _, _, hv, rfl⟩ := am_aas_of hd
    have hf : am_rc (.inl (t, m, .inr (.inr (.inr (.inr f))))) := hk _ (List.mem_of_getElem? hc)
    refine hk.st (fun j hj => ?_)
    have hlt : i.toNatClampNeg < m := by
      unfold vp_in at hv
      omega
    show va_up f i.toNatClampNeg (some v) j = none
    rw [va_up_ne _ _ (by omega)]
    exact hf j hj
  | arraylength => obtain ⟨rfl, hd⟩ := am_n_of hd; obtain ⟨_, _, _, _, _, rfl, _, _, rfl⟩ := am_len_of hd; exact hk
  | getfield j => obtain ⟨rfl, hd⟩ := am_n_of hd; obtain ⟨_, _, _, rfl, rfl, _⟩ := am_gfd_of hd; exact hk
  | putfield j => obtain ⟨rfl, hd⟩ := am_n_of hd; obtain ⟨_, _, _, _, _, _, _, rfl, _, _, _, _, hc, _, rfl⟩ := am_pfd_of hd; exact hk.st trivial
  | getstatic j =>
    obtain ⟨rfl, hd⟩ := am_n_of hd
    have hd : am_gst X (am_oc k) j pc L st h = some P := hd
    unfold am_gst at hd
    split at hd <;> first | (cases hd; exact hk) | cases hd
  | ldc j => obtain ⟨rfl, hd⟩ := am_n_of hd; obtain ⟨_, _, _, rfl⟩ | ⟨_, _, _, _, rfl⟩ := am_ldc_of hd <;> exact hk
  | ldc_w j => obtain ⟨rfl, hd⟩ := am_n_of hd; obtain ⟨_, _, _, rfl⟩ | ⟨_, _, _, _, rfl⟩ := am_ldc_of hd <;> exact hk
  | new j =>
    obtain ⟨rfl, hd⟩ := am_n_of hd
    have hd : am_new (am_oc k) j pc L st h = some P := hd
    unfold am_new at hd
    split at hd
    · split at hd
      · have e1 := (Option.some.inj hd).symm; subst e1; exact hk.app (am_rk.one trivial)
      · cases hd
    · cases hd
  | newarray a =>
    obtain ⟨rfl, hd⟩ := am_n_of hd
    have hd : am_nwa a pc L st h = some P := hd
    unfold am_nwa at hd
    split at hd
    · split at hd
      · split at hd
        · have e1 := (Option.some.inj hd).symm; subst e1; exact hk.app (am_rk.one trivial)
        · cases hd
      · cases hd
    · cases hd
  | anewarray j =>
    obtain ⟨rfl, hd⟩ := am_n_of hd
    have hd : am_anw (am_oc k) j pc L st h = some P := hd
    unfold am_anw at hd
    split at hd
    · split at hd
      · split at hd
        · have e1 := (Option.some.inj hd).symm; subst e1; exact hk.app (am_rk.one (fun _ _ => rfl))
        · cases hd
      · cases hd
    · cases hd
  | multianewarray j d =>
    obtain ⟨rfl, hd⟩ := am_n_of hd
    have hd : am_mnw (am_oc k) j d pc L st h = some P := hd
    unfold am_mnw at hd
    split at hd
    · split at hd
      · have e1 := (Option.some.inj hd).symm
        subst e1
        refine hk.app (fun c hc => ?_)
        rcases List.mem_cons.mp hc with rfl | hc
        · exact fun j hj => if_neg (by omega)
        · rw [List.eq_of_mem_replicate hc]; trivial
      · cases hd
    · cases hd
  | invokespecial j =>
    obtain ⟨rfl, hd⟩ := am_n_of hd
    exact am_prm_rk hd hk
  | invokestatic j =>
    obtain ⟨rfl, hd⟩ := am_n_of hd
    exact am_prm_rk hd hk
  | _ => simp only [am_do] at hd; cases hd
theorem am_exF_rk : ∀ {f k pc : Nat} {L st : List Value} {h : am_H} {q : am_Q}, am_ex am_X0 f k pc L st h = some q → am_rk h → am_rk q.2
  | 0, _, _, _, _, _, _, hx, _ => by cases hx
  | f + 1, k, pc, L, st, h, q, hx, hh => by
    rcases am_ex_of hx with ⟨o, _, rfl⟩ | ⟨_, j, as, r, o1, h1, _, _, he, _, hk⟩ | ⟨_, _, i, n, P, _, hd, hk⟩
    · exact hh
    · exact am_exF_rk hk (am_exF_rk he hh)
    · exact am_exF_rk hk (am_do_rk hd hh)
theorem am_rn_rk {F s : Nat} : ∀ {f k pc : Nat} {L st : List Value} {h : am_H} {q : List Value × List Value × am_H}, am_rn F s f k pc L st h = some q → am_rk h → am_rk q.2.2
  | 0, _, _, _, _, _, _, hx, _ => by cases hx
  | f + 1, k, pc, L, st, h, q, hx, hh => by
    unfold am_rn at hx
    split at hx
    · cases hx; exact hh
    · split at hx
      · cases hx
      · split at hx
        · split at hx
          · split at hx
            · rename_i h4
              split at hx
              · exact am_rn_rk hx (am_exF_rk (am_exF_X h4) hh)
              · cases hx
            · cases hx
          · cases hx
        · split at hx
          · split at hx
            · split at hx
              · rename_i hd; exact am_rn_rk hx (am_do_rk hd hh)
              · cases hx
            · cases hx
          · cases hx
