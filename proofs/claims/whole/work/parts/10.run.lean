/-! A RUN of the machine of numbers is a run of the real one -/
def am_le (h g : am_H) : Prop := h.length ≤ g.length ∧ am_sz h ≤ am_sz g
theorem am_le.rf {h : am_H} : am_le h h := ⟨Nat.le_refl _, Nat.le_refl _⟩
theorem am_le.tr {h g f : am_H} (a : am_le h g) (b : am_le g f) : am_le h f := ⟨Nat.le_trans a.1 b.1, Nat.le_trans a.2 b.2⟩
theorem am_le.app {h g : am_H} : am_le h (h ++ g) := ⟨by rw [List.length_append]; omega, by rw [am_sz_app]; omega⟩
theorem am_le.st {h : am_H} {a : Nat} {c c' : va_E} (hc : h[a]? = some c) (hz : am_cz c' = am_cz c) : am_le h (h.set a c') := ⟨by rw [List.length_set]; exact Nat.le_refl _, by rw [am_sz_set hc hz]; exact Nat.le_refl _⟩
theorem am_prm_le {k o idx pc : Nat} {sp : Bool} {L st : List Value} {h : am_H} {P : am_P} (hd : am_prm k o idx sp pc L st h = some P) : am_le h P.2.2.2 := by
  unfold am_prm at hd
  split at hd
  · split at hd
    · unfold am_obj at hd
      split at hd
      · split at hd
        · cases hd; exact am_le.rf
        · cases hd
      · cases hd
    · cases hd
  · split at hd
    · unfold am_mmx at hd
      split at hd
      · split at hd
        · cases hd; exact am_le.rf
        · cases hd
      · cases hd
    · cases hd
  · split at hd
    · unfold am_cpy at hd
      split at hd
      · split at hd
        · rename_i hb0 ha0
          split at hd
          · cases hd; exact am_le.st ha0 rfl
          · cases hd
        · cases hd
      · cases hd
    · cases hd
  · cases hd
theorem am_gst_le {X : am_X} {o idx pc : Nat} {L st : List Value} {h : am_H} {P : am_P} (hd : am_gst X o idx pc L st h = some P) : am_le h P.2.2.2 := by
  unfold am_gst at hd
  split at hd <;> first | (cases hd; exact am_le.rf) | cases hd
theorem am_new_le {o idx pc : Nat} {L st : List Value} {h : am_H} {P : am_P} (hd : am_new o idx pc L st h = some P) : am_le h P.2.2.2 := by
  unfold am_new at hd
  split at hd
  · split at hd
    · have e1 := (Option.some.inj hd).symm; subst e1; exact am_le.app
    · cases hd
  · cases hd
theorem am_nwa_le {a : ArrayType} {pc : Nat} {L st : List Value} {h : am_H} {P : am_P} (hd : am_nwa a pc L st h = some P) : am_le h P.2.2.2 := by
  unfold am_nwa at hd
  split at hd
  · split at hd
    · split at hd
      · have e1 := (Option.some.inj hd).symm; subst e1; exact am_le.app
      · cases hd
    · cases hd
  · cases hd
theorem am_anw_le {o idx pc : Nat} {L st : List Value} {h : am_H} {P : am_P} (hd : am_anw o idx pc L st h = some P) : am_le h P.2.2.2 := by
  unfold am_anw at hd
  split at hd
  · split at hd
    · split at hd
      · have e1 := (Option.some.inj hd).symm; subst e1; exact am_le.app
      · cases hd
    · cases hd
  · cases hd
theorem am_mnw_le {o idx d pc : Nat} {L st : List Value} {h : am_H} {P : am_P} (hd : am_mnw o idx d pc L st h = some P) : am_le h P.2.2.2 := by
  unfold am_mnw at hd
  split at hd
  · split at hd
    · have e1 := (Option.some.inj hd).symm; subst e1; exact am_le.app
    · cases hd
  · cases hd
theorem am_do_le {X : am_X} {k pc n : Nat} {i : Instr} {L st : List Value} {h : am_H} {P : am_P} (hd : am_do X k pc i n L st h = some P) : am_le h P.2.2.2 := by
  cases i with
  | iadd | isub | imul | iand | ior | ishl | ishr | iushr => obtain ⟨rfl, x, y, r, rfl, rfl⟩ := am_ii_of hd; exact am_le.rf
  | idiv | irem => obtain ⟨rfl, x, y, r, rfl, h0, rfl⟩ := am_id_of hd; exact am_le.rf
  | ladd | lmul | lcmp => obtain ⟨rfl, x, y, r, rfl, rfl⟩ := am_ll_of hd; exact am_le.rf
  | i2l | i2b | i2s | i2c => obtain ⟨rfl, x, r, rfl, rfl⟩ := am_i1_of hd; exact am_le.rf
  | l2i =>
    obtain ⟨rfl, hd⟩ := am_n_of hd
    match st, hd with
    | .long x :: r, hd => cases hd; exact am_le.rf
  | iconst _ | bipush _ | sipush _ | lconst _ | aconst_null => obtain ⟨rfl, rfl⟩ := am_ps_of hd; exact am_le.rf
  | ldc2_w j => obtain ⟨rfl, hd⟩ := am_n_of hd; obtain ⟨v, q, hl, rfl⟩ := am_ld2_of hd; exact am_le.rf
  | iload _ | iload_n _ => obtain ⟨rfl, x, hl, rfl⟩ := am_li1_of hd; exact am_le.rf
  | lload _ | lload_n _ => obtain ⟨rfl, x, hl, rfl⟩ := am_ll1_of hd; exact am_le.rf
  | aload _ | aload_n _ => obtain ⟨rfl, ⟨x, hl, rfl⟩ | ⟨hl, rfl⟩⟩ := am_la1_of hd <;> exact am_le.rf
  | istore _ | istore_n _ => obtain ⟨rfl, x, r, rfl, h1, h2, rfl⟩ := am_si_of hd; exact am_le.rf
  | astore _ | astore_n _ => obtain ⟨rfl, ⟨x, r, rfl, h1, h2, rfl⟩ | ⟨r, rfl, h1, h2, rfl⟩⟩ := am_sr_of hd <;> exact am_le.rf
  | lstore j => obtain ⟨rfl, hd⟩ := am_n_of hd; obtain ⟨x, r, rfl, h1, h2, rfl⟩ := am_sL_of hd; exact am_le.rf
  | iinc j v => obtain ⟨rfl, hd⟩ := am_n_of hd; obtain ⟨x, hl, h1, h2, rfl⟩ := am_inc_of hd; exact am_le.rf
  | dup => obtain ⟨rfl, hd⟩ := am_n_of hd; obtain ⟨v, r, rfl, q, rfl⟩ := am_dup_of hd; exact am_le.rf
  | dup2 => obtain ⟨rfl, hd⟩ := am_n_of hd; obtain ⟨v, w, r, rfl, q1, q2, rfl⟩ := am_dup2_of hd; exact am_le.rf
  | pop => obtain ⟨rfl, hd⟩ := am_n_of hd; obtain ⟨v, r, rfl, q, rfl⟩ := am_pop_of hd; exact am_le.rf
  | goto off => obtain ⟨rfl, hd⟩ := am_n_of hd; obtain ⟨t, ht, rfl⟩ := am_br_of hd; exact am_le.rf
  | ifCond q off => obtain ⟨rfl, hd⟩ := am_n_of hd; obtain ⟨x, r, t, rfl, ht, rfl⟩ := am_ifc_of hd; exact am_le.rf
  | if_icmp q off => obtain ⟨rfl, hd⟩ := am_n_of hd; obtain ⟨x, y, r, t, rfl, ht, rfl⟩ := am_ic_of hd; exact am_le.rf
  | ifnull off | ifnonnull off => obtain ⟨rfl, hd⟩ := am_n_of hd; obtain ⟨r, t, ht, ⟨x, rfl, rfl⟩ | ⟨rfl, rfl⟩⟩ := am_nul_of hd <;> exact am_le.rf
  | tableswitch d lo hi os => obtain ⟨x, r, t, rfl, rfl, q⟩ := am_tab_of hd; exact am_le.rf
  | lookupswitch d ps => obtain ⟨x, r, t, rfl, rfl, q⟩ := am_lks_of hd; exact am_le.rf
  | iaload | baload => obtain ⟨rfl, hd⟩ := am_n_of hd; obtain ⟨_, _, _, _, _, _, rfl, _, _, _, rfl⟩ := am_ald_of hd; exact am_le.rf
  | aaload => obtain ⟨rfl, hd⟩ := am_n_of hd; obtain ⟨_, _, _, _, _, _, rfl, _, _, _, rfl⟩ := am_aal_of hd; exact am_le.rf
  | iastore => obtain ⟨rfl, hd⟩ := am_n_of hd; obtain ⟨_, _, _, _, _, _, rfl, hc, _, rfl⟩ := am_ist_of hd; exact am_le.st hc rfl
  | bastore => obtain ⟨rfl, hd⟩ := am_n_of hd; obtain ⟨_, _, _, _, _, _, _, rfl, hc, _, _, rfl⟩ := am_bst_of hd; exact am_le.st hc rfl
  | aastore => obtain ⟨rfl, hd⟩ := am_n_of hd; obtain ⟨_, _, _, _, _, _, _, _, _, rfl, hc, _, _, _, rfl⟩ := am_aas_of hd; exact am_le.st hc rfl
  | arraylength => obtain ⟨rfl, hd⟩ := am_n_of hd; obtain ⟨_, _, _, _, _, rfl, _, _, rfl⟩ := am_len_of hd; exact am_le.rf
  | getfield j => obtain ⟨rfl, hd⟩ := am_n_of hd; obtain ⟨_, _, _, rfl, rfl, _⟩ := am_gfd_of hd; exact am_le.rf
  | putfield j => obtain ⟨rfl, hd⟩ := am_n_of hd; obtain ⟨_, _, _, _, _, _, _, rfl, _, _, _, _, hc, _, rfl⟩ := am_pfd_of hd; exact am_le.st hc (List.length_set ..)
  | getstatic j => obtain ⟨rfl, hd⟩ := am_n_of hd; exact am_gst_le hd
  | ldc j => obtain ⟨rfl, hd⟩ := am_n_of hd; obtain ⟨_, _, _, rfl⟩ | ⟨_, _, _, _, rfl⟩ := am_ldc_of hd <;> exact am_le.rf
  | ldc_w j => obtain ⟨rfl, hd⟩ := am_n_of hd; obtain ⟨_, _, _, rfl⟩ | ⟨_, _, _, _, rfl⟩ := am_ldc_of hd <;> exact am_le.rf
  | new j => obtain ⟨rfl, hd⟩ := am_n_of hd; exact am_new_le hd
  | newarray a => obtain ⟨rfl, hd⟩ := am_n_of hd; exact am_nwa_le hd
  | anewarray j => obtain ⟨rfl, hd⟩ := am_n_of hd; exact am_anw_le hd
  | multianewarray j d => obtain ⟨rfl, hd⟩ := am_n_of hd; exact am_mnw_le hd
  | invokespecial j => obtain ⟨rfl, hd⟩ := am_n_of hd; exact am_prm_le hd
  | invokestatic j => obtain ⟨rfl, hd⟩ := am_n_of hd; exact am_prm_le hd
  | _ => simp only [am_do] at hd; cases hd
/-- the three ways a run goes on -/
theorem am_ex_of {X : am_X} {f k pc : Nat} {L st : List Value} {h : am_H} {q : am_Q} (hx : am_ex X (f + 1) k pc L st h = some q) :
    (∃ o, am_ret k pc st = some o ∧ q = (o, h)) ∨ (am_ret k pc st = none ∧ ∃ j as r o1 h1, am_call k pc st h = some (j, as, r) ∧ am_fit j as = true ∧ am_ex X f j 0 (am_ent j as) [] h = some (o1, h1) ∧ am_kp h h1 L r = true ∧ am_ex X f k (pc + 3) L (am_push o1 r) h1 = some q) ∨ (am_ret k pc st = none ∧ am_call k pc st h = none ∧ ∃ i n P, am_ins k pc = some (i, n) ∧ am_do X k pc i n L st h = some P ∧ am_ex X f k P.1 P.2.1 P.2.2.1 P.2.2.2 = some q) := by
  unfold am_ex at hx
  split at hx
  · rename_i o ho; exact Or.inl ⟨o, ho, (Option.some.inj hx).symm⟩
  · rename_i ho
    split at hx
    · rename_i j as r hc
      split at hx
      · rename_i hf
        split at hx
        · rename_i o1 h1 he
          split at hx
          · rename_i hk; exact Or.inr (Or.inl ⟨ho, j, as, r, o1, h1, hc, hf, he, hk, hx⟩)
          · cases hx
        · cases hx
      · cases hx
    · rename_i hc
      split at hx
      · rename_i i n hi
        split at hx
        · rename_i p1 p2 p3 p4 hd; exact Or.inr (Or.inr ⟨ho, hc, i, n, (p1, p2, p3, p4), hi, hd, hx⟩)
        · cases hx
      · cases hx
theorem am_ex_le {X : am_X} : ∀ {f k pc : Nat} {L st : List Value} {h : am_H} {q : am_Q}, am_ex X f k pc L st h = some q → am_le h q.2
  | 0, _, _, _, _, _, _, hx => by cases hx
  | f + 1, k, pc, L, st, h, q, hx => by
    rcases am_ex_of hx with ⟨o, _, rfl⟩ | ⟨_, j, as, r, o1, h1, _, _, he, _, hk⟩ | ⟨_, _, i, n, P, _, hd, hk⟩
    · exact am_le.rf
    · exact (am_ex_le he).tr (am_ex_le hk)
    · exact (am_do_le hd).tr (am_ex_le hk)
theorem am_args_mem {σ ρ : Nat → Nat} : ∀ {as : List Value} {i j : Nat} {v : Value}, (am_sl2 as)[j]? = some v → v ≠ am_u → (i + j, am_vR σ ρ v) ∈ lv_args i (as.map (am_vR σ ρ))
  | [], i, j, v, hj, _ => by simp [am_sl2] at hj
  | w :: r, i, j, v, hj, hu => by
    have e : am_sl2 (w :: r) = (if w.category = 2 then [w, am_u] else [w]) ++ am_sl2 r := by simp [am_sl2]
    rw [e] at hj
    show (i + j, am_vR σ ρ v) ∈ (i, am_vR σ ρ w) :: lv_args (if (am_vR σ ρ w).category = 2 then i + 2 else i + 1) (r.map (am_vR σ ρ))
    rw [am_vR_cat]
    by_cases hc : w.category = 2
    · rw [if_pos hc] at hj ⊢
      match j, hj with
      | 0, hj => cases hj; exact List.mem_cons_self
      | 1, hj => cases hj; exact absurd rfl hu
      | j + 2, hj =>
        have := am_args_mem (σ := σ) (ρ := ρ) (as := r) (i := i + 2) (j := j) hj hu
        rw [show i + (j + 2) = i + 2 + j by omega]
        exact List.mem_cons_of_mem _ this
    · rw [if_neg hc] at hj ⊢
      match j, hj with
      | 0, hj => cases hj; exact List.mem_cons_self
      | j + 1, hj =>
        have := am_args_mem (σ := σ) (ρ := ρ) (as := r) (i := i + 1) (j := j) hj hu
        rw [show i + (j + 1) = i + 1 + j by omega]
        exact List.mem_cons_of_mem _ this
theorem am_sl2_len {σ ρ : Nat → Nat} : ∀ {as : List Value}, (lg_sl (as.map (am_vR σ ρ))).length = (am_sl2 as).length
  | [] => rfl
  | w :: r => by
    have ih := am_sl2_len (σ := σ) (ρ := ρ) (as := r)
    simp only [lg_sl, am_sl2, List.map_cons, List.flatMap_cons, List.length_append] at ih ⊢
    rw [ih, am_vR_cat]
    split <;> rfl
theorem am_ent_LR {σ ρ : Nat → Nat} {j : Nat} {as : List Value} (hf : am_fit j as = true) {ls : Array Slot} (hl : lv_has ls (am_ml j) (lv_args 0 (as.map (am_vR σ ρ)))) : am_LR σ ρ ls (am_ent j as) ∧ (am_ent j as).length = am_ml j := by
  have hf : (am_sl2 as).length ≤ am_ml j := of_decide_eq_true hf
  have hlen : (am_ent j as).length = am_ml j := by unfold am_ent; rw [List.length_append, List.length_replicate]; omega
  refine ⟨⟨hl.1.trans hlen.symm, hl.2.1, fun i v hi hu => ?_⟩, hlen⟩
  unfold am_ent at hi
  by_cases hlt : i < (am_sl2 as).length
  · rw [List.getElem?_append_left hlt] at hi
    have := am_args_mem (σ := σ) (ρ := ρ) (i := 0) hi hu
    rw [Nat.zero_add] at this
    exact hl.2.2 _ this
  · rw [List.getElem?_append_right (by omega), List.getElem?_replicate] at hi
    split at hi
    · cases hi; exact absurd rfl hu
    · cases hi
section RUN
variable {X : am_X} {D : va_G} {tid : Nat → ClassId} {σ : Nat → Nat} {l : Launch}
/-- what is to be shown of a fuel -/
def am_OK (X : am_X) (D : va_G) (tid : Nat → ClassId) (σ : Nat → Nat) (l : Launch) (f : Nat) : Prop :=
  ∀ {k pc : Nat} {L st : List Value} {h h' : am_H} {o : Option Value} {ρ : Nat → Nat} {A : Nat → Prop} {p : Program} {e : Env} {R : Room} {s : State} {m : MethodId} {args : Array Value} {below : List Frame} {meth : Method} {c : Code} {H : Heap} {locs : List Loc} {cells slots b z : Nat} {Q : State → Prop} {ls : Array Slot},
    am_ex X f k pc L st h = some (o, h') → am_C X D tid σ A p R s m args meth c k → am_J D tid σ A s k ρ h H locs ls L → am_N cells slots b z h → (h'.length ≤ R.cells + b ∧ am_sz h' ≤ R.slots + z) →
    (∀ (pc' : Nat) (L' st' : List Value) (ρ' : Nat → Nat) (H' : Heap) (locs' : List Loc) (ls' : Array Slot) (cells' slots' : Nat), am_ret k pc' st' = some o → am_ag h.length h'.length ρ ρ' → am_J D tid σ A s k ρ' h' H' locs' ls' L' → am_N cells' slots' b z h' → W p l e R s m args below meth c H' locs' cells' slots' Q (F0 m pc' ls' (st'.map (am_vR σ ρ')))) →
    W p l e R s m args below meth c H locs cells slots Q (F0 m pc ls (st.map (am_vR σ ρ)))
def am_w (j : Nat) : List Cond := .code (am_y j) (am_c j) (am_ml j) (am_rt j) :: am_G
def am_rm (j mc ms : Nat) : Room := { frames := am_fr j, cells := mc, slots := ms, locals := am_lc j }
def am_PP (X : am_X) (D : va_G) (tid : Nat → ClassId) (σ ρ : Nat → Nat) (h : am_H) (sz : Nat) (U : State) : Prop := U.heap.size = sz ∧ h.length ≤ 1000 ∧ va_P D am_cl (am_ws tid σ ρ h) U.heap ∧ va_K D am_cl (am_tys tid) U ∧ va_D (fun _ => True) (am_ws tid σ ρ h) ∧ am_SX X σ (va_A (am_ws tid σ ρ h) sz) U
def am_QQ (D : va_G) (tid : Nat → ClassId) (σ ρ : Nat → Nat) (h h1 : am_H) (o : Option Value) (sz : Nat) : Array Value → State → Outcome → State → Prop := fun _ st oc t =>
  ∃ ρ' : Nat → Nat, oc = .returned (o.map (am_vR σ ρ')) ∧ am_ag h.length h1.length ρ ρ' ∧ h1.length ≤ 1000 ∧ va_P D am_cl (am_ws tid σ ρ' h1) t.heap ∧ va_D (va_A (am_ws tid σ ρ h) sz) (am_ws tid σ ρ' h1) ∧ va_F (va_A (am_ws tid σ ρ h) sz) st t
theorem am_mk_of {j : Nat} (hj : j < 233) : Cond.code (am_y j) (am_c j) (am_ml j) (am_rt j) ∈ am_G ∧ plainName (am_y j).cls = true ∧ (am_y j).cls = am_R (am_oc j) ∧ (am_y j).cls ≠ "java/lang/invoke/MethodHandle" ∧ (am_y j).cls ≠ "java/lang/invoke/VarHandle" ∧ (parseMethodDescriptor (am_y j).desc).map (fun d => d.parameters.length) = some (am_na_ j) := by
  have h := am_mk_ok hj
  simp only [am_mok, Bool.and_eq_true, decide_eq_true_eq] at h
  exact ⟨am_ck_in h.1.1.1.1.1, h.1.1.1.1.2, h.1.1.1.2, h.1.1.2, h.1.2, h.2⟩
theorem am_met {f : Nat} (IH : am_OK X D tid σ l f) {j : Nat} {as : List Value} {h h1 : am_H} {o : Option Value} (hj : j < 233) (hf : am_fit j as = true) (hx : am_ex X f j 0 (am_ent j as) [] h = some (o, h1)) (ρ : Nat → Nat) (sz : Nat) :
    Met l (am_y j) (am_w j) (am_rm j (h1.length - h.length) (am_sz h1 - am_sz h)) (va_Pc (as.map (am_vR σ ρ)) (am_PP X D tid σ ρ h sz)) (am_QQ D tid σ ρ h h1 o sz) (h1.length - h.length) (am_sz h1 - am_sz h) (va_A (am_ws tid σ ρ h) sz) := by
  obtain ⟨k1, k2, k3, k4, k5, k6⟩ := am_mk_of hj
  have hle := am_ex_le hx
  refine Met.ofW (cc := am_c j) (maxL := am_ml j) (ret := am_rt j) k2 rfl ?_
  intro p e s m args below meth c s₁ B hml hv
  obtain ⟨rfl, rfl, hh1000, hP, hK, hD0, hX⟩ := hv
  have hD := hD0.self (sz := s.heap.size)
  have hA : ∀ q : Nat, s.heap.size ≤ q → va_A (am_ws tid σ ρ h) s.heap.size q := fun q h => Or.inr h
  have hts : ∀ w ∈ am_G, w.before (as.map (am_vR σ ρ)).toArray s = true := fun w hw => atoms_spec (ws := am_w j) B.pre w (List.mem_cons_of_mem _ hw)
  have hl := lv_entry (as.map (am_vR σ ρ)) (n := am_ml j) (by rw [am_sl2_len]; exact of_decide_eq_true hf)
  rw [lg_entry_eq]
  obtain ⟨hLR, hlen⟩ := am_ent_LR hf hl
  refine IH hx (b := h.length) (z := am_sz h) ⟨⟨B.exec, B.bytes, hml, B.returns, by rw [← k3]; exact findClass_of_methodNamed B.named, hts, B.notSynchronized, fun q => (name_of_methodNamed B.named B.method).1.trans q⟩, hA, hK, hX, rfl, rfl⟩ ⟨hh1000, hP, hD, va_S.rf, hLR, hlen⟩ ⟨by omega, by omega⟩ ⟨?_, ?_⟩ ?_
  · show h1.length ≤ (h1.length - h.length) + h.length
    omega
  · show am_sz h1 ≤ (am_sz h1 - am_sz h) + am_sz h
    omega
  · intro pc' L' st' ρ' H' locs' ls' cells' slots' hret hag hJ hN
    have ec : cells' = h1.length - h.length := by have := hN.1; omega
    have es : slots' = am_sz h1 - am_sz h := by have := hN.2; omega
    subst ec
    subst es
    have fin : ∀ t : State, t.heap = H' → s.WarmedH t.vm → am_QQ D tid σ ρ h h1 o s.heap.size (as.map (am_vR σ ρ)).toArray s (.returned (o.map (am_vR σ ρ'))) t := fun t ht _ => ⟨ρ', rfl, hag, hJ.1, by rw [ht]; exact hJ.2.1, hJ.2.2.1, hJ.2.2.2.1.F ht⟩
    have hfr := hJ.2.2.2.1.2.2
    unfold am_ret at hret
    split at hret
    · rename_i hi
      have hdg := am_ins_ok hi
      split at hret
      · rename_i v ty hrt
        split at hret
        · rename_i hn
          cases hret
          exact W.zret B.exec B.bytes (B.returns.trans hrt) hn fin hfr hdg B.notSynchronized
        · cases hret
      · cases hret
    · rename_i hi
      have hdg := am_ins_ok hi
      split at hret
      · rename_i hrt
        cases hret
        exact W.vret B.exec B.bytes (B.returns.trans hrt) fin hfr hdg B.notSynchronized
      · cases hret
    · rename_i hi
      have hdg := am_ins_ok hi
      split at hret
      · rename_i a cn hrt
        cases hret
        exact W.aret (v := .ref (am_ad σ ρ' a)) B.exec B.bytes (B.returns.trans hrt) (Or.inl ⟨_, rfl⟩) (Or.inr ⟨_, rfl⟩) fin hfr hdg B.notSynchronized
      · rename_i cn hrt
        cases hret
        exact W.aret (v := .null) B.exec B.bytes (B.returns.trans hrt) (Or.inl ⟨_, rfl⟩) (Or.inl rfl) fin hfr hdg B.notSynchronized
      · cases hret
    · cases hret
end RUN
