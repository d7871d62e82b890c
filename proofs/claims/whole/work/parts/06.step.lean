/-! ONE INSTRUCTION of the machine of numbers is one of the real machine -/
theorem am_ii_of {n pc : Nat} {L st : List Value} {h : am_H} {f : Int32 → Int32 → Int32} {P : am_P} (hd : (if n = 1 then am_ii pc L st h f else none) = some P) : n = 1 ∧ ∃ x y r, st = .int y :: .int x :: r ∧ P = (pc + 1, L, .int (f x y) :: r, h) := by
  split at hd
  · unfold am_ii at hd
    split at hd
    · cases hd; exact ⟨by assumption, _, _, _, rfl, rfl⟩
    · cases hd
  · cases hd
theorem am_id_of {n pc : Nat} {L st : List Value} {h : am_H} {f : Int32 → Int32 → Int32} {P : am_P} (hd : (if n = 1 then am_id pc L st h f else none) = some P) : n = 1 ∧ ∃ x y r, st = .int y :: .int x :: r ∧ ¬ y = 0 ∧ P = (pc + 1, L, .int (f x y) :: r, h) := by
  split at hd
  · unfold am_id at hd
    split at hd
    · split at hd
      · cases hd
      · cases hd; exact ⟨by assumption, _, _, _, rfl, by assumption, rfl⟩
    · cases hd
  · cases hd
theorem am_ll_of {n pc : Nat} {L st : List Value} {h : am_H} {f : Int64 → Int64 → Value} {P : am_P} (hd : (if n = 1 then am_ll pc L st h f else none) = some P) : n = 1 ∧ ∃ x y r, st = .long y :: .long x :: r ∧ P = (pc + 1, L, f x y :: r, h) := by
  split at hd
  · unfold am_ll at hd
    split at hd
    · cases hd; exact ⟨by assumption, _, _, _, rfl, rfl⟩
    · cases hd
  · cases hd
theorem am_i1_of {n pc : Nat} {L st : List Value} {h : am_H} {f : Int32 → Value} {P : am_P} (hd : (if n = 1 then am_i1 pc L st h f else none) = some P) : n = 1 ∧ ∃ x r, st = .int x :: r ∧ P = (pc + 1, L, f x :: r, h) := by
  split at hd
  · unfold am_i1 at hd
    split at hd
    · cases hd; exact ⟨by assumption, _, _, rfl, rfl⟩
    · cases hd
  · cases hd
theorem am_ps_of {n n' pc : Nat} {L st : List Value} {h : am_H} {v : Value} {P : am_P} (hd : (if n = n' then am_ps n' pc L st h v else none) = some P) : n = n' ∧ P = (pc + n', L, v :: st, h) := by
  split at hd
  · cases hd; exact ⟨by assumption, rfl⟩
  · cases hd
theorem am_li1_of {n n' pc i : Nat} {L st : List Value} {h : am_H} {P : am_P} (hd : (if n = n' then am_li1 n' pc i L st h else none) = some P) : n = n' ∧ ∃ x, L[i]? = some (.int x) ∧ P = (pc + n', L, .int x :: st, h) := by
  split at hd
  · unfold am_li1 at hd
    split at hd
    · cases hd; exact ⟨by assumption, _, by assumption, rfl⟩
    · cases hd
  · cases hd
theorem am_ll1_of {n n' pc i : Nat} {L st : List Value} {h : am_H} {P : am_P} (hd : (if n = n' then am_ll1 n' pc i L st h else none) = some P) : n = n' ∧ ∃ x, L[i]? = some (.long x) ∧ P = (pc + n', L, .long x :: st, h) := by
  split at hd
  · unfold am_ll1 at hd
    split at hd
    · cases hd; exact ⟨by assumption, _, by assumption, rfl⟩
    · cases hd
  · cases hd
theorem am_la1_of {n n' pc i : Nat} {L st : List Value} {h : am_H} {P : am_P} (hd : (if n = n' then am_la1 n' pc i L st h else none) = some P) : n = n' ∧ ((∃ x, L[i]? = some (.ref x) ∧ P = (pc + n', L, .ref x :: st, h)) ∨ (L[i]? = some .null ∧ P = (pc + n', L, .null :: st, h))) := by
  split at hd
  · unfold am_la1 at hd
    split at hd
    · cases hd; exact ⟨by assumption, Or.inl ⟨_, by assumption, rfl⟩⟩
    · cases hd; exact ⟨by assumption, Or.inr ⟨by assumption, rfl⟩⟩
    · cases hd
  · cases hd
theorem am_s1_of {n pc i : Nat} {L st : List Value} {h : am_H} {v : Value} {P : am_P} (hd : am_s1 n pc i L st h v = some P) : i < L.length ∧ am_nl i L = true ∧ P = (pc + n, L.set i v, st, h) := by
  unfold am_s1 at hd
  split at hd
  · rename_i q; cases hd; exact ⟨q.1, q.2, rfl⟩
  · cases hd
theorem am_si_of {n n' pc i : Nat} {L st : List Value} {h : am_H} {P : am_P} (hd : (if n = n' then am_si n' pc i L st h else none) = some P) : n = n' ∧ ∃ x r, st = .int x :: r ∧ i < L.length ∧ am_nl i L = true ∧ P = (pc + n', L.set i (.int x), r, h) := by
  split at hd
  · unfold am_si at hd
    split at hd
    · obtain ⟨h1, h2, rfl⟩ := am_s1_of hd; exact ⟨by assumption, _, _, rfl, h1, h2, rfl⟩
    · cases hd
  · cases hd
theorem am_sr_of {n n' pc i : Nat} {L st : List Value} {h : am_H} {P : am_P} (hd : (if n = n' then am_sr n' pc i L st h else none) = some P) : n = n' ∧ ((∃ x r, st = .ref x :: r ∧ i < L.length ∧ am_nl i L = true ∧ P = (pc + n', L.set i (.ref x), r, h)) ∨ (∃ r, st = .null :: r ∧ i < L.length ∧ am_nl i L = true ∧ P = (pc + n', L.set i .null, r, h))) := by
  split at hd
  · unfold am_sr at hd
    split at hd
    · obtain ⟨h1, h2, rfl⟩ := am_s1_of hd; exact ⟨by assumption, Or.inl ⟨_, _, rfl, h1, h2, rfl⟩⟩
    · obtain ⟨h1, h2, rfl⟩ := am_s1_of hd; exact ⟨by assumption, Or.inr ⟨_, rfl, h1, h2, rfl⟩⟩
    · cases hd
  · cases hd
theorem am_tg_of {pc t : Nat} {off : Int} (h : am_tg pc off = some t) : (pc : Int) + off = (t : Int) := by
  unfold am_tg at h
  split at h
  · cases h; omega
  · cases h
theorem am_br_of {pc n : Nat} {off : Int} {q : Bool} {L st : List Value} {h : am_H} {P : am_P} (hd : am_br pc n off q L st h = some P) : ∃ t : Nat, (pc : Int) + off = (t : Int) ∧ P = (if q then t else pc + n, L, st, h) := by
  unfold am_br at hd
  split at hd
  · cases hd; exact ⟨_, am_tg_of (by assumption), rfl⟩
  · cases hd
theorem am_n_of {n q : Nat} {x : Option am_P} {P : am_P} (hd : (if n = q then x else none) = some P) : n = q ∧ x = some P := by
  split at hd
  · exact ⟨by assumption, hd⟩
  · cases hd
theorem am_ld2_of {o j pc : Nat} {L st : List Value} {h : am_H} {P : am_P} (hd : am_ld2 o j pc L st h = some P) : ∃ v q, am_lk am_l2 o j = some (v, q) ∧ P = (pc + 3, L, .long v :: st, h) := by
  unfold am_ld2 at hd
  split at hd
  · rename_i v q hl; cases hd; exact ⟨v, q, hl, rfl⟩
  · cases hd
theorem am_sL_of {n pc i : Nat} {L st : List Value} {h : am_H} {P : am_P} (hd : am_sL n pc i L st h = some P) : ∃ x r, st = .long x :: r ∧ i + 1 < L.length ∧ am_nl i L = true ∧ P = (pc + n, (L.set i (.long x)).set (i + 1) am_u, r, h) := by
  unfold am_sL at hd
  split at hd
  · split at hd
    · rename_i q; cases hd; exact ⟨_, _, rfl, q.1, q.2, rfl⟩
    · cases hd
  · cases hd
theorem am_inc_of {pc i : Nat} {v : Int} {L st : List Value} {h : am_H} {P : am_P} (hd : am_inc pc i v L st h = some P) : ∃ x, L[i]? = some (.int x) ∧ i < L.length ∧ am_nl i L = true ∧ P = (pc + 3, L.set i (.int (x + Int32.ofInt v)), st, h) := by
  unfold am_inc at hd
  split at hd
  · rename_i x hl; obtain ⟨h1, h2, rfl⟩ := am_s1_of hd; exact ⟨x, hl, h1, h2, rfl⟩
  · cases hd
theorem am_dup_of {pc : Nat} {L st : List Value} {h : am_H} {P : am_P} (hd : am_dup pc L st h = some P) : ∃ v r, st = v :: r ∧ v.category = 1 ∧ P = (pc + 1, L, v :: v :: r, h) := by
  unfold am_dup at hd
  split at hd
  · split at hd
    · rename_i q; cases hd; exact ⟨_, _, rfl, q, rfl⟩
    · cases hd
  · cases hd
theorem am_pop_of {pc : Nat} {L st : List Value} {h : am_H} {P : am_P} (hd : am_pop pc L st h = some P) : ∃ v r, st = v :: r ∧ v.category = 1 ∧ P = (pc + 1, L, r, h) := by
  unfold am_pop at hd
  split at hd
  · split at hd
    · rename_i q; cases hd; exact ⟨_, _, rfl, q, rfl⟩
    · cases hd
  · cases hd
theorem am_dup2_of {pc : Nat} {L st : List Value} {h : am_H} {P : am_P} (hd : am_dup2 pc L st h = some P) : ∃ v w r, st = v :: w :: r ∧ v.category = 1 ∧ w.category = 1 ∧ P = (pc + 1, L, v :: w :: v :: w :: r, h) := by
  unfold am_dup2 at hd
  split at hd
  · split at hd
    · rename_i q; cases hd; exact ⟨_, _, _, rfl, q.1, q.2, rfl⟩
    · cases hd
  · cases hd
theorem am_ifc_of {q : Jvm.ClassFile.Cond} {pc : Nat} {off : Int} {L st : List Value} {h : am_H} {P : am_P} (hd : am_if q pc off L st h = some P) : ∃ (x : Int32) (r : List Value) (t : Nat), st = .int x :: r ∧ (pc : Int) + off = (t : Int) ∧ P = (if am_cb q x 0 then t else pc + 3, L, r, h) := by
  unfold am_if at hd
  split at hd
  · obtain ⟨t, h1, h2⟩ := am_br_of hd; exact ⟨_, _, t, rfl, h1, h2⟩
  · cases hd
theorem am_ic_of {q : Jvm.ClassFile.Cond} {pc : Nat} {off : Int} {L st : List Value} {h : am_H} {P : am_P} (hd : am_ic q pc off L st h = some P) : ∃ (x y : Int32) (r : List Value) (t : Nat), st = .int y :: .int x :: r ∧ (pc : Int) + off = (t : Int) ∧ P = (if am_cb q x y then t else pc + 3, L, r, h) := by
  unfold am_ic at hd
  split at hd
  · obtain ⟨t, h1, h2⟩ := am_br_of hd; exact ⟨_, _, _, t, rfl, h1, h2⟩
  · cases hd
theorem am_nul_of {q : Bool} {pc : Nat} {off : Int} {L st : List Value} {h : am_H} {P : am_P} (hd : am_nul q pc off L st h = some P) : ∃ (r : List Value) (t : Nat), (pc : Int) + off = (t : Int) ∧ ((∃ x, st = .ref x :: r ∧ P = (if (!q) then t else pc + 3, L, r, h)) ∨ (st = .null :: r ∧ P = (if q then t else pc + 3, L, r, h))) := by
  unfold am_nul at hd
  split at hd
  · obtain ⟨t, h1, h2⟩ := am_br_of hd; exact ⟨_, t, h1, Or.inl ⟨_, rfl, h2⟩⟩
  · obtain ⟨t, h1, h2⟩ := am_br_of hd; exact ⟨_, t, h1, Or.inr ⟨rfl, h2⟩⟩
  · cases hd
theorem am_tab_of {pc : Nat} {d lo hi : Int} {os : Array Int} {L st : List Value} {h : am_H} {P : am_P} (hd : am_tab pc d lo hi os L st h = some P) : ∃ (x : Int32) (r : List Value) (t : Nat), st = .int x :: r ∧ P = (t, L, r, h) ∧ (((x.toInt < lo ∨ hi < x.toInt) ∧ (pc : Int) + d = (t : Int)) ∨ (¬ (x.toInt < lo ∨ hi < x.toInt) ∧ ∃ o, os[(x.toInt - lo).toNat]? = some o ∧ (pc : Int) + o = (t : Int))) := by
  unfold am_tab at hd
  split at hd
  · split at hd
    · rename_i q; obtain ⟨t, h1, h2⟩ := am_br_of hd; exact ⟨_, _, t, rfl, h2, Or.inl ⟨q, h1⟩⟩
    · rename_i q
      split at hd
      · rename_i o ho; obtain ⟨t, h1, h2⟩ := am_br_of hd; exact ⟨_, _, t, rfl, h2, Or.inr ⟨q, o, ho, h1⟩⟩
      · cases hd
  · cases hd
theorem am_lks_of {pc : Nat} {d : Int} {ps : Array (Int × Int)} {L st : List Value} {h : am_H} {P : am_P} (hd : am_lks pc d ps L st h = some P) : ∃ (x : Int32) (r : List Value) (t : Nat), st = .int x :: r ∧ P = (t, L, r, h) ∧ (ps.toList.zip (ps.toList.drop 1)).all (fun (a, next) => a.1 < next.1) = true ∧ (pc : Int) + Op.lookupswitch.offset ps.toList d x.toInt = (t : Int) := by
  unfold am_lks at hd
  split at hd
  · split at hd
    · rename_i q; obtain ⟨t, h1, h2⟩ := am_br_of hd; exact ⟨_, _, t, rfl, h2, q, h1⟩
    · cases hd
  · cases hd
/-- what touches the cells, or is a call -/
def am_hard (i : Instr) : Bool := match i with
  | .iaload => true
  | .baload => true
  | .aaload => true
  | .iastore => true
  | .bastore => true
  | .aastore => true
  | .arraylength => true
  | .getfield _ => true
  | .putfield _ => true
  | .getstatic _ => true
  | .new _ => true
  | .newarray _ => true
  | .anewarray _ => true
  | .multianewarray _ _ => true
  | .invokespecial _ => true
  | .invokestatic _ => true
  | .ldc _ => true
  | .ldc_w _ => true
  | _ => false
section SND
variable {X : am_X} {D : va_G} {tid : Nat → ClassId} {σ ρ : Nat → Nat} {A : Nat → Prop} {p : Program} {l : Launch} {e : Env} {R : Room} {s : State} {m : MethodId} {args : Array Value} {below : List Frame} {meth : Method} {c : Code} {H : Heap} {locs : List Loc} {cells slots : Nat} {Q : State → Prop} {k pc b z n : Nat} {ls : Array Slot} {L st : List Value} {h : am_H} {P : am_P}
def am_C (X : am_X) (D : va_G) (tid : Nat → ClassId) (σ : Nat → Nat) (A : Nat → Prop) (p : Program) (R : Room) (s : State) (m : MethodId) (args : Array Value) (meth : Method) (c : Code) (k : Nat) : Prop :=
  (p.tables.exec = Jvm.exec ∧ c.code = am_c k ∧ c.maxLocals = am_ml k ∧ meth.sig.returnType = am_rt k ∧ s.vm.findClass (am_R (am_oc k)) = some m.cls ∧ (∀ w ∈ am_G, w.before args s = true) ∧ meth.locks = false ∧ ((am_y k).name = "<init>" → meth.name = "<init>")) ∧ (∀ q, s.heap.size ≤ q → A q) ∧ va_K D am_cl (am_tys tid) s ∧ am_SX X σ A s ∧ R.frames = am_fr k ∧ R.locals = am_lc k
def am_J (D : va_G) (tid : Nat → ClassId) (σ : Nat → Nat) (A : Nat → Prop) (s : State) (k : Nat) (ρ : Nat → Nat) (h : am_H) (H : Heap) (locs : List Loc) (ls : Array Slot) (L : List Value) : Prop := h.length ≤ 1000 ∧ va_P D am_cl (am_ws tid σ ρ h) H ∧ va_D A (am_ws tid σ ρ h) ∧ va_S A s.heap H locs ∧ am_LR σ ρ ls L ∧ L.length = am_ml k
def am_N (cells slots b z : Nat) (h : am_H) : Prop := cells + b = h.length ∧ slots + z = am_sz h
def am_KK (D : va_G) (tid : Nat → ClassId) (σ : Nat → Nat) (A : Nat → Prop) (p : Program) (l : Launch) (e : Env) (R : Room) (s : State) (m : MethodId) (args : Array Value) (below : List Frame) (meth : Method) (c : Code) (Q : State → Prop) (k b z : Nat) (ρ : Nat → Nat) (h : am_H) (P : am_P) : Prop :=
  ∀ (ρ' : Nat → Nat) (H' : Heap) (locs' : List Loc) (ls' : Array Slot) (cells' slots' : Nat), am_ag h.length P.2.2.2.length ρ ρ' → am_J D tid σ A s k ρ' P.2.2.2 H' locs' ls' P.2.1 → am_N cells' slots' b z P.2.2.2 → W p l e R s m args below meth c H' locs' cells' slots' Q (F0 m P.1 ls' (P.2.2.1.map (am_vR σ ρ')))
theorem am_KK.sta (kk : am_KK D tid σ A p l e R s m args below meth c Q k b z ρ h P) (hJ : am_J D tid σ A s k ρ h H locs ls L) (hN : am_N cells slots b z h) {pc' : Nat} {st' : List Value} (e1 : P = (pc', L, st', h)) : W p l e R s m args below meth c H locs cells slots Q (F0 m pc' ls (st'.map (am_vR σ ρ))) := by
  subst e1
  exact kk ρ H locs ls cells slots am_ag.rf hJ hN
theorem am_KK.lo (kk : am_KK D tid σ A p l e R s m args below meth c Q k b z ρ h P) (hJ : am_J D tid σ A s k ρ h H locs ls L) (hN : am_N cells slots b z h) {pc' : Nat} {L' st' : List Value} {ls' : Array Slot} (e1 : P = (pc', L', st', h)) (hL : am_LR σ ρ ls' L') (he : L'.length = L.length) : W p l e R s m args below meth c H locs cells slots Q (F0 m pc' ls' (st'.map (am_vR σ ρ))) := by
  subst e1
  exact kk ρ H locs ls' cells slots am_ag.rf ⟨hJ.1, hJ.2.1, hJ.2.2.1, hJ.2.2.2.1, hL, by rw [he]; exact hJ.2.2.2.2.2⟩ hN
/-- arithmetic, constants, locals, stack, branches -/
theorem am_snd1 {i : Instr} (hC : am_C X D tid σ A p R s m args meth c k) (hi : am_ins k pc = some (i, n)) (hd : am_do X k pc i n L st h = some P) (hJ : am_J D tid σ A s k ρ h H locs ls L) (hN : am_N cells slots b z h) (kk : am_KK D tid σ A p l e R s m args below meth c Q k b z ρ h P)
    (rest : am_hard i = true → W p l e R s m args below meth c H locs cells slots Q (F0 m pc ls (st.map (am_vR σ ρ)))) : W p l e R s m args below meth c H locs cells slots Q (F0 m pc ls (st.map (am_vR σ ρ))) := by
  have hdg := am_ins_ok hi
  obtain ⟨⟨hx, hb, hml, hr, hown, hts, hlocks, hnm⟩, hA, hK, hX, hRf, hRl⟩ := hC
  have hLR := hJ.2.2.2.2.1
  cases i with
  | iadd => obtain ⟨rfl, x, y, r, rfl, e1⟩ := am_ii_of hd; exact lv_iadd hx hb hdg (kk.sta hJ hN e1)
  | isub => obtain ⟨rfl, x, y, r, rfl, e1⟩ := am_ii_of hd; exact lv_isub hx hb hdg (kk.sta hJ hN e1)
  | imul => obtain ⟨rfl, x, y, r, rfl, e1⟩ := am_ii_of hd; exact lv_imul hx hb hdg (kk.sta hJ hN e1)
  | iand => obtain ⟨rfl, x, y, r, rfl, e1⟩ := am_ii_of hd; exact lv_iand hx hb hdg (kk.sta hJ hN e1)
  | ior => obtain ⟨rfl, x, y, r, rfl, e1⟩ := am_ii_of hd; exact lv_ior hx hb hdg (kk.sta hJ hN e1)
  | ishl => obtain ⟨rfl, x, y, r, rfl, e1⟩ := am_ii_of hd; exact lv_ishl hx hb hdg (kk.sta hJ hN e1)
  | ishr => obtain ⟨rfl, x, y, r, rfl, e1⟩ := am_ii_of hd; exact lv_ishr hx hb hdg (kk.sta hJ hN e1)
  | iushr => obtain ⟨rfl, x, y, r, rfl, e1⟩ := am_ii_of hd; exact lv_iushr hx hb hdg rfl (kk.sta hJ hN e1)
  | idiv => obtain ⟨rfl, x, y, r, rfl, h0, e1⟩ := am_id_of hd; exact lv_idiv hx hb hdg h0 (kk.sta hJ hN e1)
  | irem => obtain ⟨rfl, x, y, r, rfl, h0, e1⟩ := am_id_of hd; exact lv_irem hx hb hdg h0 (kk.sta hJ hN e1)
  | ladd => obtain ⟨rfl, x, y, r, rfl, e1⟩ := am_ll_of hd; exact lv_ladd hx hb hdg (kk.sta hJ hN e1)
  | lmul => obtain ⟨rfl, x, y, r, rfl, e1⟩ := am_ll_of hd; exact lv_lmul hx hb hdg (kk.sta hJ hN e1)
  | lcmp => obtain ⟨rfl, x, y, r, rfl, e1⟩ := am_ll_of hd; exact W.lcmp hx hb hdg (kk.sta hJ hN e1)
  | i2l => obtain ⟨rfl, x, r, rfl, e1⟩ := am_i1_of hd; exact lv_i2l hx hb hdg rfl (kk.sta hJ hN e1)
  | i2b => obtain ⟨rfl, x, r, rfl, e1⟩ := am_i1_of hd; exact lv_i2b hx hb hdg rfl (kk.sta hJ hN e1)
  | i2s => obtain ⟨rfl, x, r, rfl, e1⟩ := am_i1_of hd; exact lv_i2s hx hb hdg rfl (kk.sta hJ hN e1)
  | i2c => obtain ⟨rfl, x, r, rfl, e1⟩ := am_i1_of hd; exact lv_i2c hx hb hdg rfl (kk.sta hJ hN e1)
  | l2i =>
    obtain ⟨rfl, hd⟩ := am_n_of hd
    match st, hd with
    | .long x :: r, hd => exact lv_l2i hx hb hdg rfl (kk.sta hJ hN (Option.some.inj hd).symm)
  | iconst v => obtain ⟨rfl, e1⟩ := am_ps_of hd; exact lv_iconst hx hb hdg rfl (kk.sta hJ hN e1)
  | bipush v => obtain ⟨rfl, e1⟩ := am_ps_of hd; exact lv_bipush hx hb hdg rfl (kk.sta hJ hN e1)
  | sipush v => obtain ⟨rfl, e1⟩ := am_ps_of hd; exact lv_sipush hx hb hdg rfl (kk.sta hJ hN e1)
  | lconst v => obtain ⟨rfl, e1⟩ := am_ps_of hd; exact lv_lconst hx hb hdg rfl (kk.sta hJ hN e1)
  | aconst_null => obtain ⟨rfl, e1⟩ := am_ps_of hd; exact lv_null hx hb hdg (kk.sta hJ hN e1)
  | ldc2_w j =>
    obtain ⟨rfl, hd⟩ := am_n_of hd
    obtain ⟨v, q, hl, e1⟩ := am_ld2_of hd
    exact lv_ldc2 hx hb hown (hts _ (am_ck_in (List.all_eq_true.mp am_l2_all _ (am_lk_mem hl)))) hdg (kk.sta hJ hN e1)
  | iload j => obtain ⟨rfl, x, hl, e1⟩ := am_li1_of hd; exact lv_iload hx hb hdg (hLR.2.2 _ _ hl (fun q => by cases q)) (kk.sta hJ hN e1)
  | iload_n j => obtain ⟨rfl, x, hl, e1⟩ := am_li1_of hd; exact lv_iload_n hx hb hdg rfl (hLR.2.2 _ _ hl (fun q => by cases q)) (kk.sta hJ hN e1)
  | lload j => obtain ⟨rfl, x, hl, e1⟩ := am_ll1_of hd; exact lv_lload hx hb hdg (hLR.2.2 _ _ hl (fun q => by cases q)) (kk.sta hJ hN e1)
  | lload_n j => obtain ⟨rfl, x, hl, e1⟩ := am_ll1_of hd; exact lv_lload_n hx hb hdg rfl (hLR.2.2 _ _ hl (fun q => by cases q)) (kk.sta hJ hN e1)
  | aload j =>
    obtain ⟨rfl, ⟨x, hl, e1⟩ | ⟨hl, e1⟩⟩ := am_la1_of hd
    · exact lv_aload hx hb hdg (hLR.2.2 _ _ hl (fun q => by cases q)) (kk.sta hJ hN e1)
    · exact lv_aloadN hx hb hdg (hLR.2.2 _ _ hl (fun q => by cases q)) (kk.sta hJ hN e1)
  | aload_n j =>
    obtain ⟨rfl, ⟨x, hl, e1⟩ | ⟨hl, e1⟩⟩ := am_la1_of hd
    · exact lv_aload_n hx hb hdg rfl (hLR.2.2 _ _ hl (fun q => by cases q)) (kk.sta hJ hN e1)
    · exact lv_aload_nN hx hb hdg rfl (hLR.2.2 _ _ hl (fun q => by cases q)) (kk.sta hJ hN e1)
  | istore j => obtain ⟨rfl, x, r, rfl, h1, h2, e1⟩ := am_si_of hd; exact lv_istore hx hb hdg hLR.has h1 rfl (fun ls' h9 => kk.lo hJ hN e1 (am_LR.set1 (v := .int x) h1 h2 h9) (List.length_set ..))
  | istore_n j => obtain ⟨rfl, x, r, rfl, h1, h2, e1⟩ := am_si_of hd; exact lv_istore_n hx hb hdg rfl hLR.has h1 rfl (fun ls' h9 => kk.lo hJ hN e1 (am_LR.set1 (v := .int x) h1 h2 h9) (List.length_set ..))
  | astore j =>
    obtain ⟨rfl, ⟨x, r, rfl, h1, h2, e1⟩ | ⟨r, rfl, h1, h2, e1⟩⟩ := am_sr_of hd
    · exact lv_astore hx hb hdg hLR.has h1 rfl (fun ls' h9 => kk.lo hJ hN e1 (am_LR.set1 (v := .ref x) h1 h2 h9) (List.length_set ..))
    · exact lv_astoreN hx hb hdg hLR.has h1 rfl (fun ls' h9 => kk.lo hJ hN e1 (am_LR.set1 (v := .null) h1 h2 h9) (List.length_set ..))
  | astore_n j =>
    obtain ⟨rfl, ⟨x, r, rfl, h1, h2, e1⟩ | ⟨r, rfl, h1, h2, e1⟩⟩ := am_sr_of hd
    · exact lv_astore_n hx hb hdg rfl hLR.has h1 rfl (fun ls' h9 => kk.lo hJ hN e1 (am_LR.set1 (v := .ref x) h1 h2 h9) (List.length_set ..))
    · exact lv_astore_nN hx hb hdg rfl hLR.has h1 rfl (fun ls' h9 => kk.lo hJ hN e1 (am_LR.set1 (v := .null) h1 h2 h9) (List.length_set ..))
  | lstore j =>
    obtain ⟨rfl, hd⟩ := am_n_of hd
    obtain ⟨x, r, rfl, h1, h2, e1⟩ := am_sL_of hd
    exact lv_lstore hx hb hdg hLR.has h1 rfl (fun ls' h9 => kk.lo hJ hN e1 (am_LR.set2 (v := .long x) h1 h2 h9) (by rw [List.length_set, List.length_set]))
  | iinc j v =>
    obtain ⟨rfl, hd⟩ := am_n_of hd
    obtain ⟨x, hl, h1, h2, e1⟩ := am_inc_of hd
    obtain ⟨q, hq⟩ := List.getElem?_of_mem (am_as_mem (σ := σ) (ρ := ρ) (L := L) (i := 0) (q := (0 + j, .int x)) |>.mpr ⟨j, .int x, hl, (fun q => by cases q), rfl⟩)
    rw [Nat.zero_add] at hq
    exact lv_iinc hx hb hdg hLR.has hq rfl h1 rfl (fun ls' h9 => kk.lo hJ hN e1 (am_LR.set1 (v := .int _) h1 h2 h9) (List.length_set ..))
  | dup =>
    obtain ⟨rfl, hd⟩ := am_n_of hd
    obtain ⟨v, r, rfl, q, e1⟩ := am_dup_of hd
    exact lv_dup hx hb hdg (by rw [am_vR_cat]; exact q) (kk.sta hJ hN e1)
  | dup2 =>
    obtain ⟨rfl, hd⟩ := am_n_of hd
    obtain ⟨v, w, r, rfl, q1, q2, e1⟩ := am_dup2_of hd
    exact lv_dup2_11 hx hb hdg (by rw [am_vR_cat]; exact q1) (by rw [am_vR_cat]; exact q2) (kk.sta hJ hN e1)
  | pop =>
    obtain ⟨rfl, hd⟩ := am_n_of hd
    obtain ⟨v, r, rfl, q, e1⟩ := am_pop_of hd
    exact lv_pop hx hb hdg (by rw [am_vR_cat]; exact q) (kk.sta hJ hN e1)
  | goto off =>
    obtain ⟨rfl, hd⟩ := am_n_of hd
    obtain ⟨t, ht, e1⟩ := am_br_of hd
    exact lv_goto hx hb hdg ht (kk.sta hJ hN e1)
  | ifCond q off =>
    obtain ⟨rfl, hd⟩ := am_n_of hd
    obtain ⟨x, r, t, rfl, ht, e1⟩ := am_ifc_of hd
    cases q with
    | eq => exact lv_if_eq hx hb hdg ht (fun q => kk.sta hJ hN (by rw [e1, am_cb, decide_eq_true q]; rfl)) (fun q => kk.sta hJ hN (by rw [e1, am_cb, decide_eq_false q]; rfl))
    | ne => exact lv_if_ne hx hb hdg ht (fun q => kk.sta hJ hN (by rw [e1, am_cb, decide_eq_true q]; rfl)) (fun q => kk.sta hJ hN (by rw [e1, am_cb, decide_eq_false (fun z => z q)]; rfl))
    | lt => exact lv_if_lt hx hb hdg ht (fun q => kk.sta hJ hN (by rw [e1, am_cb, decide_eq_true q]; rfl)) (fun q => kk.sta hJ hN (by rw [e1, am_cb, decide_eq_false q]; rfl))
    | ge => exact lv_if_ge hx hb hdg ht (fun q => kk.sta hJ hN (by rw [e1, am_cb, decide_eq_true q]; rfl)) (fun q => kk.sta hJ hN (by rw [e1, am_cb, decide_eq_false q]; rfl))
    | gt => exact lv_if_gt hx hb hdg ht (fun q => kk.sta hJ hN (by rw [e1, am_cb, decide_eq_true q]; rfl)) (fun q => kk.sta hJ hN (by rw [e1, am_cb, decide_eq_false q]; rfl))
    | le => exact lv_if_le hx hb hdg ht (fun q => kk.sta hJ hN (by rw [e1, am_cb, decide_eq_true q]; rfl)) (fun q => kk.sta hJ hN (by rw [e1, am_cb, decide_eq_false q]; rfl))
  | if_icmp q off =>
    obtain ⟨rfl, hd⟩ := am_n_of hd
    obtain ⟨x, y, r, t, rfl, ht, e1⟩ := am_ic_of hd
    cases q with
    | eq => exact lv_icmp_eq hx hb hdg ht (fun q => kk.sta hJ hN (by rw [e1, am_cb, decide_eq_true q]; rfl)) (fun q => kk.sta hJ hN (by rw [e1, am_cb, decide_eq_false q]; rfl))
    | ne => exact lv_icmp_ne hx hb hdg ht (fun q => kk.sta hJ hN (by rw [e1, am_cb, decide_eq_true q]; rfl)) (fun q => kk.sta hJ hN (by rw [e1, am_cb, decide_eq_false (fun z => z q)]; rfl))
    | lt => exact lv_icmp_lt hx hb hdg ht (fun q => kk.sta hJ hN (by rw [e1, am_cb, decide_eq_true q]; rfl)) (fun q => kk.sta hJ hN (by rw [e1, am_cb, decide_eq_false q]; rfl))
    | ge => exact lv_icmp_ge hx hb hdg ht (fun q => kk.sta hJ hN (by rw [e1, am_cb, decide_eq_true q]; rfl)) (fun q => kk.sta hJ hN (by rw [e1, am_cb, decide_eq_false q]; rfl))
    | gt => exact lv_icmp_gt hx hb hdg ht (fun q => kk.sta hJ hN (by rw [e1, am_cb, decide_eq_true q]; rfl)) (fun q => kk.sta hJ hN (by rw [e1, am_cb, decide_eq_false q]; rfl))
    | le => exact lv_icmp_le hx hb hdg ht (fun q => kk.sta hJ hN (by rw [e1, am_cb, decide_eq_true q]; rfl)) (fun q => kk.sta hJ hN (by rw [e1, am_cb, decide_eq_false q]; rfl))
  | ifnull off =>
    obtain ⟨rfl, hd⟩ := am_n_of hd
    obtain ⟨r, t, ht, ⟨x, rfl, e1⟩ | ⟨rfl, e1⟩⟩ := am_nul_of hd
    · exact lv_ifnull hx hb hdg (kk.sta hJ hN e1)
    · exact lv_ifnullN hx hb hdg ht (kk.sta hJ hN e1)
  | ifnonnull off =>
    obtain ⟨rfl, hd⟩ := am_n_of hd
    obtain ⟨r, t, ht, ⟨x, rfl, e1⟩ | ⟨rfl, e1⟩⟩ := am_nul_of hd
    · exact lv_ifnonnull hx hb hdg ht (kk.sta hJ hN e1)
    · exact lv_ifnonnullN hx hb hdg (kk.sta hJ hN e1)
  | tableswitch d lo hi os =>
    obtain ⟨x, r, t, rfl, e1, ⟨q, ht⟩ | ⟨q, o, ho, ht⟩⟩ := am_tab_of hd
    · exact lv_tableOut hx hb hdg q ht (kk.sta hJ hN e1)
    · exact lv_tableIn hx hb hdg (fun z => q (Or.inl z)) (fun z => q (Or.inr z)) ho ht (kk.sta hJ hN e1)
  | lookupswitch d ps =>
    obtain ⟨x, r, t, rfl, e1, q, ht⟩ := am_lks_of hd
    exact lv_lookup hx hb hdg q rfl ht (kk.sta hJ hN e1)
  | _ => first | exact rest rfl | (simp only [am_do] at hd; cases hd)
end SND
