/-! THE CLAIM OUT OF ONE WALK OF THE LAW'S BODY. Your part is whole_start (and what it stands on); all else here is the same for every law, but numbers. -/
def R_law : String := "GridTracksLaw"
def lw_P (b : Addr) (xs : List Int32) (args : Array Value) (s : State) : Prop := args = #[.ref b] ∧ s.IntsAt b xs ∧ xs.length ≤ 2560 ∧ (Jvm.Cond.and given_1 narrow_1).before args s = true
def lw_Q (_ : Array Value) (s : State) (o : Outcome) (t : State) : Prop := o = .returned (some (.int 1)) ∧ Framed s o t [] 600000 7302250
def lw_Z (below : List Frame) (a : Array Value) (s : State) : State → Prop := fun t => ∃ o, t.status = .running ∧ Ended t below o ∧ lw_Q a s o t
/-- the law's own end, with 1 on the stack, nothing written that was there before, its room as the claim has it -/
theorem lw_ret {p : Program} {l : Launch} {e : Env} {s : State} {m : MethodId} {below : List Frame} {meth : Method} {c : Code} {b : Nat} (hx : p.tables.exec = Jvm.exec) (hb : c.code = code) (hr : meth.sig.returnType = ret) (hlocks : meth.locks = false) {pc : Nat} {H : Heap} {ls : Array Slot} (hdg : decode code pc = .ok (.ireturn, 1)) : W p l e room_1 s m #[Value.ref b] below meth c H [] 600000 7302250 (lw_Z below #[Value.ref b] s) (F0 m pc ls [.int 1]) := by
  intro T hT X
  obtain ⟨fs, hret, hrun, hended, hW, hframe⟩ := X.leave (v := some (.int 1)) (hlocks := hlocks) (fun h => by rw [hr] at h; cases h)
  have hmeth' : T.vm.method? m = some meth := X.method'
  refine ⟨T.setFrames fs, ?_, .returned (some (.int 1)), hrun, hended, rfl, ⟨_, rfl⟩, hW, hframe⟩
  jvm_step X.here [X.here.top, hx, hb, hdg, hmeth', hr, ret, narrow_b1]
  (try refine ⟨rfl, ?_⟩); (try refine ⟨rfl, ?_⟩)
  first | (intro acts; rw [hret _ acts rfl rfl rfl]) | rw [hret _ _ rfl rfl rfl]
  exact Steps.refl _
/-- what holds at the law's entry: the machine, the code, the tables' words (any of lw_tbl by 'hts w (by decide +kernel)'), the script of L ints xs at the cell b, what the Statement gives of the start (any of its parts by flat_of_before) -/
def lw_At (p : Program) (s : State) (m : MethodId) (meth : Method) (c : Code) (b L : Nat) (xs : Nat → Int32) : Prop :=
  p.tables.exec = Jvm.exec ∧ c.code = code ∧ meth.sig.returnType = ret ∧ c.maxLocals = 4 ∧ s.vm.findClass R_law = some m.cls ∧ (∀ w ∈ lw_tbl, w.before #[Value.ref b] s = true) ∧ va_X b L xs s s.heap ∧ b < s.heap.size ∧ meth.locks = false ∧ (Jvm.Cond.and given_1 narrow_1).before #[Value.ref b] s = true
/-! THE LAW'S ENTRY: what stands there, for the machine of numbers -/
def am_six (i : Nat) : Nat := (am_ls.map fun e => e.1.2).getD i 0
def am_tm (i : Nat) : Term := .string "GridTracks$Teller" (am_six i)
def am_gv : List Cond := flatC (Jvm.Cond.and given_1 narrow_1)
theorem am_g1 : ∀ i, i < 13 → Cond.exactly (am_tm i) "java/lang/String" ∈ am_gv := by decide +kernel
theorem am_g2 : ∀ i, i < 13 → Cond.eq (.field (am_tm i) "java/lang/String" "coder" "B") (.int 0) ∈ am_gv := by decide +kernel
theorem am_g3 : ∀ i, i < 13 → Cond.arrayOf (.field (am_tm i) "java/lang/String" "value" "[B") .byte ∈ am_gv := by decide +kernel
theorem am_g4 : ∀ i, i < 13 → Cond.eq (.length (.field (am_tm i) "java/lang/String" "value" "[B")) (.int (Int32.ofNat (am_sl.getD i 0))) ∈ am_gv := by decide +kernel
theorem am_g5 : ∀ i, i < 13 → ∀ j, j < am_sl.getD i 0 → Cond.eq (.elem (.field (am_tm i) "java/lang/String" "value" "[B") (.int (Int32.ofNat j))) (.int ((am_sb.getD i []).getD j 0)) ∈ am_gv := by decide +kernel
def am_ne : List (Nat × Nat × Nat) := [(0, 1, 61), (0, 2, 69), (0, 3, 79), (0, 4, 90), (0, 5, 101), (0, 6, 115), (0, 7, 129), (0, 8, 144), (0, 9, 160), (0, 10, 176), (0, 11, 192), (0, 12, 210), (1, 2, 70), (1, 3, 80), (1, 4, 91), (1, 5, 102), (1, 6, 116), (1, 7, 130), (1, 8, 145), (1, 9, 161), (1, 10, 177), (1, 11, 193), (1, 12, 211), (2, 3, 81), (2, 4, 92), (2, 5, 103), (2, 6, 117), (2, 7, 131), (2, 8, 146), (2, 9, 162), (2, 10, 178), (2, 11, 194), (2, 12, 212), (3, 4, 93), (3, 5, 104), (3, 6, 118), (3, 7, 132), (3, 8, 147), (3, 9, 163), (3, 10, 179), (3, 11, 195), (3, 12, 213), (4, 5, 105), (4, 6, 119), (4, 7, 133), (4, 8, 148), (4, 9, 164), (4, 10, 180), (4, 11, 196), (4, 12, 214), (5, 6, 120), (5, 7, 134), (5, 8, 149), (5, 9, 165), (5, 10, 181), (5, 11, 197), (5, 12, 215), (6, 7, 135), (6, 8, 150), (6, 9, 166), (6, 10, 182), (6, 11, 198), (6, 12, 216), (7, 8, 151), (7, 9, 167), (7, 10, 183), (7, 11, 199), (7, 12, 217), (8, 9, 168), (8, 10, 184), (8, 11, 200), (8, 12, 218), (9, 10, 185), (9, 11, 201), (9, 12, 219), (10, 11, 202), (10, 12, 220), (11, 12, 221)]
theorem am_ne_all : am_ne.all (fun e => decide (am_gv[e.2.2]? = some (Cond.not (Cond.eq (am_tm e.1) (am_tm e.2.1))))) = true := by decide +kernel
theorem am_ne_has : ∀ i, i < 13 → ∀ j, j < 13 → i < j → (am_ne.any fun e => decide (e.1 = i) && decide (e.2.1 = j)) = true := by decide +kernel
theorem am_g6' {i j : Nat} (hi : i < 13) (hj : j < 13) (h : i < j) : Cond.not (Cond.eq (am_tm i) (am_tm j)) ∈ am_gv := by
  obtain ⟨e, he, h2⟩ := List.any_eq_true.mp (am_ne_has i hi j hj h)
  simp only [Bool.and_eq_true, decide_eq_true_eq] at h2
  have h3 := of_decide_eq_true (List.all_eq_true.mp am_ne_all e he)
  rw [h2.1, h2.2] at h3
  exact List.mem_of_getElem? h3
theorem am_g6 : ∀ i j, i < 13 → j < 13 → i ≠ j → (Cond.not (Cond.eq (am_tm i) (am_tm j)) ∈ am_gv ∨ Cond.not (Cond.eq (am_tm j) (am_tm i)) ∈ am_gv) := fun i j hi hj hn => by
  rcases Nat.lt_or_ge i j with h | h
  · exact Or.inl (am_g6' hi hj h)
  · exact Or.inr (am_g6' hj hi (by omega))
theorem am_g7 : ∀ i, i < 13 → am_sl.getD i 0 < 2 ^ 31 := by decide +kernel
theorem am_g8 : ∀ e ∈ am_ls, e.2.1 < 13 ∧ am_R e.1.1 = "GridTracks$Teller" ∧ e.1.2 = am_six e.2.1 ∧ lw_tbl[e.2.2]? = some (.stringRef "GridTracks$Teller" e.1.2 (am_tx.getD e.2.1 "")) := by decide +kernel
theorem am_g9 : Cond.eq (.static "java/lang/String" "COMPACT_STRINGS" "Z") (.int 1) ∈ am_gv ∧ Cond.isRef (.static "jdk/internal/util/Preconditions" "SIOOBE_FORMATTER" "Ljava/util/function/BiFunction;") ∈ am_gv := by decide +kernel
theorem am_g10 : Cond.arrayOf (.static "GridTracks" "LEAST_FACT" "[I") .int ∈ am_gv ∧ Cond.eq (.length (.static "GridTracks" "LEAST_FACT" "[I")) (.int (Int32.ofNat 4)) ∈ am_gv ∧ ∀ j, j < 4 → Cond.eq (.elem (.static "GridTracks" "LEAST_FACT" "[I") (.int (Int32.ofNat j))) (.int (([1, 1, 0, 0] : List Int32).getD j 0)) ∈ am_gv := by decide +kernel
theorem am_g11 : Cond.arrayOf (.static "GridTracks" "MOST_FACT" "[I") .int ∈ am_gv ∧ Cond.eq (.length (.static "GridTracks" "MOST_FACT" "[I")) (.int (Int32.ofNat 4)) ∈ am_gv ∧ ∀ j, j < 4 → Cond.eq (.elem (.static "GridTracks" "MOST_FACT" "[I") (.int (Int32.ofNat j))) (.int (([6, 4, 99, 99] : List Int32).getD j 0)) ∈ am_gv := by decide +kernel
theorem am_g12 : (∀ w ∈ ([.laysStatic "java/lang/String" "COMPACT_STRINGS" "Z", .initialized "java/lang/String", .laysStatic "jdk/internal/util/Preconditions" "SIOOBE_FORMATTER" "Ljava/util/function/BiFunction;", .initialized "jdk/internal/util/Preconditions", .laysStatic "GridTracks" "LEAST_FACT" "[I", .laysStatic "GridTracks" "MOST_FACT" "[I", .initialized "GridTracks", .fieldLinkNest RX6 173 "GridTracks" "LEAST_FACT" "[I" "GridTracks", .fieldLinkNest RX6 176 "GridTracks" "MOST_FACT" "[I" "GridTracks", .arrayOver (.object RX2), .arrayOver (.object RX5), .arrayOver (.array .int), .arrayClass .int, .arrayClass .byte, .arrayClass .boolean] : List Cond), w ∈ lw_tbl) := by decide +kernel

theorem am_inst {ci : Nat} {C : String} {T : u_T} {N : Nat} (h : am_cl[ci]? = some (C, T, N)) : ∃ q, am_ck q (.instantiable C N) = true := by
  have hl : ci < 10 := (List.getElem?_eq_some_iff.mp h).1
  have key : ∀ ci, ci < 10 → am_nt.any (fun e => decide (e.2.1 = ci)) = true := by decide +kernel
  obtain ⟨e, he, h2⟩ := List.any_eq_true.mp (key ci hl)
  have h2 := of_decide_eq_true h2
  have h3 := List.all_eq_true.mp am_nt_all e he
  obtain ⟨⟨o, idx⟩, c9, q1, q2, q3⟩ := e
  dsimp only at h2
  subst h2
  unfold am_ntok at h3
  dsimp only at h3
  rw [h] at h3
  simp only [Bool.and_eq_true] at h3
  exact ⟨q2, h3.1.2⟩
theorem am_entry {s : State} {b L : Nat} {xs : Nat → Int32} (hts : ∀ w ∈ lw_tbl, w.before #[Value.ref b] s = true) (hX : va_X b L xs s s.heap) (hbl : b < s.heap.size) (hgv : (Jvm.Cond.and given_1 narrow_1).before #[Value.ref b] s = true) :
    ∃ (D : va_G) (tid : Nat → ClassId) (σ : Nat → Nat) (fz : Value), (fz = .null ∨ fz = .ref 1200) ∧ σ 3000 = b ∧ va_K D am_cl (am_tys tid) s ∧ am_SX (L, xs, fz) σ (fun q => s.heap.size ≤ q) s := by
  have hg := flat_of_before _ hgv
  have hA : ∀ a : Nat, a < s.heap.size → ¬ s.heap.size ≤ a := fun a h => by omega
  have hG : ∀ w ∈ am_G, w.before #[Value.ref b] s = true := fun w h => hts w (am_G_tbl w h)
  have h12 := fun w hw => hts w (am_g12 w hw)
  obtain ⟨adK, adV, hS, hev⟩ := vk_Sof (args := #[Value.ref b]) (N := 13) (tm := am_tm) (len := am_sl) (byt := am_sb) (A := fun q => s.heap.size ≤ q) am_g7 (fun i hi => hg _ (am_g1 i hi)) (fun i hi => hg _ (am_g2 i hi)) (fun i hi => hg _ (am_g3 i hi)) (fun i hi => hg _ (am_g4 i hi)) (fun i hi j hj => hg _ (am_g5 i hi j hj)) (fun i j hi hj hn => (am_g6 i j hi hj hn).imp (hg _) (hg _)) hA
  obtain ⟨t0, ht0, hT0⟩ := va_Tof (args := #[Value.ref b]) (tm := .static "GridTracks" "LEAST_FACT" "[I") (N := 4) (f := fun j => .int (([1, 1, 0, 0] : List Int32).getD j 0)) (A := fun q => s.heap.size ≤ q) (by decide) (hg _ am_g10.1) (va_eqt (hg _ am_g10.2.1)) (fun j hj => va_eqt (hg _ (am_g10.2.2 j hj))) hA
  obtain ⟨t1, ht1, hT1⟩ := va_Tof (args := #[Value.ref b]) (tm := .static "GridTracks" "MOST_FACT" "[I") (N := 4) (f := fun j => .int (([6, 4, 99, 99] : List Int32).getD j 0)) (A := fun q => s.heap.size ≤ q) (by decide) (hg _ am_g11.1) (va_eqt (hg _ am_g11.2.1)) (fun j hj => va_eqt (hg _ (am_g11.2.2 j hj))) hA
  have hZ0 := va_Zof (A := fun q => s.heap.size ≤ q) (h12 (.laysStatic "GridTracks" "LEAST_FACT" "[I") (by simp)) (h12 (.initialized "GridTracks") (by simp)) ht0 hA
  have hZ1 := va_Zof (A := fun q => s.heap.size ≤ q) (h12 (.laysStatic "GridTracks" "MOST_FACT" "[I") (by simp)) (h12 (.initialized "GridTracks") (by simp)) ht1 hA
  have hZc := va_Zof (A := fun q => s.heap.size ≤ q) (h12 (.laysStatic "java/lang/String" "COMPACT_STRINGS" "Z") (by simp)) (h12 (.initialized "java/lang/String") (by simp)) (va_eqi (hg _ am_g9.1)) hA
  have hZf := va_Zqof (A := fun q => s.heap.size ≤ q) (h12 (.laysStatic "jdk/internal/util/Preconditions" "SIOOBE_FORMATTER" "Ljava/util/function/BiFunction;") (by simp)) (h12 (.initialized "jdk/internal/util/Preconditions") (by simp)) (hg _ am_g9.2) hA
  obtain ⟨fz, tf, hfz, hZf⟩ : ∃ (fz : Value) (tf : Nat), (fz = .null ∨ fz = .ref 1200) ∧ va_Z "jdk/internal/util/Preconditions" "SIOOBE_FORMATTER" "Ljava/util/function/BiFunction;" (am_vR (fun _ => tf) (fun _ => tf) fz) (fun q => s.heap.size ≤ q) s s.heap := by
    rcases hZf with h | ⟨t, h⟩
    · exact ⟨.null, 0, Or.inl rfl, h⟩
    · exact ⟨.ref 1200, t, Or.inr rfl, h⟩
  obtain ⟨c0, k0, m0, a1, a2, a3⟩ := Cond.arrayClass_spec (h12 (.arrayClass .int) (by simp))
  obtain ⟨c1, k1, m1, b1, b2, b3⟩ := Cond.arrayClass_spec (h12 (.arrayClass .byte) (by simp))
  obtain ⟨c2, k2, m2, d1, d2, d3⟩ := Cond.arrayClass_spec (h12 (.arrayClass .boolean) (by simp))
  obtain ⟨m3, c3, k3, e1, e2, e3, e4, e5⟩ := Cond.arrayOver_spec (h12 (.arrayOver (.object RX2)) (by simp))
  obtain ⟨m4, c4, k4, f1, f2, f3, f4, f5⟩ := Cond.arrayOver_spec (h12 (.arrayOver (.object RX5)) (by simp))
  obtain ⟨m5, c5, k5, g1, g2, g3, g4⟩ := Cond.arrayOver_specA (h12 (.arrayOver (.array .int)) (by simp))
  have hk : ∀ ci : Nat, ∃ (cC : ClassId) (iS : Nat → Nat), ∀ q : vw_C, am_cl[ci]? = some q → u_Kn s q.1 q.2.1 q.2.2 cC iS := by
    intro ci
    cases hc : am_cl[ci]? with
    | none => exact ⟨0, fun _ => 0, fun q h => by cases h⟩
    | some q =>
      obtain ⟨C, T, N⟩ := q
      obtain ⟨q9, h9⟩ := am_inst hc
      obtain ⟨cC, iS, h⟩ := u_known hG (am_ly_of hc).1 (hG _ (am_ck_in h9))
      exact ⟨cC, iS, fun q hq => by cases hq; exact h⟩
  let dC : Nat → ClassId := fun ci => (hk ci).choose
  let dI : Nat → Nat → Nat := fun ci => (hk ci).choose_spec.choose
  let σ : Nat → Nat := fun a => if a = 3000 then b else if a = 2000 then t0 else if a = 2001 then t1 else if a = 1200 then tf else if 1000 ≤ a ∧ a < 1013 then adK (a - 1000) else if 1100 ≤ a ∧ a < 1113 then adV (a - 1100) else 0
  let tid : Nat → ClassId := fun t => match t with
    | 0 => c0
    | 1 => c1
    | 2 => c2
    | 3 => c3
    | 4 => c4
    | _ => c5
  have eK : ∀ i, i < 13 → σ (1000 + i) = adK i := fun i hi => by
    show (if 1000 + i = 3000 then b else if 1000 + i = 2000 then t0 else if 1000 + i = 2001 then t1 else if 1000 + i = 1200 then tf else if 1000 ≤ 1000 + i ∧ 1000 + i < 1013 then adK (1000 + i - 1000) else _) = _
    rw [if_neg (by omega), if_neg (by omega), if_neg (by omega), if_neg (by omega), if_pos (by omega), Nat.add_sub_cancel_left]
  have eV : ∀ i, i < 13 → σ (1100 + i) = adV i := fun i hi => by
    show (if 1100 + i = 3000 then b else if 1100 + i = 2000 then t0 else if 1100 + i = 2001 then t1 else if 1100 + i = 1200 then tf else if 1000 ≤ 1100 + i ∧ 1100 + i < 1013 then adK (1100 + i - 1000) else if 1100 ≤ 1100 + i ∧ 1100 + i < 1113 then adV (1100 + i - 1100) else 0) = _
    rw [if_neg (by omega), if_neg (by omega), if_neg (by omega), if_neg (by omega), if_neg (by omega), if_pos (by omega), Nat.add_sub_cancel_left]
  refine ⟨(dC, dI), tid, σ, fz, hfz, rfl, ⟨fun ci q hq => (hk ci).choose_spec.choose_spec q hq, ?_⟩, ?_⟩
  · intro t q hq
    match t, hq with
    | 0, hq => cases hq; exact ⟨fun n z => ⟨fun k h => (by cases h), k0, a2, m0, a3⟩, a1⟩
    | 1, hq => cases hq; exact ⟨fun n z => ⟨fun k h => (by cases h), k1, b2, m1, b3⟩, b1⟩
    | 2, hq => cases hq; exact ⟨fun n z => ⟨fun k h => (by cases h), k2, d2, m2, d3⟩, d1⟩
    | 3, hq => cases hq; exact ⟨fun n z => ⟨fun k h => (by cases h), k3, e3, m3, e4⟩, k3, m3, e3, e4, e1, e5⟩
    | 4, hq => cases hq; exact ⟨fun n z => ⟨fun k h => (by cases h), k4, f3, m4, f4⟩, k4, m4, f3, f4, f1, f5⟩
    | 5, hq => cases hq; exact ⟨fun n z => ⟨fun k h => (by cases h), k5, g2, m5, g3⟩, g4⟩
    | t + 6, hq => cases hq
  · refine ⟨fun e he => ?_, ?_, hZc, ⟨?_, ?_⟩, ⟨hZ0, hT0⟩, ⟨hZ1, hT1⟩, ⟨hX, hbl, hA b hbl⟩, ?_⟩
    · obtain ⟨i1, i2, i3, i4⟩ := am_g8 e he
      rw [i2, eK _ i1]
      have hr := hts _ (List.mem_of_getElem? i4)
      have hv := hev e.2.1 i1
      rw [i3] at hr ⊢
      exact vk_R.of hr hv
    · refine ⟨fun i hi => ?_, fun i j hi hj hij => hS.2 i j hi hj (by rw [← eK i hi, ← eK j hj]; exact hij)⟩
      have := hS.1 i hi
      dsimp only
      rw [eK i hi, eV i hi]
      exact this
    · rcases hfz with rfl | rfl
      · exact hZf
      · exact hZf
    · intro a ha
      dsimp only at ha
      rcases hfz with rfl | rfl
      · cases ha
      · cases ha; decide
    · refine ⟨fun e he hq => ?_, va_Nw.of rfl (h12 _ (by simp)), va_Nw.of rfl (h12 _ (by simp)), va_AO.of (h12 (.arrayOver (.object RX2)) (by simp)), va_AO.of (h12 (.arrayOver (.object RX5)) (by simp)), h12 (.arrayOver (.array .int)) (by simp)⟩
      have hok := am_ct_ok he
      obtain ⟨⟨o, idx⟩, kind, j, na, p1, p2, p3, p4⟩ := e
      dsimp only at hq ⊢
      unfold am_ctok at hok
      simp only [Bool.and_eq_true, decide_eq_true_eq] at hok
      obtain ⟨-, hkind⟩ := hok
      rcases hq with rfl | rfl
      · simp only [Bool.and_eq_true, decide_eq_true_eq] at hkind
        exact va_Nw.of rfl (hts _ (List.mem_of_getElem? hkind.1.1.1))
      · simp only [Bool.and_eq_true, decide_eq_true_eq] at hkind
        exact va_Nw.of rfl (hts _ (List.mem_of_getElem? hkind.1))
