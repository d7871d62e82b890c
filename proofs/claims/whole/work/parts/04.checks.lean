def am_flok (e : (Nat × Nat) × (Nat × Nat × Nat)) : Bool := match am_cl[e.2.1]? with
  | some (_, T, N) => decide (e.2.2.1 < N) && am_ck e.2.2.2 (.fieldLink (am_R e.1.1) e.1.2 (T e.2.2.1).1 (T e.2.2.1).2.1 (T e.2.2.1).2.2.1)
  | none => false
theorem am_fl_all : am_fl.all am_flok = true := by decide +kernel
theorem am_fl_of {o idx ci s q : Nat} (h : am_lk am_fl o idx = some (ci, s, q)) : ∃ (C : String) (T : u_T) (N : Nat), am_cl[ci]? = some (C, T, N) ∧ s < N ∧ Cond.fieldLink (am_R o) idx (T s).1 (T s).2.1 (T s).2.2.1 ∈ am_G := by
  have h1 := List.all_eq_true.mp am_fl_all _ (am_lk_mem h)
  unfold am_flok at h1
  dsimp only at h1
  split at h1
  · rename_i C T N hc
    simp only [Bool.and_eq_true, decide_eq_true_eq] at h1
    exact ⟨C, T, N, hc, h1.1, am_ck_in h1.2⟩
  · cases h1
def am_lyok (ci : Nat) : Bool := match am_cl[ci]?, am_ly[ci]? with
  | some (C, T, N), some l => decide (l.length = N) && ((List.range N).all fun k => am_ck (l.getD k 0) (u_lay C T k) && decide ((T k).1 = am_R ci) && decide (C = am_R ci))
  | _, _ => false
theorem am_ly_all : (List.range 10).all am_lyok = true := by decide +kernel
theorem am_ly_of {ci N : Nat} {C : String} {T : u_T} (h : am_cl[ci]? = some (C, T, N)) : (∀ w ∈ u_ws C T N, w ∈ am_G) ∧ (∀ k, k < N → (T k).1 = am_R ci) ∧ (0 < N → C = am_R ci) := by
  have hl : ci < 10 := (List.getElem?_eq_some_iff.mp h).1
  have h1 := List.all_eq_true.mp am_ly_all ci (List.mem_range.mpr hl)
  unfold am_lyok at h1
  rw [h] at h1
  split at h1
  · rename_i C' T' N' l e1 e2
    cases e1
    simp only [Bool.and_eq_true, decide_eq_true_eq, List.all_eq_true, List.mem_range] at h1
    refine ⟨fun w hw => ?_, fun k hk => (h1.2 k hk).1.2, fun h0 => (h1.2 0 h0).2⟩
    obtain ⟨k, hk, rfl⟩ := List.mem_map.mp hw
    exact am_ck_in (h1.2 k (List.mem_range.mp hk)).1.1
  · cases h1
theorem am_ty_of {ci N : Nat} {C : String} {T : u_T} (h : am_cl[ci]? = some (C, T, N)) : (∃ ty0 : Nat → FieldType, ∀ k, k < N → parseFieldDescriptor (T k).2.2.1 = some (ty0 k)) ∧ (∀ a, a < N → ∀ b, b < N → a ≠ b → (T a).2.1 ≠ (T b).2.1) := by
  have hl : ci < 10 := (List.getElem?_eq_some_iff.mp h).1
  match ci, hl, h with
  | 0, _, h => cases h; exact ⟨⟨_, tyX0_ok⟩, nmX0⟩
  | 1, _, h => cases h; exact ⟨⟨_, tyX1_ok⟩, nmX1⟩
  | 2, _, h => cases h; exact ⟨⟨_, tyX2_ok⟩, nmX2⟩
  | 3, _, h => cases h; exact ⟨⟨_, tyX3_ok⟩, nmX3⟩
  | 4, _, h => cases h; exact ⟨⟨_, tyX4_ok⟩, nmX4⟩
  | 5, _, h => cases h; exact ⟨⟨_, tyX5_ok⟩, nmX5⟩
  | 6, _, h => cases h; exact ⟨⟨_, tyX6_ok⟩, nmX6⟩
  | 7, _, h => cases h; exact ⟨⟨_, tyX7_ok⟩, nmX7⟩
  | 8, _, h => cases h; exact ⟨⟨_, tyX8_ok⟩, nmX8⟩
  | 9, _, h => cases h; exact ⟨⟨_, tyX9_ok⟩, nmX9⟩
def am_na_ (k : Nat) : Nat := match am_mt k with
  | some r => r.2.2.2.2.2.2.2.1
  | none => 0
def am_cp (k : Nat) : Nat := match am_mt k with
  | some r => r.2.2.2.2.2.2.2.2
  | none => 0
/-- a method of the table: its code is among the words, its name is plain -/
def am_mok (k : Nat) : Bool := am_ck (am_cp k) (.code (am_y k) (am_c k) (am_ml k) (am_rt k)) && plainName (am_y k).cls && decide ((am_y k).cls = am_R (am_oc k)) && decide ((am_y k).cls ≠ "java/lang/invoke/MethodHandle") && decide ((am_y k).cls ≠ "java/lang/invoke/VarHandle") && decide ((parseMethodDescriptor (am_y k).desc).map (fun d => d.parameters.length) = some (am_na_ k))
def am_ctok (e : (Nat × Nat) × (Nat × Nat × Nat × Nat × Nat × Nat × Nat)) : Bool := match e with
  | ((o, idx), (kind, j, na, p1, p2, p3, p4)) => decide (j < 233) && decide (na = am_na_ j) && am_ck p4 (.initialized (am_y j).cls) && (match kind with
    | 0 => am_ck p1 (.methodLink (am_R o) idx (am_y j)) && am_ck p2 (.instanceMethod (am_y j)) && am_ck p3 (.selects (am_y j).cls (am_y j) (am_y j))
    | 1 => am_ck p1 (.methodLink (am_R o) idx (am_y j)) && am_ck p2 (.static (am_y j))
    | 2 => am_ck p1 (.methodLink (am_R o) idx (am_y j)) && am_ck p2 (.instanceMethod (am_y j)) && decide ((am_y j).name = "<init>") && decide (am_rt j = none)
    | 3 => decide (lw_tbl[p1]? = some (.methodLinkNest (am_R o) idx (am_y j) "GridTracks")) && am_ck p2 (.instanceMethod (am_y j)) && decide ((am_y j).name = "<init>") && decide (am_rt j = none)
    | 4 => decide (lw_tbl[p1]? = some (.methodLinkNest (am_R o) idx (am_y j) "GridTracks")) && am_ck p2 (.static (am_y j))
    | _ => false)
theorem am_ct_a0 : ((am_ct.drop 0).take 30).all am_ctok = true := by decide +kernel
theorem am_ct_a1 : ((am_ct.drop 30).take 30).all am_ctok = true := by decide +kernel
theorem am_ct_a2 : ((am_ct.drop 60).take 30).all am_ctok = true := by decide +kernel
theorem am_ct_a3 : ((am_ct.drop 90).take 30).all am_ctok = true := by decide +kernel
theorem am_ct_a4 : ((am_ct.drop 120).take 30).all am_ctok = true := by decide +kernel
theorem am_ct_a5 : ((am_ct.drop 150).take 30).all am_ctok = true := by decide +kernel
theorem am_ct_a6 : ((am_ct.drop 180).take 30).all am_ctok = true := by decide +kernel
theorem am_ct_a7 : ((am_ct.drop 210).take 30).all am_ctok = true := by decide +kernel
theorem am_ct_a8 : ((am_ct.drop 240).take 30).all am_ctok = true := by decide +kernel
theorem am_ct_a9 : ((am_ct.drop 270).take 30).all am_ctok = true := by decide +kernel
theorem am_ct_ok {e : (Nat × Nat) × (Nat × Nat × Nat × Nat × Nat × Nat × Nat)} (h : e ∈ am_ct) : am_ctok e = true := by
  obtain ⟨i, hi⟩ := List.getElem?_of_mem h
  have hl : i < am_ct.length := (List.getElem?_eq_some_iff.mp hi).1
  have hl2 : am_ct.length ≤ 300 := by decide +kernel
  have key : ∀ n : Nat, n ≤ i → i < n + 30 → ((am_ct.drop n).take 30).all am_ctok = true → am_ctok e = true := by
    intro n h1 h2 h3
    refine List.all_eq_true.mp h3 e (List.mem_of_getElem? (i := i - n) ?_)
    rw [List.getElem?_take_of_lt (by omega), List.getElem?_drop, show n + (i - n) = i by omega]
    exact hi
  by_cases q0 : i < 30
  · exact key 0 (by omega) (by omega) am_ct_a0
  by_cases q1 : i < 60
  · exact key 30 (by omega) (by omega) am_ct_a1
  by_cases q2 : i < 90
  · exact key 60 (by omega) (by omega) am_ct_a2
  by_cases q3 : i < 120
  · exact key 90 (by omega) (by omega) am_ct_a3
  by_cases q4 : i < 150
  · exact key 120 (by omega) (by omega) am_ct_a4
  by_cases q5 : i < 180
  · exact key 150 (by omega) (by omega) am_ct_a5
  by_cases q6 : i < 210
  · exact key 180 (by omega) (by omega) am_ct_a6
  by_cases q7 : i < 240
  · exact key 210 (by omega) (by omega) am_ct_a7
  by_cases q8 : i < 270
  · exact key 240 (by omega) (by omega) am_ct_a8
  exact key 270 (by omega) (by omega) am_ct_a9
theorem am_mk_a0 : (List.range' 0 20).all am_mok = true := by decide +kernel
theorem am_mk_a1 : (List.range' 20 20).all am_mok = true := by decide +kernel
theorem am_mk_a2 : (List.range' 40 20).all am_mok = true := by decide +kernel
theorem am_mk_a3 : (List.range' 60 20).all am_mok = true := by decide +kernel
theorem am_mk_a4 : (List.range' 80 20).all am_mok = true := by decide +kernel
theorem am_mk_a5 : (List.range' 100 20).all am_mok = true := by decide +kernel
theorem am_mk_a6 : (List.range' 120 20).all am_mok = true := by decide +kernel
theorem am_mk_a7 : (List.range' 140 20).all am_mok = true := by decide +kernel
theorem am_mk_a8 : (List.range' 160 20).all am_mok = true := by decide +kernel
theorem am_mk_a9 : (List.range' 180 20).all am_mok = true := by decide +kernel
theorem am_mk_a10 : (List.range' 200 20).all am_mok = true := by decide +kernel
theorem am_mk_a11 : (List.range' 220 13).all am_mok = true := by decide +kernel
theorem am_mk_ok {k : Nat} (h : k < 233) : am_mok k = true := by
  have key : ∀ (n m : Nat), n ≤ k → k < n + m → (List.range' n m).all am_mok = true → am_mok k = true := fun n m h1 h2 h3 => List.all_eq_true.mp h3 k (List.mem_range'_1.mpr ⟨h1, h2⟩)
  by_cases q0 : k < 20
  · exact key 0 20 (by omega) (by omega) am_mk_a0
  by_cases q1 : k < 40
  · exact key 20 20 (by omega) (by omega) am_mk_a1
  by_cases q2 : k < 60
  · exact key 40 20 (by omega) (by omega) am_mk_a2
  by_cases q3 : k < 80
  · exact key 60 20 (by omega) (by omega) am_mk_a3
  by_cases q4 : k < 100
  · exact key 80 20 (by omega) (by omega) am_mk_a4
  by_cases q5 : k < 120
  · exact key 100 20 (by omega) (by omega) am_mk_a5
  by_cases q6 : k < 140
  · exact key 120 20 (by omega) (by omega) am_mk_a6
  by_cases q7 : k < 160
  · exact key 140 20 (by omega) (by omega) am_mk_a7
  by_cases q8 : k < 180
  · exact key 160 20 (by omega) (by omega) am_mk_a8
  by_cases q9 : k < 200
  · exact key 180 20 (by omega) (by omega) am_mk_a9
  by_cases q10 : k < 220
  · exact key 200 20 (by omega) (by omega) am_mk_a10
  exact key 220 13 (by omega) (by omega) am_mk_a11
def am_ptok (e : (Nat × Nat) × (Nat × Nat)) : Bool := match e with
  | ((o, idx), (0, q)) => am_ck q (.methodLink (am_R o) idx Lib.objectInit)
  | ((o, idx), (1, q)) => am_ck q (.methodLink (am_R o) idx Lib.Math.max.name)
  | ((o, idx), (2, q)) => am_ck q (.methodLink (am_R o) idx arraycopyName)
  | _ => false
theorem am_pt_all : am_pt.all am_ptok = true := by decide +kernel
theorem am_w_objInst : Cond.instanceMethod Lib.objectInit ∈ am_G := am_ck_in (i := 124) (by decide +kernel)
theorem am_w_objCode : Cond.code Lib.objectInit ⟨#[0xb1]⟩ 1 none ∈ am_G := am_ck_in (i := 125) (by decide +kernel)
theorem am_w_maxStat : Cond.static Lib.Math.max.name ∈ am_G := am_ck_in (i := 661) (by decide +kernel)
theorem am_w_maxInit : Cond.initialized "java/lang/Math" ∈ am_G := am_ck_in (i := 117) (by decide +kernel)
theorem am_w_maxCode : Cond.code Lib.Math.max.name Lib.Math.max.code 2 (some .int) ∈ am_G := am_ck_in (i := 662) (by decide +kernel)
theorem am_w_cpNat : Cond.native arraycopyName ∈ am_G := am_ck_in (i := 616) (by decide +kernel)
theorem am_w_cpStat : Cond.static arraycopyName ∈ am_G := am_ck_in (i := 615) (by decide +kernel)
theorem am_w_cpInit : Cond.initialized "java/lang/System" ∈ am_G := am_ck_in (i := 116) (by decide +kernel)
theorem am_w_mnaLink : Cond.classLink RX1 18 "[[I" ∈ am_G := am_ck_in (i := 132) (by decide +kernel)
theorem am_w_acInt : Cond.arrayClass .int ∈ am_G := am_ck_in (i := 191) (by decide +kernel)
theorem am_w_acByte : Cond.arrayClass .byte ∈ am_G := am_ck_in (i := 228) (by decide +kernel)
theorem am_w_acBool : Cond.arrayClass .boolean ∈ am_G := am_ck_in (i := 1057) (by decide +kernel)
def am_liok (e : (Nat × Nat) × (Int32 × Nat)) : Bool := am_ck e.2.2 (.constant (am_R e.1.1) e.1.2 e.2.1)
theorem am_li_all : am_li.all am_liok = true := by decide +kernel
def am_l2ok (e : (Nat × Nat) × (Int64 × Nat)) : Bool := am_ck e.2.2 (.constantLong (am_R e.1.1) e.1.2 e.2.1)
theorem am_l2_all : am_l2.all am_l2ok = true := by decide +kernel
def am_gsok (e : (Nat × Nat) × (Nat × Nat × Nat)) : Bool := match e with
  | ((o, idx), (0, 0, q)) => am_ck q (.fieldLink (am_R o) idx "java/lang/String" "COMPACT_STRINGS" "Z")
  | ((o, idx), (1, 0, q)) => am_ck q (.fieldLink (am_R o) idx "jdk/internal/util/Preconditions" "SIOOBE_FORMATTER" "Ljava/util/function/BiFunction;")
  | ((o, idx), (2, 0, q)) => am_ck q (.fieldLink (am_R o) idx "GridTracks" "LEAST_FACT" "[I")
  | ((o, idx), (3, 0, q)) => am_ck q (.fieldLink (am_R o) idx "GridTracks" "MOST_FACT" "[I")
  | ((o, idx), (2, 1, _)) => decide (o = 6) && decide (idx = 173)
  | ((o, idx), (3, 1, _)) => decide (o = 6) && decide (idx = 176)
  | _ => false
theorem am_gs_all : am_gs.all am_gsok = true := by decide +kernel
def am_ntok (e : (Nat × Nat) × (Nat × Nat × Nat × Nat)) : Bool := match e with
  | ((o, idx), (ci, q1, q2, q3)) => (match am_cl[ci]? with
    | some (C, _, N) => am_ck q1 (.classLink (am_R o) idx C) && am_ck q2 (.instantiable C N) && am_ck q3 (.initialized C)
    | none => false)
theorem am_nt_all : am_nt.all am_ntok = true := by decide +kernel
def am_naC (t : Nat) : String := if t = 3 then RX2 else RX5
/-- arrayOver words are read at the law's entry -/
def am_naok (e : (Nat × Nat) × (Nat × Nat × Nat)) : Bool := match e with
  | ((o, idx), (t, q1, _)) => (decide (t = 3) || decide (t = 4)) && am_ck q1 (.classLink (am_R o) idx (am_naC t))
theorem am_na_all : am_na.all am_naok = true := by decide +kernel
theorem am_w_strV : Cond.fieldLink "java/lang/String" 9 "java/lang/String" "value" "[B" ∈ am_G := am_ck_in (i := 1449) (by decide +kernel)
theorem am_w_strC : Cond.fieldLink "java/lang/String" 15 "java/lang/String" "coder" "B" ∈ am_G := am_ck_in (i := 1450) (by decide +kernel)
