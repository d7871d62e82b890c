/-! THE HEAP of the two objects: 100 cells; M tells every number in it -/
abbrev am_LC : Type := Nat × Nat × List (Option Nat)
def am_lay : List am_LC := [
  (1008, 10, [some 1, some 12, some 26, some 51, some 60, some 64, some 72, some 80, none, none]),
  (1001, 10, [none, some 2, some 3, none, none, none, none, none, some 4, some 11]),
  (0, 6, []),
  (0, 6, []),
  (5, 6, [some 5, some 6, some 7, some 8, some 9, some 10]),
  (0, 10, []),
  (0, 10, []),
  (0, 10, []),
  (0, 10, []),
  (0, 10, []),
  (0, 10, []),
  (0, 8, []),
  (1006, 8, [some 13, some 15, none, none, none, none, none, none]),
  (1007, 6, [some 14, none, none, none, none, none]),
  (1, 320, []),
  (1001, 10, [none, some 16, some 17, none, none, none, none, none, some 18, some 25]),
  (0, 6, []),
  (0, 6, []),
  (5, 6, [some 19, some 20, some 21, some 22, some 23, some 24]),
  (0, 10, []),
  (0, 10, []),
  (0, 10, []),
  (0, 10, []),
  (0, 10, []),
  (0, 10, []),
  (0, 8, []),
  (3, 2, [some 27, some 39]),
  (1002, 2, [some 28, none]),
  (1001, 10, [none, some 29, some 30, none, none, none, none, none, some 31, some 38]),
  (0, 6, []),
  (0, 6, []),
  (5, 6, [some 32, some 33, some 34, some 35, some 36, some 37]),
  (0, 10, []),
  (0, 10, []),
  (0, 10, []),
  (0, 10, []),
  (0, 10, []),
  (0, 10, []),
  (0, 8, []),
  (1002, 2, [some 40, none]),
  (1001, 10, [none, some 41, some 42, none, none, none, none, none, some 43, some 50]),
  (0, 6, []),
  (0, 6, []),
  (5, 6, [some 44, some 45, some 46, some 47, some 48, some 49]),
  (0, 10, []),
  (0, 10, []),
  (0, 10, []),
  (0, 10, []),
  (0, 10, []),
  (0, 10, []),
  (0, 8, []),
  (4, 4, [some 52, some 54, some 56, some 58]),
  (1005, 3, [some 53, none, none]),
  (0, 40, []),
  (1005, 3, [some 55, none, none]),
  (0, 40, []),
  (1005, 3, [some 57, none, none]),
  (0, 40, []),
  (1005, 3, [some 59, none, none]),
  (0, 40, []),
  (1003, 6, [some 61, some 62, some 63, none, none, none]),
  (0, 10, []),
  (0, 10, []),
  (0, 12, []),
  (1000, 10, [none, none, some 65, some 66, some 67, some 68, none, some 69, some 70, some 71]),
  (0, 12, []),
  (0, 12, []),
  (0, 12, []),
  (0, 12, []),
  (0, 10, []),
  (0, 10, []),
  (0, 10, []),
  (1000, 10, [none, none, some 73, some 74, some 75, some 76, none, some 77, some 78, some 79]),
  (0, 12, []),
  (0, 12, []),
  (0, 12, []),
  (0, 12, []),
  (0, 10, []),
  (0, 10, []),
  (0, 10, []),
  (1004, 2, [some 81, none]),
  (0, 12, []),
  (1009, 26, [some 83, some 84, some 85, some 86, some 87, some 88, none, none, none, none, none, none, none, some 89, some 90, some 91, none, some 92, some 93, some 94, some 95, some 96, some 97, some 98, some 99, none]),
  (0, 86, []),
  (0, 172, []),
  (2, 2, []),
  (0, 86, []),
  (2, 4, []),
  (0, 320, []),
  (0, 72, []),
  (0, 11, []),
  (0, 11, []),
  (0, 6, []),
  (0, 12, []),
  (0, 12, []),
  (0, 6, []),
  (2, 6, []),
  (0, 4, []),
  (0, 4, []),
  (0, 160, [])]
def am_cel (c : am_LC) (f : Nat → Int32) : va_E := if 1000 ≤ c.1 then .inr (c.1 - 1000, c.2.2.mapIdx fun j r => match r with
    | some a => .ref a
    | none => .int (f j))
  else if c.1 < 3 then .inl (c.1, c.2.1, .inl f) else .inl (c.1, c.2.1, .inr (.inr (.inr (.inr fun j => if j < c.2.1 then c.2.2.getD j none else none))))
def am_hl (M : Nat → Nat → Int32) : Nat → List am_LC → am_H
  | _, [] => []
  | i, c :: r => am_cel c (M i) :: am_hl M (i + 1) r
def hp (M : Nat → Nat → Int32) : am_H := am_hl M 0 am_lay
theorem am_hl_at (M : Nat → Nat → Int32) : ∀ (l : List am_LC) (i a : Nat), (am_hl M i l)[a]? = (l[a]?).map fun c => am_cel c (M (i + a))
  | [], i, a => by simp [am_hl]
  | c :: r, i, 0 => rfl
  | c :: r, i, a + 1 => by
    rw [am_hl, List.getElem?_cons_succ, List.getElem?_cons_succ, am_hl_at M r (i + 1) a, show i + 1 + a = i + (a + 1) by omega]
theorem hp_at (M : Nat → Nat → Int32) (a : Nat) : (hp M)[a]? = (am_lay[a]?).map fun c => am_cel c (M a) := by
  unfold hp
  rw [am_hl_at, Nat.zero_add]
theorem am_hl_len (M : Nat → Nat → Int32) : ∀ (l : List am_LC) (i : Nat), (am_hl M i l).length = l.length
  | [], i => rfl
  | c :: r, i => by rw [am_hl, List.length_cons, List.length_cons, am_hl_len M r]
theorem hp_len (M : Nat → Nat → Int32) : (hp M).length = 100 := am_hl_len M am_lay 0
/-- one number changed -/
def up (M : Nat → Nat → Int32) (a j : Nat) (x : Int32) : Nat → Nat → Int32 := fun b => if b = a then upd (M a) j x else M b
/-- a whole cell changed -/
def ua (M : Nat → Nat → Int32) (a : Nat) (f : Nat → Int32) : Nat → Nat → Int32 := fun b => if b = a then f else M b
theorem up_ua (M : Nat → Nat → Int32) (a j : Nat) (x : Int32) : up M a j x = ua M a (upd (M a) j x) := rfl
theorem ua_s (M : Nat → Nat → Int32) (a : Nat) (f : Nat → Int32) : ua M a f a = f := if_pos rfl
theorem ua_n (M : Nat → Nat → Int32) {a b : Nat} (f : Nat → Int32) (h : b ≠ a) : ua M a f b = M b := if_neg h
theorem up_s (M : Nat → Nat → Int32) (a j : Nat) (x : Int32) : up M a j x a = upd (M a) j x := if_pos rfl
theorem up_n (M : Nat → Nat → Int32) {a b : Nat} (j : Nat) (x : Int32) (h : b ≠ a) : up M a j x b = M b := if_neg h
theorem hp_set {M : Nat → Nat → Int32} {a : Nat} {c : am_LC} {f : Nat → Int32} {e : va_E} (hl : am_lay[a]? = some c) (he : am_cel c f = e) : (hp M).set a e = hp (ua M a f) := by
  subst he
  apply List.ext_getElem?
  intro i
  by_cases h : a = i
  · subst h
    rw [List.getElem?_set_self (by rw [hp_len]; exact (List.getElem?_eq_some_iff.mp hl).1), hp_at, hl, Option.map_some, ua_s]
  · rw [List.getElem?_set_ne h, hp_at, hp_at, ua_n M f (fun q => h q.symm)]
theorem ga_hp {X : am_X} {M : Nat → Nat → Int32} {a t n : Nat} {sl : List (Option Nat)} (hl : am_lay[a]? = some (t, n, sl)) (ht : t < 3) : am_ga X (hp M) a = some (t, n, M a) := by
  have e : am_cel (t, n, sl) (M a) = .inl (t, n, .inl (M a)) := by
    unfold am_cel
    dsimp only
    rw [if_neg (by omega), if_pos ht]
  unfold am_ga
  rw [hp_at, hl, Option.map_some, e]
theorem wi_hp {M : Nat → Nat → Int32} {a n : Nat} {sl : List (Option Nat)} {i x : Int32} (hl : am_lay[a]? = some (0, n, sl)) : am_wi (hp M) a i x = if am_in i n = true then some (hp (up M a i.toNatClampNeg x)) else none := by
  have e : ∀ f, am_cel (0, n, sl) f = .inl (0, n, .inl f) := fun f => rfl
  unfold am_wi
  rw [hp_at, hl, Option.map_some, e]
  dsimp only
  by_cases hi : am_in i n = true
  · rw [if_pos ⟨rfl, hi⟩, if_pos hi, hp_set hl (e _), ← up_ua]
  · rw [if_neg (fun z => hi z.2), if_neg hi]
theorem wb_hp {M : Nat → Nat → Int32} {a t n : Nat} {sl : List (Option Nat)} {i x : Int32} (hl : am_lay[a]? = some (t, n, sl)) (ht : t = 1 ∨ t = 2) : am_wb (hp M) a i x = if am_in i n = true then some (hp (up M a i.toNatClampNeg (am_nb t x))) else none := by
  have e : ∀ f, am_cel (t, n, sl) f = .inl (t, n, .inl f) := fun f => by rcases ht with rfl | rfl <;> rfl
  unfold am_wb
  rw [hp_at, hl, Option.map_some, e]
  dsimp only
  by_cases hi : am_in i n = true
  · rw [if_pos ⟨ht, hi⟩, if_pos hi, hp_set hl (e _), ← up_ua]
  · rw [if_neg (fun z => hi z.2), if_neg hi]
theorem lc_obj {ci N : Nat} {sl : List (Option Nat)} {f : Nat → Int32} : am_cel (1000 + ci, N, sl) f = .inr (ci, sl.mapIdx fun j r => match r with
    | some a => .ref a
    | none => .int (f j)) := by
  unfold am_cel
  dsimp only
  rw [if_pos (by omega), Nat.add_sub_cancel_left]
theorem gfr_hp {M : Nat → Nat → Int32} {a ci N s b : Nat} {sl : List (Option Nat)} (hl : am_lay[a]? = some (1000 + ci, N, sl)) (hs : sl[s]? = some (some b)) : am_gf (hp M) a ci s = some (.ref b) := by
  unfold am_gf
  rw [hp_at, hl, Option.map_some, lc_obj]
  dsimp only
  rw [if_pos rfl, List.getElem?_mapIdx, hs]
  rfl
theorem gfi_hp {M : Nat → Nat → Int32} {a ci N s : Nat} {sl : List (Option Nat)} (hl : am_lay[a]? = some (1000 + ci, N, sl)) (hs : sl[s]? = some none) : am_gf (hp M) a ci s = some (.int (M a s)) := by
  unfold am_gf
  rw [hp_at, hl, Option.map_some, lc_obj]
  dsimp only
  rw [if_pos rfl, List.getElem?_mapIdx, hs]
  rfl
theorem sf_hp {M : Nat → Nat → Int32} {a ci N s : Nat} {sl : List (Option Nat)} {x : Int32} (hl : am_lay[a]? = some (1000 + ci, N, sl)) (hs : sl[s]? = some none) : am_sf (hp M) a ci s (.int x) = some (hp (up M a s x)) := by
  unfold am_sf
  rw [hp_at, hl, Option.map_some, lc_obj]
  dsimp only
  have hlt : s < sl.length := (List.getElem?_eq_some_iff.mp hs).1
  rw [if_pos ⟨rfl, by rw [List.length_mapIdx]; exact hlt⟩, up_ua]
  congr 1
  apply hp_set hl
  rw [lc_obj]
  congr 2
  apply List.ext_getElem?
  intro j
  rw [List.getElem?_mapIdx]
  by_cases h : s = j
  · subst h
    rw [List.getElem?_set_self (by rw [List.length_mapIdx]; exact hlt), hs]
    show some (Value.int (upd (M a) s x s)) = _
    rw [pk_us]
  · rw [List.getElem?_set_ne h, List.getElem?_mapIdx]
    cases sl[j]? with
    | none => rfl
    | some r =>
      cases r with
      | some b => rfl
      | none =>
        show some (Value.int (upd (M a) s x j)) = some (Value.int (M a j))
        rw [pk_un (fun q => h q.symm)]
theorem pf_hp {M : Nat → Nat → Int32} {a ci N s : Nat} {sl : List (Option Nat)} {x : Int32} (hl : am_lay[a]? = some (1000 + ci, N, sl)) (hs : sl[s]? = some none) (ht : am_fty ci s = .int) : am_pf (hp M) a ci s (.int x) = some (hp (up M a s x)) := by
  unfold am_pf
  rw [ht, if_pos ⟨rfl, rfl⟩, sf_hp hl hs]
theorem pz_hp {M : Nat → Nat → Int32} {a ci N s : Nat} {sl : List (Option Nat)} {x : Int32} (hl : am_lay[a]? = some (1000 + ci, N, sl)) (hs : sl[s]? = some none) (ht : am_fty ci s = .boolean) : am_pf (hp M) a ci s (.int x) = if x = 0 ∨ x = 1 then some (hp (up M a s x)) else none := by
  unfold am_pf
  rw [ht]
  by_cases hx : x = 0 ∨ x = 1
  · rw [if_pos hx, if_pos ⟨(am_bool1 x).mpr hx, by rcases hx with rfl | rfl <;> rfl⟩, sf_hp hl hs]
  · rw [if_neg hx, if_neg (fun z => hx ((am_bool1 x).mp z.1))]
theorem rcv_hp {M : Nat → Nat → Int32} {a ci N : Nat} {sl : List (Option Nat)} (hl : am_lay[a]? = some (1000 + ci, N, sl)) : am_rcv (hp M) ci (some (.ref a)) = true := by
  unfold am_rcv
  dsimp only
  rw [hp_at, hl, Option.map_some, lc_obj]
  exact decide_eq_true rfl
theorem gq_hp {M : Nat → Nat → Int32} {a t n : Nat} {sl : List (Option Nat)} (hl : am_lay[a]? = some (t, n, sl)) (ht : 3 ≤ t ∧ t < 1000) : am_gq (hp M) a = some (t, n, fun j => if j < n then sl.getD j none else none) := by
  have e : am_cel (t, n, sl) (M a) = .inl (t, n, .inr (.inr (.inr (.inr fun j => if j < n then sl.getD j none else none)))) := by
    unfold am_cel
    dsimp only
    rw [if_neg (by omega), if_neg (by omega)]
  unfold am_gq
  rw [hp_at, hl, Option.map_some, e]
theorem kk_hp {X : am_X} {k pc : Nat} {L st : List Value} {M M' : Nat → Nat → Int32} {v : Value} : am_kk X k pc L st (hp M) (some v, hp M') = am_ev X k pc L (v :: st) (hp M') := by
  unfold am_kk
  rw [if_pos (by unfold am_kp; rw [hp_len, hp_len]; rfl)]
  rfl
theorem kn_hp {X : am_X} {k pc : Nat} {L st : List Value} {M M' : Nat → Nat → Int32} : am_kk X k pc L st (hp M) (none, hp M') = am_ev X k pc L st (hp M') := by
  unfold am_kk
  rw [if_pos (by unfold am_kp; rw [hp_len, hp_len]; rfl)]
  rfl
theorem el_i {n : Nat} {f : Nat → Int32} {i : Int32} {K : Int32 → Option am_Q} : am_el (some (0, n, f)) 0 0 i K = if am_in i n = true then K (f i.toNatClampNeg) else none := by
  unfold am_el
  dsimp only
  by_cases h : am_in i n = true
  · rw [if_pos ⟨Or.inl rfl, h⟩, if_pos h]
  · rw [if_neg (fun z => h z.2), if_neg h]
theorem el_b {n : Nat} {f : Nat → Int32} {i : Int32} {K : Int32 → Option am_Q} : am_el (some (1, n, f)) 1 2 i K = if am_in i n = true then K (f i.toNatClampNeg) else none := by
  unfold am_el
  dsimp only
  by_cases h : am_in i n = true
  · rw [if_pos ⟨Or.inl rfl, h⟩, if_pos h]
  · rw [if_neg (fun z => h z.2), if_neg h]
theorem el_z {n : Nat} {f : Nat → Int32} {i : Int32} {K : Int32 → Option am_Q} : am_el (some (2, n, f)) 1 2 i K = if am_in i n = true then K (f i.toNatClampNeg) else none := by
  unfold am_el
  dsimp only
  by_cases h : am_in i n = true
  · rw [if_pos ⟨Or.inr rfl, h⟩, if_pos h]
  · rw [if_neg (fun z => h z.2), if_neg h]
section HP
variable {X : am_X} {M : Nat → Nat → Int32}
theorem rc_0 : am_rcv (hp M) 8 (some (.ref 0)) = true := rcv_hp (show am_lay[0]? = some (1000 + 8, 10, [some 1, some 12, some 26, some 51, some 60, some 64, some 72, some 80, none, none]) from rfl)
theorem gf_0_0 : am_gf (hp M) 0 8 0 = some (.ref 1) := gfr_hp (show am_lay[0]? = some (1000 + 8, 10, [some 1, some 12, some 26, some 51, some 60, some 64, some 72, some 80, none, none]) from rfl) rfl
theorem gf_0_1 : am_gf (hp M) 0 8 1 = some (.ref 12) := gfr_hp (show am_lay[0]? = some (1000 + 8, 10, [some 1, some 12, some 26, some 51, some 60, some 64, some 72, some 80, none, none]) from rfl) rfl
theorem gf_0_2 : am_gf (hp M) 0 8 2 = some (.ref 26) := gfr_hp (show am_lay[0]? = some (1000 + 8, 10, [some 1, some 12, some 26, some 51, some 60, some 64, some 72, some 80, none, none]) from rfl) rfl
theorem gf_0_3 : am_gf (hp M) 0 8 3 = some (.ref 51) := gfr_hp (show am_lay[0]? = some (1000 + 8, 10, [some 1, some 12, some 26, some 51, some 60, some 64, some 72, some 80, none, none]) from rfl) rfl
theorem gf_0_4 : am_gf (hp M) 0 8 4 = some (.ref 60) := gfr_hp (show am_lay[0]? = some (1000 + 8, 10, [some 1, some 12, some 26, some 51, some 60, some 64, some 72, some 80, none, none]) from rfl) rfl
theorem gf_0_5 : am_gf (hp M) 0 8 5 = some (.ref 64) := gfr_hp (show am_lay[0]? = some (1000 + 8, 10, [some 1, some 12, some 26, some 51, some 60, some 64, some 72, some 80, none, none]) from rfl) rfl
theorem gf_0_6 : am_gf (hp M) 0 8 6 = some (.ref 72) := gfr_hp (show am_lay[0]? = some (1000 + 8, 10, [some 1, some 12, some 26, some 51, some 60, some 64, some 72, some 80, none, none]) from rfl) rfl
theorem gf_0_7 : am_gf (hp M) 0 8 7 = some (.ref 80) := gfr_hp (show am_lay[0]? = some (1000 + 8, 10, [some 1, some 12, some 26, some 51, some 60, some 64, some 72, some 80, none, none]) from rfl) rfl
theorem gf_0_8 : am_gf (hp M) 0 8 8 = some (.int (M 0 8)) := gfi_hp (show am_lay[0]? = some (1000 + 8, 10, [some 1, some 12, some 26, some 51, some 60, some 64, some 72, some 80, none, none]) from rfl) rfl
theorem pf_0_8 {x : Int32} : am_pf (hp M) 0 8 8 (.int x) = if x = 0 ∨ x = 1 then some (hp (up M 0 8 x)) else none := pz_hp (show am_lay[0]? = some (1000 + 8, 10, [some 1, some 12, some 26, some 51, some 60, some 64, some 72, some 80, none, none]) from rfl) rfl (by decide +kernel)
theorem gf_0_9 : am_gf (hp M) 0 8 9 = some (.int (M 0 9)) := gfi_hp (show am_lay[0]? = some (1000 + 8, 10, [some 1, some 12, some 26, some 51, some 60, some 64, some 72, some 80, none, none]) from rfl) rfl
theorem pf_0_9 {x : Int32} : am_pf (hp M) 0 8 9 (.int x) = some (hp (up M 0 9 x)) := pf_hp (show am_lay[0]? = some (1000 + 8, 10, [some 1, some 12, some 26, some 51, some 60, some 64, some 72, some 80, none, none]) from rfl) rfl (by decide +kernel)
theorem rc_1 : am_rcv (hp M) 1 (some (.ref 1)) = true := rcv_hp (show am_lay[1]? = some (1000 + 1, 10, [none, some 2, some 3, none, none, none, none, none, some 4, some 11]) from rfl)
theorem gf_1_0 : am_gf (hp M) 1 1 0 = some (.int (M 1 0)) := gfi_hp (show am_lay[1]? = some (1000 + 1, 10, [none, some 2, some 3, none, none, none, none, none, some 4, some 11]) from rfl) rfl
theorem pf_1_0 {x : Int32} : am_pf (hp M) 1 1 0 (.int x) = some (hp (up M 1 0 x)) := pf_hp (show am_lay[1]? = some (1000 + 1, 10, [none, some 2, some 3, none, none, none, none, none, some 4, some 11]) from rfl) rfl (by decide +kernel)
theorem gf_1_1 : am_gf (hp M) 1 1 1 = some (.ref 2) := gfr_hp (show am_lay[1]? = some (1000 + 1, 10, [none, some 2, some 3, none, none, none, none, none, some 4, some 11]) from rfl) rfl
theorem gf_1_2 : am_gf (hp M) 1 1 2 = some (.ref 3) := gfr_hp (show am_lay[1]? = some (1000 + 1, 10, [none, some 2, some 3, none, none, none, none, none, some 4, some 11]) from rfl) rfl
theorem gf_1_3 : am_gf (hp M) 1 1 3 = some (.int (M 1 3)) := gfi_hp (show am_lay[1]? = some (1000 + 1, 10, [none, some 2, some 3, none, none, none, none, none, some 4, some 11]) from rfl) rfl
theorem pf_1_3 {x : Int32} : am_pf (hp M) 1 1 3 (.int x) = some (hp (up M 1 3 x)) := pf_hp (show am_lay[1]? = some (1000 + 1, 10, [none, some 2, some 3, none, none, none, none, none, some 4, some 11]) from rfl) rfl (by decide +kernel)
theorem gf_1_4 : am_gf (hp M) 1 1 4 = some (.int (M 1 4)) := gfi_hp (show am_lay[1]? = some (1000 + 1, 10, [none, some 2, some 3, none, none, none, none, none, some 4, some 11]) from rfl) rfl
theorem pf_1_4 {x : Int32} : am_pf (hp M) 1 1 4 (.int x) = some (hp (up M 1 4 x)) := pf_hp (show am_lay[1]? = some (1000 + 1, 10, [none, some 2, some 3, none, none, none, none, none, some 4, some 11]) from rfl) rfl (by decide +kernel)
theorem gf_1_5 : am_gf (hp M) 1 1 5 = some (.int (M 1 5)) := gfi_hp (show am_lay[1]? = some (1000 + 1, 10, [none, some 2, some 3, none, none, none, none, none, some 4, some 11]) from rfl) rfl
theorem pf_1_5 {x : Int32} : am_pf (hp M) 1 1 5 (.int x) = some (hp (up M 1 5 x)) := pf_hp (show am_lay[1]? = some (1000 + 1, 10, [none, some 2, some 3, none, none, none, none, none, some 4, some 11]) from rfl) rfl (by decide +kernel)
theorem gf_1_6 : am_gf (hp M) 1 1 6 = some (.int (M 1 6)) := gfi_hp (show am_lay[1]? = some (1000 + 1, 10, [none, some 2, some 3, none, none, none, none, none, some 4, some 11]) from rfl) rfl
theorem pf_1_6 {x : Int32} : am_pf (hp M) 1 1 6 (.int x) = some (hp (up M 1 6 x)) := pf_hp (show am_lay[1]? = some (1000 + 1, 10, [none, some 2, some 3, none, none, none, none, none, some 4, some 11]) from rfl) rfl (by decide +kernel)
theorem gf_1_7 : am_gf (hp M) 1 1 7 = some (.int (M 1 7)) := gfi_hp (show am_lay[1]? = some (1000 + 1, 10, [none, some 2, some 3, none, none, none, none, none, some 4, some 11]) from rfl) rfl
theorem pf_1_7 {x : Int32} : am_pf (hp M) 1 1 7 (.int x) = some (hp (up M 1 7 x)) := pf_hp (show am_lay[1]? = some (1000 + 1, 10, [none, some 2, some 3, none, none, none, none, none, some 4, some 11]) from rfl) rfl (by decide +kernel)
theorem gf_1_8 : am_gf (hp M) 1 1 8 = some (.ref 4) := gfr_hp (show am_lay[1]? = some (1000 + 1, 10, [none, some 2, some 3, none, none, none, none, none, some 4, some 11]) from rfl) rfl
theorem gf_1_9 : am_gf (hp M) 1 1 9 = some (.ref 11) := gfr_hp (show am_lay[1]? = some (1000 + 1, 10, [none, some 2, some 3, none, none, none, none, none, some 4, some 11]) from rfl) rfl
theorem ga_2 : am_ga X (hp M) 2 = some (0, 6, M 2) := ga_hp (show am_lay[2]? = some (0, 6, []) from rfl) (by decide)
theorem wi_2 {i x : Int32} : am_wi (hp M) 2 i x = if am_in i 6 = true then some (hp (up M 2 i.toNatClampNeg x)) else none := wi_hp (show am_lay[2]? = some (0, 6, []) from rfl)
theorem ga_3 : am_ga X (hp M) 3 = some (0, 6, M 3) := ga_hp (show am_lay[3]? = some (0, 6, []) from rfl) (by decide)
theorem wi_3 {i x : Int32} : am_wi (hp M) 3 i x = if am_in i 6 = true then some (hp (up M 3 i.toNatClampNeg x)) else none := wi_hp (show am_lay[3]? = some (0, 6, []) from rfl)
theorem gq_4 : am_gq (hp M) 4 = some (5, 6, fun j => if j < 6 then ([some 5, some 6, some 7, some 8, some 9, some 10] : List (Option Nat)).getD j none else none) := gq_hp (show am_lay[4]? = some (5, 6, [some 5, some 6, some 7, some 8, some 9, some 10]) from rfl) (by decide)
theorem ga_5 : am_ga X (hp M) 5 = some (0, 10, M 5) := ga_hp (show am_lay[5]? = some (0, 10, []) from rfl) (by decide)
theorem wi_5 {i x : Int32} : am_wi (hp M) 5 i x = if am_in i 10 = true then some (hp (up M 5 i.toNatClampNeg x)) else none := wi_hp (show am_lay[5]? = some (0, 10, []) from rfl)
theorem ga_6 : am_ga X (hp M) 6 = some (0, 10, M 6) := ga_hp (show am_lay[6]? = some (0, 10, []) from rfl) (by decide)
theorem wi_6 {i x : Int32} : am_wi (hp M) 6 i x = if am_in i 10 = true then some (hp (up M 6 i.toNatClampNeg x)) else none := wi_hp (show am_lay[6]? = some (0, 10, []) from rfl)
theorem ga_7 : am_ga X (hp M) 7 = some (0, 10, M 7) := ga_hp (show am_lay[7]? = some (0, 10, []) from rfl) (by decide)
theorem wi_7 {i x : Int32} : am_wi (hp M) 7 i x = if am_in i 10 = true then some (hp (up M 7 i.toNatClampNeg x)) else none := wi_hp (show am_lay[7]? = some (0, 10, []) from rfl)
theorem ga_8 : am_ga X (hp M) 8 = some (0, 10, M 8) := ga_hp (show am_lay[8]? = some (0, 10, []) from rfl) (by decide)
theorem wi_8 {i x : Int32} : am_wi (hp M) 8 i x = if am_in i 10 = true then some (hp (up M 8 i.toNatClampNeg x)) else none := wi_hp (show am_lay[8]? = some (0, 10, []) from rfl)
theorem ga_9 : am_ga X (hp M) 9 = some (0, 10, M 9) := ga_hp (show am_lay[9]? = some (0, 10, []) from rfl) (by decide)
theorem wi_9 {i x : Int32} : am_wi (hp M) 9 i x = if am_in i 10 = true then some (hp (up M 9 i.toNatClampNeg x)) else none := wi_hp (show am_lay[9]? = some (0, 10, []) from rfl)
theorem ga_10 : am_ga X (hp M) 10 = some (0, 10, M 10) := ga_hp (show am_lay[10]? = some (0, 10, []) from rfl) (by decide)
theorem wi_10 {i x : Int32} : am_wi (hp M) 10 i x = if am_in i 10 = true then some (hp (up M 10 i.toNatClampNeg x)) else none := wi_hp (show am_lay[10]? = some (0, 10, []) from rfl)
theorem ga_11 : am_ga X (hp M) 11 = some (0, 8, M 11) := ga_hp (show am_lay[11]? = some (0, 8, []) from rfl) (by decide)
theorem wi_11 {i x : Int32} : am_wi (hp M) 11 i x = if am_in i 8 = true then some (hp (up M 11 i.toNatClampNeg x)) else none := wi_hp (show am_lay[11]? = some (0, 8, []) from rfl)
theorem rc_12 : am_rcv (hp M) 6 (some (.ref 12)) = true := rcv_hp (show am_lay[12]? = some (1000 + 6, 8, [some 13, some 15, none, none, none, none, none, none]) from rfl)
theorem gf_12_0 : am_gf (hp M) 12 6 0 = some (.ref 13) := gfr_hp (show am_lay[12]? = some (1000 + 6, 8, [some 13, some 15, none, none, none, none, none, none]) from rfl) rfl
theorem gf_12_1 : am_gf (hp M) 12 6 1 = some (.ref 15) := gfr_hp (show am_lay[12]? = some (1000 + 6, 8, [some 13, some 15, none, none, none, none, none, none]) from rfl) rfl
theorem gf_12_2 : am_gf (hp M) 12 6 2 = some (.int (M 12 2)) := gfi_hp (show am_lay[12]? = some (1000 + 6, 8, [some 13, some 15, none, none, none, none, none, none]) from rfl) rfl
theorem pf_12_2 {x : Int32} : am_pf (hp M) 12 6 2 (.int x) = some (hp (up M 12 2 x)) := pf_hp (show am_lay[12]? = some (1000 + 6, 8, [some 13, some 15, none, none, none, none, none, none]) from rfl) rfl (by decide +kernel)
theorem gf_12_3 : am_gf (hp M) 12 6 3 = some (.int (M 12 3)) := gfi_hp (show am_lay[12]? = some (1000 + 6, 8, [some 13, some 15, none, none, none, none, none, none]) from rfl) rfl
theorem pf_12_3 {x : Int32} : am_pf (hp M) 12 6 3 (.int x) = some (hp (up M 12 3 x)) := pf_hp (show am_lay[12]? = some (1000 + 6, 8, [some 13, some 15, none, none, none, none, none, none]) from rfl) rfl (by decide +kernel)
theorem gf_12_4 : am_gf (hp M) 12 6 4 = some (.int (M 12 4)) := gfi_hp (show am_lay[12]? = some (1000 + 6, 8, [some 13, some 15, none, none, none, none, none, none]) from rfl) rfl
theorem pf_12_4 {x : Int32} : am_pf (hp M) 12 6 4 (.int x) = if x = 0 ∨ x = 1 then some (hp (up M 12 4 x)) else none := pz_hp (show am_lay[12]? = some (1000 + 6, 8, [some 13, some 15, none, none, none, none, none, none]) from rfl) rfl (by decide +kernel)
theorem gf_12_5 : am_gf (hp M) 12 6 5 = some (.int (M 12 5)) := gfi_hp (show am_lay[12]? = some (1000 + 6, 8, [some 13, some 15, none, none, none, none, none, none]) from rfl) rfl
theorem pf_12_5 {x : Int32} : am_pf (hp M) 12 6 5 (.int x) = if x = 0 ∨ x = 1 then some (hp (up M 12 5 x)) else none := pz_hp (show am_lay[12]? = some (1000 + 6, 8, [some 13, some 15, none, none, none, none, none, none]) from rfl) rfl (by decide +kernel)
theorem gf_12_6 : am_gf (hp M) 12 6 6 = some (.int (M 12 6)) := gfi_hp (show am_lay[12]? = some (1000 + 6, 8, [some 13, some 15, none, none, none, none, none, none]) from rfl) rfl
theorem pf_12_6 {x : Int32} : am_pf (hp M) 12 6 6 (.int x) = if x = 0 ∨ x = 1 then some (hp (up M 12 6 x)) else none := pz_hp (show am_lay[12]? = some (1000 + 6, 8, [some 13, some 15, none, none, none, none, none, none]) from rfl) rfl (by decide +kernel)
theorem gf_12_7 : am_gf (hp M) 12 6 7 = some (.int (M 12 7)) := gfi_hp (show am_lay[12]? = some (1000 + 6, 8, [some 13, some 15, none, none, none, none, none, none]) from rfl) rfl
theorem pf_12_7 {x : Int32} : am_pf (hp M) 12 6 7 (.int x) = if x = 0 ∨ x = 1 then some (hp (up M 12 7 x)) else none := pz_hp (show am_lay[12]? = some (1000 + 6, 8, [some 13, some 15, none, none, none, none, none, none]) from rfl) rfl (by decide +kernel)
theorem rc_13 : am_rcv (hp M) 7 (some (.ref 13)) = true := rcv_hp (show am_lay[13]? = some (1000 + 7, 6, [some 14, none, none, none, none, none]) from rfl)
theorem gf_13_0 : am_gf (hp M) 13 7 0 = some (.ref 14) := gfr_hp (show am_lay[13]? = some (1000 + 7, 6, [some 14, none, none, none, none, none]) from rfl) rfl
theorem gf_13_1 : am_gf (hp M) 13 7 1 = some (.int (M 13 1)) := gfi_hp (show am_lay[13]? = some (1000 + 7, 6, [some 14, none, none, none, none, none]) from rfl) rfl
theorem pf_13_1 {x : Int32} : am_pf (hp M) 13 7 1 (.int x) = some (hp (up M 13 1 x)) := pf_hp (show am_lay[13]? = some (1000 + 7, 6, [some 14, none, none, none, none, none]) from rfl) rfl (by decide +kernel)
theorem gf_13_2 : am_gf (hp M) 13 7 2 = some (.int (M 13 2)) := gfi_hp (show am_lay[13]? = some (1000 + 7, 6, [some 14, none, none, none, none, none]) from rfl) rfl
theorem pf_13_2 {x : Int32} : am_pf (hp M) 13 7 2 (.int x) = some (hp (up M 13 2 x)) := pf_hp (show am_lay[13]? = some (1000 + 7, 6, [some 14, none, none, none, none, none]) from rfl) rfl (by decide +kernel)
theorem gf_13_3 : am_gf (hp M) 13 7 3 = some (.int (M 13 3)) := gfi_hp (show am_lay[13]? = some (1000 + 7, 6, [some 14, none, none, none, none, none]) from rfl) rfl
theorem pf_13_3 {x : Int32} : am_pf (hp M) 13 7 3 (.int x) = some (hp (up M 13 3 x)) := pf_hp (show am_lay[13]? = some (1000 + 7, 6, [some 14, none, none, none, none, none]) from rfl) rfl (by decide +kernel)
theorem gf_13_4 : am_gf (hp M) 13 7 4 = some (.int (M 13 4)) := gfi_hp (show am_lay[13]? = some (1000 + 7, 6, [some 14, none, none, none, none, none]) from rfl) rfl
theorem pf_13_4 {x : Int32} : am_pf (hp M) 13 7 4 (.int x) = some (hp (up M 13 4 x)) := pf_hp (show am_lay[13]? = some (1000 + 7, 6, [some 14, none, none, none, none, none]) from rfl) rfl (by decide +kernel)
theorem gf_13_5 : am_gf (hp M) 13 7 5 = some (.int (M 13 5)) := gfi_hp (show am_lay[13]? = some (1000 + 7, 6, [some 14, none, none, none, none, none]) from rfl) rfl
theorem pf_13_5 {x : Int32} : am_pf (hp M) 13 7 5 (.int x) = some (hp (up M 13 5 x)) := pf_hp (show am_lay[13]? = some (1000 + 7, 6, [some 14, none, none, none, none, none]) from rfl) rfl (by decide +kernel)
theorem ga_14 : am_ga X (hp M) 14 = some (1, 320, M 14) := ga_hp (show am_lay[14]? = some (1, 320, []) from rfl) (by decide)
theorem wb_14 {i x : Int32} : am_wb (hp M) 14 i x = if am_in i 320 = true then some (hp (up M 14 i.toNatClampNeg (am_nb 1 x))) else none := wb_hp (show am_lay[14]? = some (1, 320, []) from rfl) (by decide)
theorem rc_15 : am_rcv (hp M) 1 (some (.ref 15)) = true := rcv_hp (show am_lay[15]? = some (1000 + 1, 10, [none, some 16, some 17, none, none, none, none, none, some 18, some 25]) from rfl)
theorem gf_15_0 : am_gf (hp M) 15 1 0 = some (.int (M 15 0)) := gfi_hp (show am_lay[15]? = some (1000 + 1, 10, [none, some 16, some 17, none, none, none, none, none, some 18, some 25]) from rfl) rfl
theorem pf_15_0 {x : Int32} : am_pf (hp M) 15 1 0 (.int x) = some (hp (up M 15 0 x)) := pf_hp (show am_lay[15]? = some (1000 + 1, 10, [none, some 16, some 17, none, none, none, none, none, some 18, some 25]) from rfl) rfl (by decide +kernel)
theorem gf_15_1 : am_gf (hp M) 15 1 1 = some (.ref 16) := gfr_hp (show am_lay[15]? = some (1000 + 1, 10, [none, some 16, some 17, none, none, none, none, none, some 18, some 25]) from rfl) rfl
theorem gf_15_2 : am_gf (hp M) 15 1 2 = some (.ref 17) := gfr_hp (show am_lay[15]? = some (1000 + 1, 10, [none, some 16, some 17, none, none, none, none, none, some 18, some 25]) from rfl) rfl
theorem gf_15_3 : am_gf (hp M) 15 1 3 = some (.int (M 15 3)) := gfi_hp (show am_lay[15]? = some (1000 + 1, 10, [none, some 16, some 17, none, none, none, none, none, some 18, some 25]) from rfl) rfl
theorem pf_15_3 {x : Int32} : am_pf (hp M) 15 1 3 (.int x) = some (hp (up M 15 3 x)) := pf_hp (show am_lay[15]? = some (1000 + 1, 10, [none, some 16, some 17, none, none, none, none, none, some 18, some 25]) from rfl) rfl (by decide +kernel)
theorem gf_15_4 : am_gf (hp M) 15 1 4 = some (.int (M 15 4)) := gfi_hp (show am_lay[15]? = some (1000 + 1, 10, [none, some 16, some 17, none, none, none, none, none, some 18, some 25]) from rfl) rfl
theorem pf_15_4 {x : Int32} : am_pf (hp M) 15 1 4 (.int x) = some (hp (up M 15 4 x)) := pf_hp (show am_lay[15]? = some (1000 + 1, 10, [none, some 16, some 17, none, none, none, none, none, some 18, some 25]) from rfl) rfl (by decide +kernel)
theorem gf_15_5 : am_gf (hp M) 15 1 5 = some (.int (M 15 5)) := gfi_hp (show am_lay[15]? = some (1000 + 1, 10, [none, some 16, some 17, none, none, none, none, none, some 18, some 25]) from rfl) rfl
theorem pf_15_5 {x : Int32} : am_pf (hp M) 15 1 5 (.int x) = some (hp (up M 15 5 x)) := pf_hp (show am_lay[15]? = some (1000 + 1, 10, [none, some 16, some 17, none, none, none, none, none, some 18, some 25]) from rfl) rfl (by decide +kernel)
theorem gf_15_6 : am_gf (hp M) 15 1 6 = some (.int (M 15 6)) := gfi_hp (show am_lay[15]? = some (1000 + 1, 10, [none, some 16, some 17, none, none, none, none, none, some 18, some 25]) from rfl) rfl
theorem pf_15_6 {x : Int32} : am_pf (hp M) 15 1 6 (.int x) = some (hp (up M 15 6 x)) := pf_hp (show am_lay[15]? = some (1000 + 1, 10, [none, some 16, some 17, none, none, none, none, none, some 18, some 25]) from rfl) rfl (by decide +kernel)
theorem gf_15_7 : am_gf (hp M) 15 1 7 = some (.int (M 15 7)) := gfi_hp (show am_lay[15]? = some (1000 + 1, 10, [none, some 16, some 17, none, none, none, none, none, some 18, some 25]) from rfl) rfl
theorem pf_15_7 {x : Int32} : am_pf (hp M) 15 1 7 (.int x) = some (hp (up M 15 7 x)) := pf_hp (show am_lay[15]? = some (1000 + 1, 10, [none, some 16, some 17, none, none, none, none, none, some 18, some 25]) from rfl) rfl (by decide +kernel)
theorem gf_15_8 : am_gf (hp M) 15 1 8 = some (.ref 18) := gfr_hp (show am_lay[15]? = some (1000 + 1, 10, [none, some 16, some 17, none, none, none, none, none, some 18, some 25]) from rfl) rfl
theorem gf_15_9 : am_gf (hp M) 15 1 9 = some (.ref 25) := gfr_hp (show am_lay[15]? = some (1000 + 1, 10, [none, some 16, some 17, none, none, none, none, none, some 18, some 25]) from rfl) rfl
theorem ga_16 : am_ga X (hp M) 16 = some (0, 6, M 16) := ga_hp (show am_lay[16]? = some (0, 6, []) from rfl) (by decide)
theorem wi_16 {i x : Int32} : am_wi (hp M) 16 i x = if am_in i 6 = true then some (hp (up M 16 i.toNatClampNeg x)) else none := wi_hp (show am_lay[16]? = some (0, 6, []) from rfl)
theorem ga_17 : am_ga X (hp M) 17 = some (0, 6, M 17) := ga_hp (show am_lay[17]? = some (0, 6, []) from rfl) (by decide)
theorem wi_17 {i x : Int32} : am_wi (hp M) 17 i x = if am_in i 6 = true then some (hp (up M 17 i.toNatClampNeg x)) else none := wi_hp (show am_lay[17]? = some (0, 6, []) from rfl)
theorem gq_18 : am_gq (hp M) 18 = some (5, 6, fun j => if j < 6 then ([some 19, some 20, some 21, some 22, some 23, some 24] : List (Option Nat)).getD j none else none) := gq_hp (show am_lay[18]? = some (5, 6, [some 19, some 20, some 21, some 22, some 23, some 24]) from rfl) (by decide)
theorem ga_19 : am_ga X (hp M) 19 = some (0, 10, M 19) := ga_hp (show am_lay[19]? = some (0, 10, []) from rfl) (by decide)
theorem wi_19 {i x : Int32} : am_wi (hp M) 19 i x = if am_in i 10 = true then some (hp (up M 19 i.toNatClampNeg x)) else none := wi_hp (show am_lay[19]? = some (0, 10, []) from rfl)
theorem ga_20 : am_ga X (hp M) 20 = some (0, 10, M 20) := ga_hp (show am_lay[20]? = some (0, 10, []) from rfl) (by decide)
theorem wi_20 {i x : Int32} : am_wi (hp M) 20 i x = if am_in i 10 = true then some (hp (up M 20 i.toNatClampNeg x)) else none := wi_hp (show am_lay[20]? = some (0, 10, []) from rfl)
theorem ga_21 : am_ga X (hp M) 21 = some (0, 10, M 21) := ga_hp (show am_lay[21]? = some (0, 10, []) from rfl) (by decide)
theorem wi_21 {i x : Int32} : am_wi (hp M) 21 i x = if am_in i 10 = true then some (hp (up M 21 i.toNatClampNeg x)) else none := wi_hp (show am_lay[21]? = some (0, 10, []) from rfl)
theorem ga_22 : am_ga X (hp M) 22 = some (0, 10, M 22) := ga_hp (show am_lay[22]? = some (0, 10, []) from rfl) (by decide)
theorem wi_22 {i x : Int32} : am_wi (hp M) 22 i x = if am_in i 10 = true then some (hp (up M 22 i.toNatClampNeg x)) else none := wi_hp (show am_lay[22]? = some (0, 10, []) from rfl)
theorem ga_23 : am_ga X (hp M) 23 = some (0, 10, M 23) := ga_hp (show am_lay[23]? = some (0, 10, []) from rfl) (by decide)
theorem wi_23 {i x : Int32} : am_wi (hp M) 23 i x = if am_in i 10 = true then some (hp (up M 23 i.toNatClampNeg x)) else none := wi_hp (show am_lay[23]? = some (0, 10, []) from rfl)
theorem ga_24 : am_ga X (hp M) 24 = some (0, 10, M 24) := ga_hp (show am_lay[24]? = some (0, 10, []) from rfl) (by decide)
theorem wi_24 {i x : Int32} : am_wi (hp M) 24 i x = if am_in i 10 = true then some (hp (up M 24 i.toNatClampNeg x)) else none := wi_hp (show am_lay[24]? = some (0, 10, []) from rfl)
theorem ga_25 : am_ga X (hp M) 25 = some (0, 8, M 25) := ga_hp (show am_lay[25]? = some (0, 8, []) from rfl) (by decide)
theorem wi_25 {i x : Int32} : am_wi (hp M) 25 i x = if am_in i 8 = true then some (hp (up M 25 i.toNatClampNeg x)) else none := wi_hp (show am_lay[25]? = some (0, 8, []) from rfl)
theorem gq_26 : am_gq (hp M) 26 = some (3, 2, fun j => if j < 2 then ([some 27, some 39] : List (Option Nat)).getD j none else none) := gq_hp (show am_lay[26]? = some (3, 2, [some 27, some 39]) from rfl) (by decide)
theorem rc_27 : am_rcv (hp M) 2 (some (.ref 27)) = true := rcv_hp (show am_lay[27]? = some (1000 + 2, 2, [some 28, none]) from rfl)
theorem gf_27_0 : am_gf (hp M) 27 2 0 = some (.ref 28) := gfr_hp (show am_lay[27]? = some (1000 + 2, 2, [some 28, none]) from rfl) rfl
theorem gf_27_1 : am_gf (hp M) 27 2 1 = some (.int (M 27 1)) := gfi_hp (show am_lay[27]? = some (1000 + 2, 2, [some 28, none]) from rfl) rfl
theorem pf_27_1 {x : Int32} : am_pf (hp M) 27 2 1 (.int x) = if x = 0 ∨ x = 1 then some (hp (up M 27 1 x)) else none := pz_hp (show am_lay[27]? = some (1000 + 2, 2, [some 28, none]) from rfl) rfl (by decide +kernel)
theorem rc_28 : am_rcv (hp M) 1 (some (.ref 28)) = true := rcv_hp (show am_lay[28]? = some (1000 + 1, 10, [none, some 29, some 30, none, none, none, none, none, some 31, some 38]) from rfl)
theorem gf_28_0 : am_gf (hp M) 28 1 0 = some (.int (M 28 0)) := gfi_hp (show am_lay[28]? = some (1000 + 1, 10, [none, some 29, some 30, none, none, none, none, none, some 31, some 38]) from rfl) rfl
theorem pf_28_0 {x : Int32} : am_pf (hp M) 28 1 0 (.int x) = some (hp (up M 28 0 x)) := pf_hp (show am_lay[28]? = some (1000 + 1, 10, [none, some 29, some 30, none, none, none, none, none, some 31, some 38]) from rfl) rfl (by decide +kernel)
theorem gf_28_1 : am_gf (hp M) 28 1 1 = some (.ref 29) := gfr_hp (show am_lay[28]? = some (1000 + 1, 10, [none, some 29, some 30, none, none, none, none, none, some 31, some 38]) from rfl) rfl
theorem gf_28_2 : am_gf (hp M) 28 1 2 = some (.ref 30) := gfr_hp (show am_lay[28]? = some (1000 + 1, 10, [none, some 29, some 30, none, none, none, none, none, some 31, some 38]) from rfl) rfl
theorem gf_28_3 : am_gf (hp M) 28 1 3 = some (.int (M 28 3)) := gfi_hp (show am_lay[28]? = some (1000 + 1, 10, [none, some 29, some 30, none, none, none, none, none, some 31, some 38]) from rfl) rfl
theorem pf_28_3 {x : Int32} : am_pf (hp M) 28 1 3 (.int x) = some (hp (up M 28 3 x)) := pf_hp (show am_lay[28]? = some (1000 + 1, 10, [none, some 29, some 30, none, none, none, none, none, some 31, some 38]) from rfl) rfl (by decide +kernel)
theorem gf_28_4 : am_gf (hp M) 28 1 4 = some (.int (M 28 4)) := gfi_hp (show am_lay[28]? = some (1000 + 1, 10, [none, some 29, some 30, none, none, none, none, none, some 31, some 38]) from rfl) rfl
theorem pf_28_4 {x : Int32} : am_pf (hp M) 28 1 4 (.int x) = some (hp (up M 28 4 x)) := pf_hp (show am_lay[28]? = some (1000 + 1, 10, [none, some 29, some 30, none, none, none, none, none, some 31, some 38]) from rfl) rfl (by decide +kernel)
theorem gf_28_5 : am_gf (hp M) 28 1 5 = some (.int (M 28 5)) := gfi_hp (show am_lay[28]? = some (1000 + 1, 10, [none, some 29, some 30, none, none, none, none, none, some 31, some 38]) from rfl) rfl
theorem pf_28_5 {x : Int32} : am_pf (hp M) 28 1 5 (.int x) = some (hp (up M 28 5 x)) := pf_hp (show am_lay[28]? = some (1000 + 1, 10, [none, some 29, some 30, none, none, none, none, none, some 31, some 38]) from rfl) rfl (by decide +kernel)
theorem gf_28_6 : am_gf (hp M) 28 1 6 = some (.int (M 28 6)) := gfi_hp (show am_lay[28]? = some (1000 + 1, 10, [none, some 29, some 30, none, none, none, none, none, some 31, some 38]) from rfl) rfl
theorem pf_28_6 {x : Int32} : am_pf (hp M) 28 1 6 (.int x) = some (hp (up M 28 6 x)) := pf_hp (show am_lay[28]? = some (1000 + 1, 10, [none, some 29, some 30, none, none, none, none, none, some 31, some 38]) from rfl) rfl (by decide +kernel)
theorem gf_28_7 : am_gf (hp M) 28 1 7 = some (.int (M 28 7)) := gfi_hp (show am_lay[28]? = some (1000 + 1, 10, [none, some 29, some 30, none, none, none, none, none, some 31, some 38]) from rfl) rfl
theorem pf_28_7 {x : Int32} : am_pf (hp M) 28 1 7 (.int x) = some (hp (up M 28 7 x)) := pf_hp (show am_lay[28]? = some (1000 + 1, 10, [none, some 29, some 30, none, none, none, none, none, some 31, some 38]) from rfl) rfl (by decide +kernel)
theorem gf_28_8 : am_gf (hp M) 28 1 8 = some (.ref 31) := gfr_hp (show am_lay[28]? = some (1000 + 1, 10, [none, some 29, some 30, none, none, none, none, none, some 31, some 38]) from rfl) rfl
theorem gf_28_9 : am_gf (hp M) 28 1 9 = some (.ref 38) := gfr_hp (show am_lay[28]? = some (1000 + 1, 10, [none, some 29, some 30, none, none, none, none, none, some 31, some 38]) from rfl) rfl
theorem ga_29 : am_ga X (hp M) 29 = some (0, 6, M 29) := ga_hp (show am_lay[29]? = some (0, 6, []) from rfl) (by decide)
theorem wi_29 {i x : Int32} : am_wi (hp M) 29 i x = if am_in i 6 = true then some (hp (up M 29 i.toNatClampNeg x)) else none := wi_hp (show am_lay[29]? = some (0, 6, []) from rfl)
theorem ga_30 : am_ga X (hp M) 30 = some (0, 6, M 30) := ga_hp (show am_lay[30]? = some (0, 6, []) from rfl) (by decide)
theorem wi_30 {i x : Int32} : am_wi (hp M) 30 i x = if am_in i 6 = true then some (hp (up M 30 i.toNatClampNeg x)) else none := wi_hp (show am_lay[30]? = some (0, 6, []) from rfl)
theorem gq_31 : am_gq (hp M) 31 = some (5, 6, fun j => if j < 6 then ([some 32, some 33, some 34, some 35, some 36, some 37] : List (Option Nat)).getD j none else none) := gq_hp (show am_lay[31]? = some (5, 6, [some 32, some 33, some 34, some 35, some 36, some 37]) from rfl) (by decide)
theorem ga_32 : am_ga X (hp M) 32 = some (0, 10, M 32) := ga_hp (show am_lay[32]? = some (0, 10, []) from rfl) (by decide)
theorem wi_32 {i x : Int32} : am_wi (hp M) 32 i x = if am_in i 10 = true then some (hp (up M 32 i.toNatClampNeg x)) else none := wi_hp (show am_lay[32]? = some (0, 10, []) from rfl)
theorem ga_33 : am_ga X (hp M) 33 = some (0, 10, M 33) := ga_hp (show am_lay[33]? = some (0, 10, []) from rfl) (by decide)
theorem wi_33 {i x : Int32} : am_wi (hp M) 33 i x = if am_in i 10 = true then some (hp (up M 33 i.toNatClampNeg x)) else none := wi_hp (show am_lay[33]? = some (0, 10, []) from rfl)
theorem ga_34 : am_ga X (hp M) 34 = some (0, 10, M 34) := ga_hp (show am_lay[34]? = some (0, 10, []) from rfl) (by decide)
theorem wi_34 {i x : Int32} : am_wi (hp M) 34 i x = if am_in i 10 = true then some (hp (up M 34 i.toNatClampNeg x)) else none := wi_hp (show am_lay[34]? = some (0, 10, []) from rfl)
theorem ga_35 : am_ga X (hp M) 35 = some (0, 10, M 35) := ga_hp (show am_lay[35]? = some (0, 10, []) from rfl) (by decide)
theorem wi_35 {i x : Int32} : am_wi (hp M) 35 i x = if am_in i 10 = true then some (hp (up M 35 i.toNatClampNeg x)) else none := wi_hp (show am_lay[35]? = some (0, 10, []) from rfl)
theorem ga_36 : am_ga X (hp M) 36 = some (0, 10, M 36) := ga_hp (show am_lay[36]? = some (0, 10, []) from rfl) (by decide)
theorem wi_36 {i x : Int32} : am_wi (hp M) 36 i x = if am_in i 10 = true then some (hp (up M 36 i.toNatClampNeg x)) else none := wi_hp (show am_lay[36]? = some (0, 10, []) from rfl)
theorem ga_37 : am_ga X (hp M) 37 = some (0, 10, M 37) := ga_hp (show am_lay[37]? = some (0, 10, []) from rfl) (by decide)
theorem wi_37 {i x : Int32} : am_wi (hp M) 37 i x = if am_in i 10 = true then some (hp (up M 37 i.toNatClampNeg x)) else none := wi_hp (show am_lay[37]? = some (0, 10, []) from rfl)
theorem ga_38 : am_ga X (hp M) 38 = some (0, 8, M 38) := ga_hp (show am_lay[38]? = some (0, 8, []) from rfl) (by decide)
theorem wi_38 {i x : Int32} : am_wi (hp M) 38 i x = if am_in i 8 = true then some (hp (up M 38 i.toNatClampNeg x)) else none := wi_hp (show am_lay[38]? = some (0, 8, []) from rfl)
theorem rc_39 : am_rcv (hp M) 2 (some (.ref 39)) = true := rcv_hp (show am_lay[39]? = some (1000 + 2, 2, [some 40, none]) from rfl)
theorem gf_39_0 : am_gf (hp M) 39 2 0 = some (.ref 40) := gfr_hp (show am_lay[39]? = some (1000 + 2, 2, [some 40, none]) from rfl) rfl
theorem gf_39_1 : am_gf (hp M) 39 2 1 = some (.int (M 39 1)) := gfi_hp (show am_lay[39]? = some (1000 + 2, 2, [some 40, none]) from rfl) rfl
theorem pf_39_1 {x : Int32} : am_pf (hp M) 39 2 1 (.int x) = if x = 0 ∨ x = 1 then some (hp (up M 39 1 x)) else none := pz_hp (show am_lay[39]? = some (1000 + 2, 2, [some 40, none]) from rfl) rfl (by decide +kernel)
theorem rc_40 : am_rcv (hp M) 1 (some (.ref 40)) = true := rcv_hp (show am_lay[40]? = some (1000 + 1, 10, [none, some 41, some 42, none, none, none, none, none, some 43, some 50]) from rfl)
theorem gf_40_0 : am_gf (hp M) 40 1 0 = some (.int (M 40 0)) := gfi_hp (show am_lay[40]? = some (1000 + 1, 10, [none, some 41, some 42, none, none, none, none, none, some 43, some 50]) from rfl) rfl
theorem pf_40_0 {x : Int32} : am_pf (hp M) 40 1 0 (.int x) = some (hp (up M 40 0 x)) := pf_hp (show am_lay[40]? = some (1000 + 1, 10, [none, some 41, some 42, none, none, none, none, none, some 43, some 50]) from rfl) rfl (by decide +kernel)
theorem gf_40_1 : am_gf (hp M) 40 1 1 = some (.ref 41) := gfr_hp (show am_lay[40]? = some (1000 + 1, 10, [none, some 41, some 42, none, none, none, none, none, some 43, some 50]) from rfl) rfl
theorem gf_40_2 : am_gf (hp M) 40 1 2 = some (.ref 42) := gfr_hp (show am_lay[40]? = some (1000 + 1, 10, [none, some 41, some 42, none, none, none, none, none, some 43, some 50]) from rfl) rfl
theorem gf_40_3 : am_gf (hp M) 40 1 3 = some (.int (M 40 3)) := gfi_hp (show am_lay[40]? = some (1000 + 1, 10, [none, some 41, some 42, none, none, none, none, none, some 43, some 50]) from rfl) rfl
theorem pf_40_3 {x : Int32} : am_pf (hp M) 40 1 3 (.int x) = some (hp (up M 40 3 x)) := pf_hp (show am_lay[40]? = some (1000 + 1, 10, [none, some 41, some 42, none, none, none, none, none, some 43, some 50]) from rfl) rfl (by decide +kernel)
theorem gf_40_4 : am_gf (hp M) 40 1 4 = some (.int (M 40 4)) := gfi_hp (show am_lay[40]? = some (1000 + 1, 10, [none, some 41, some 42, none, none, none, none, none, some 43, some 50]) from rfl) rfl
theorem pf_40_4 {x : Int32} : am_pf (hp M) 40 1 4 (.int x) = some (hp (up M 40 4 x)) := pf_hp (show am_lay[40]? = some (1000 + 1, 10, [none, some 41, some 42, none, none, none, none, none, some 43, some 50]) from rfl) rfl (by decide +kernel)
theorem gf_40_5 : am_gf (hp M) 40 1 5 = some (.int (M 40 5)) := gfi_hp (show am_lay[40]? = some (1000 + 1, 10, [none, some 41, some 42, none, none, none, none, none, some 43, some 50]) from rfl) rfl
theorem pf_40_5 {x : Int32} : am_pf (hp M) 40 1 5 (.int x) = some (hp (up M 40 5 x)) := pf_hp (show am_lay[40]? = some (1000 + 1, 10, [none, some 41, some 42, none, none, none, none, none, some 43, some 50]) from rfl) rfl (by decide +kernel)
theorem gf_40_6 : am_gf (hp M) 40 1 6 = some (.int (M 40 6)) := gfi_hp (show am_lay[40]? = some (1000 + 1, 10, [none, some 41, some 42, none, none, none, none, none, some 43, some 50]) from rfl) rfl
theorem pf_40_6 {x : Int32} : am_pf (hp M) 40 1 6 (.int x) = some (hp (up M 40 6 x)) := pf_hp (show am_lay[40]? = some (1000 + 1, 10, [none, some 41, some 42, none, none, none, none, none, some 43, some 50]) from rfl) rfl (by decide +kernel)
theorem gf_40_7 : am_gf (hp M) 40 1 7 = some (.int (M 40 7)) := gfi_hp (show am_lay[40]? = some (1000 + 1, 10, [none, some 41, some 42, none, none, none, none, none, some 43, some 50]) from rfl) rfl
theorem pf_40_7 {x : Int32} : am_pf (hp M) 40 1 7 (.int x) = some (hp (up M 40 7 x)) := pf_hp (show am_lay[40]? = some (1000 + 1, 10, [none, some 41, some 42, none, none, none, none, none, some 43, some 50]) from rfl) rfl (by decide +kernel)
theorem gf_40_8 : am_gf (hp M) 40 1 8 = some (.ref 43) := gfr_hp (show am_lay[40]? = some (1000 + 1, 10, [none, some 41, some 42, none, none, none, none, none, some 43, some 50]) from rfl) rfl
theorem gf_40_9 : am_gf (hp M) 40 1 9 = some (.ref 50) := gfr_hp (show am_lay[40]? = some (1000 + 1, 10, [none, some 41, some 42, none, none, none, none, none, some 43, some 50]) from rfl) rfl
theorem ga_41 : am_ga X (hp M) 41 = some (0, 6, M 41) := ga_hp (show am_lay[41]? = some (0, 6, []) from rfl) (by decide)
theorem wi_41 {i x : Int32} : am_wi (hp M) 41 i x = if am_in i 6 = true then some (hp (up M 41 i.toNatClampNeg x)) else none := wi_hp (show am_lay[41]? = some (0, 6, []) from rfl)
theorem ga_42 : am_ga X (hp M) 42 = some (0, 6, M 42) := ga_hp (show am_lay[42]? = some (0, 6, []) from rfl) (by decide)
theorem wi_42 {i x : Int32} : am_wi (hp M) 42 i x = if am_in i 6 = true then some (hp (up M 42 i.toNatClampNeg x)) else none := wi_hp (show am_lay[42]? = some (0, 6, []) from rfl)
theorem gq_43 : am_gq (hp M) 43 = some (5, 6, fun j => if j < 6 then ([some 44, some 45, some 46, some 47, some 48, some 49] : List (Option Nat)).getD j none else none) := gq_hp (show am_lay[43]? = some (5, 6, [some 44, some 45, some 46, some 47, some 48, some 49]) from rfl) (by decide)
theorem ga_44 : am_ga X (hp M) 44 = some (0, 10, M 44) := ga_hp (show am_lay[44]? = some (0, 10, []) from rfl) (by decide)
theorem wi_44 {i x : Int32} : am_wi (hp M) 44 i x = if am_in i 10 = true then some (hp (up M 44 i.toNatClampNeg x)) else none := wi_hp (show am_lay[44]? = some (0, 10, []) from rfl)
theorem ga_45 : am_ga X (hp M) 45 = some (0, 10, M 45) := ga_hp (show am_lay[45]? = some (0, 10, []) from rfl) (by decide)
theorem wi_45 {i x : Int32} : am_wi (hp M) 45 i x = if am_in i 10 = true then some (hp (up M 45 i.toNatClampNeg x)) else none := wi_hp (show am_lay[45]? = some (0, 10, []) from rfl)
theorem ga_46 : am_ga X (hp M) 46 = some (0, 10, M 46) := ga_hp (show am_lay[46]? = some (0, 10, []) from rfl) (by decide)
theorem wi_46 {i x : Int32} : am_wi (hp M) 46 i x = if am_in i 10 = true then some (hp (up M 46 i.toNatClampNeg x)) else none := wi_hp (show am_lay[46]? = some (0, 10, []) from rfl)
theorem ga_47 : am_ga X (hp M) 47 = some (0, 10, M 47) := ga_hp (show am_lay[47]? = some (0, 10, []) from rfl) (by decide)
theorem wi_47 {i x : Int32} : am_wi (hp M) 47 i x = if am_in i 10 = true then some (hp (up M 47 i.toNatClampNeg x)) else none := wi_hp (show am_lay[47]? = some (0, 10, []) from rfl)
theorem ga_48 : am_ga X (hp M) 48 = some (0, 10, M 48) := ga_hp (show am_lay[48]? = some (0, 10, []) from rfl) (by decide)
theorem wi_48 {i x : Int32} : am_wi (hp M) 48 i x = if am_in i 10 = true then some (hp (up M 48 i.toNatClampNeg x)) else none := wi_hp (show am_lay[48]? = some (0, 10, []) from rfl)
theorem ga_49 : am_ga X (hp M) 49 = some (0, 10, M 49) := ga_hp (show am_lay[49]? = some (0, 10, []) from rfl) (by decide)
theorem wi_49 {i x : Int32} : am_wi (hp M) 49 i x = if am_in i 10 = true then some (hp (up M 49 i.toNatClampNeg x)) else none := wi_hp (show am_lay[49]? = some (0, 10, []) from rfl)
theorem ga_50 : am_ga X (hp M) 50 = some (0, 8, M 50) := ga_hp (show am_lay[50]? = some (0, 8, []) from rfl) (by decide)
theorem wi_50 {i x : Int32} : am_wi (hp M) 50 i x = if am_in i 8 = true then some (hp (up M 50 i.toNatClampNeg x)) else none := wi_hp (show am_lay[50]? = some (0, 8, []) from rfl)
theorem gq_51 : am_gq (hp M) 51 = some (4, 4, fun j => if j < 4 then ([some 52, some 54, some 56, some 58] : List (Option Nat)).getD j none else none) := gq_hp (show am_lay[51]? = some (4, 4, [some 52, some 54, some 56, some 58]) from rfl) (by decide)
theorem rc_52 : am_rcv (hp M) 5 (some (.ref 52)) = true := rcv_hp (show am_lay[52]? = some (1000 + 5, 3, [some 53, none, none]) from rfl)
theorem gf_52_0 : am_gf (hp M) 52 5 0 = some (.ref 53) := gfr_hp (show am_lay[52]? = some (1000 + 5, 3, [some 53, none, none]) from rfl) rfl
theorem gf_52_1 : am_gf (hp M) 52 5 1 = some (.int (M 52 1)) := gfi_hp (show am_lay[52]? = some (1000 + 5, 3, [some 53, none, none]) from rfl) rfl
theorem pf_52_1 {x : Int32} : am_pf (hp M) 52 5 1 (.int x) = some (hp (up M 52 1 x)) := pf_hp (show am_lay[52]? = some (1000 + 5, 3, [some 53, none, none]) from rfl) rfl (by decide +kernel)
theorem gf_52_2 : am_gf (hp M) 52 5 2 = some (.int (M 52 2)) := gfi_hp (show am_lay[52]? = some (1000 + 5, 3, [some 53, none, none]) from rfl) rfl
theorem pf_52_2 {x : Int32} : am_pf (hp M) 52 5 2 (.int x) = some (hp (up M 52 2 x)) := pf_hp (show am_lay[52]? = some (1000 + 5, 3, [some 53, none, none]) from rfl) rfl (by decide +kernel)
theorem ga_53 : am_ga X (hp M) 53 = some (0, 40, M 53) := ga_hp (show am_lay[53]? = some (0, 40, []) from rfl) (by decide)
theorem wi_53 {i x : Int32} : am_wi (hp M) 53 i x = if am_in i 40 = true then some (hp (up M 53 i.toNatClampNeg x)) else none := wi_hp (show am_lay[53]? = some (0, 40, []) from rfl)
theorem rc_54 : am_rcv (hp M) 5 (some (.ref 54)) = true := rcv_hp (show am_lay[54]? = some (1000 + 5, 3, [some 55, none, none]) from rfl)
theorem gf_54_0 : am_gf (hp M) 54 5 0 = some (.ref 55) := gfr_hp (show am_lay[54]? = some (1000 + 5, 3, [some 55, none, none]) from rfl) rfl
theorem gf_54_1 : am_gf (hp M) 54 5 1 = some (.int (M 54 1)) := gfi_hp (show am_lay[54]? = some (1000 + 5, 3, [some 55, none, none]) from rfl) rfl
theorem pf_54_1 {x : Int32} : am_pf (hp M) 54 5 1 (.int x) = some (hp (up M 54 1 x)) := pf_hp (show am_lay[54]? = some (1000 + 5, 3, [some 55, none, none]) from rfl) rfl (by decide +kernel)
theorem gf_54_2 : am_gf (hp M) 54 5 2 = some (.int (M 54 2)) := gfi_hp (show am_lay[54]? = some (1000 + 5, 3, [some 55, none, none]) from rfl) rfl
theorem pf_54_2 {x : Int32} : am_pf (hp M) 54 5 2 (.int x) = some (hp (up M 54 2 x)) := pf_hp (show am_lay[54]? = some (1000 + 5, 3, [some 55, none, none]) from rfl) rfl (by decide +kernel)
theorem ga_55 : am_ga X (hp M) 55 = some (0, 40, M 55) := ga_hp (show am_lay[55]? = some (0, 40, []) from rfl) (by decide)
theorem wi_55 {i x : Int32} : am_wi (hp M) 55 i x = if am_in i 40 = true then some (hp (up M 55 i.toNatClampNeg x)) else none := wi_hp (show am_lay[55]? = some (0, 40, []) from rfl)
theorem rc_56 : am_rcv (hp M) 5 (some (.ref 56)) = true := rcv_hp (show am_lay[56]? = some (1000 + 5, 3, [some 57, none, none]) from rfl)
theorem gf_56_0 : am_gf (hp M) 56 5 0 = some (.ref 57) := gfr_hp (show am_lay[56]? = some (1000 + 5, 3, [some 57, none, none]) from rfl) rfl
theorem gf_56_1 : am_gf (hp M) 56 5 1 = some (.int (M 56 1)) := gfi_hp (show am_lay[56]? = some (1000 + 5, 3, [some 57, none, none]) from rfl) rfl
theorem pf_56_1 {x : Int32} : am_pf (hp M) 56 5 1 (.int x) = some (hp (up M 56 1 x)) := pf_hp (show am_lay[56]? = some (1000 + 5, 3, [some 57, none, none]) from rfl) rfl (by decide +kernel)
theorem gf_56_2 : am_gf (hp M) 56 5 2 = some (.int (M 56 2)) := gfi_hp (show am_lay[56]? = some (1000 + 5, 3, [some 57, none, none]) from rfl) rfl
theorem pf_56_2 {x : Int32} : am_pf (hp M) 56 5 2 (.int x) = some (hp (up M 56 2 x)) := pf_hp (show am_lay[56]? = some (1000 + 5, 3, [some 57, none, none]) from rfl) rfl (by decide +kernel)
theorem ga_57 : am_ga X (hp M) 57 = some (0, 40, M 57) := ga_hp (show am_lay[57]? = some (0, 40, []) from rfl) (by decide)
theorem wi_57 {i x : Int32} : am_wi (hp M) 57 i x = if am_in i 40 = true then some (hp (up M 57 i.toNatClampNeg x)) else none := wi_hp (show am_lay[57]? = some (0, 40, []) from rfl)
theorem rc_58 : am_rcv (hp M) 5 (some (.ref 58)) = true := rcv_hp (show am_lay[58]? = some (1000 + 5, 3, [some 59, none, none]) from rfl)
theorem gf_58_0 : am_gf (hp M) 58 5 0 = some (.ref 59) := gfr_hp (show am_lay[58]? = some (1000 + 5, 3, [some 59, none, none]) from rfl) rfl
theorem gf_58_1 : am_gf (hp M) 58 5 1 = some (.int (M 58 1)) := gfi_hp (show am_lay[58]? = some (1000 + 5, 3, [some 59, none, none]) from rfl) rfl
theorem pf_58_1 {x : Int32} : am_pf (hp M) 58 5 1 (.int x) = some (hp (up M 58 1 x)) := pf_hp (show am_lay[58]? = some (1000 + 5, 3, [some 59, none, none]) from rfl) rfl (by decide +kernel)
theorem gf_58_2 : am_gf (hp M) 58 5 2 = some (.int (M 58 2)) := gfi_hp (show am_lay[58]? = some (1000 + 5, 3, [some 59, none, none]) from rfl) rfl
theorem pf_58_2 {x : Int32} : am_pf (hp M) 58 5 2 (.int x) = some (hp (up M 58 2 x)) := pf_hp (show am_lay[58]? = some (1000 + 5, 3, [some 59, none, none]) from rfl) rfl (by decide +kernel)
theorem ga_59 : am_ga X (hp M) 59 = some (0, 40, M 59) := ga_hp (show am_lay[59]? = some (0, 40, []) from rfl) (by decide)
theorem wi_59 {i x : Int32} : am_wi (hp M) 59 i x = if am_in i 40 = true then some (hp (up M 59 i.toNatClampNeg x)) else none := wi_hp (show am_lay[59]? = some (0, 40, []) from rfl)
theorem rc_60 : am_rcv (hp M) 3 (some (.ref 60)) = true := rcv_hp (show am_lay[60]? = some (1000 + 3, 6, [some 61, some 62, some 63, none, none, none]) from rfl)
theorem gf_60_0 : am_gf (hp M) 60 3 0 = some (.ref 61) := gfr_hp (show am_lay[60]? = some (1000 + 3, 6, [some 61, some 62, some 63, none, none, none]) from rfl) rfl
theorem gf_60_1 : am_gf (hp M) 60 3 1 = some (.ref 62) := gfr_hp (show am_lay[60]? = some (1000 + 3, 6, [some 61, some 62, some 63, none, none, none]) from rfl) rfl
theorem gf_60_2 : am_gf (hp M) 60 3 2 = some (.ref 63) := gfr_hp (show am_lay[60]? = some (1000 + 3, 6, [some 61, some 62, some 63, none, none, none]) from rfl) rfl
theorem gf_60_3 : am_gf (hp M) 60 3 3 = some (.int (M 60 3)) := gfi_hp (show am_lay[60]? = some (1000 + 3, 6, [some 61, some 62, some 63, none, none, none]) from rfl) rfl
theorem pf_60_3 {x : Int32} : am_pf (hp M) 60 3 3 (.int x) = some (hp (up M 60 3 x)) := pf_hp (show am_lay[60]? = some (1000 + 3, 6, [some 61, some 62, some 63, none, none, none]) from rfl) rfl (by decide +kernel)
theorem gf_60_4 : am_gf (hp M) 60 3 4 = some (.int (M 60 4)) := gfi_hp (show am_lay[60]? = some (1000 + 3, 6, [some 61, some 62, some 63, none, none, none]) from rfl) rfl
theorem pf_60_4 {x : Int32} : am_pf (hp M) 60 3 4 (.int x) = some (hp (up M 60 4 x)) := pf_hp (show am_lay[60]? = some (1000 + 3, 6, [some 61, some 62, some 63, none, none, none]) from rfl) rfl (by decide +kernel)
theorem gf_60_5 : am_gf (hp M) 60 3 5 = some (.int (M 60 5)) := gfi_hp (show am_lay[60]? = some (1000 + 3, 6, [some 61, some 62, some 63, none, none, none]) from rfl) rfl
theorem pf_60_5 {x : Int32} : am_pf (hp M) 60 3 5 (.int x) = some (hp (up M 60 5 x)) := pf_hp (show am_lay[60]? = some (1000 + 3, 6, [some 61, some 62, some 63, none, none, none]) from rfl) rfl (by decide +kernel)
theorem ga_61 : am_ga X (hp M) 61 = some (0, 10, M 61) := ga_hp (show am_lay[61]? = some (0, 10, []) from rfl) (by decide)
theorem wi_61 {i x : Int32} : am_wi (hp M) 61 i x = if am_in i 10 = true then some (hp (up M 61 i.toNatClampNeg x)) else none := wi_hp (show am_lay[61]? = some (0, 10, []) from rfl)
theorem ga_62 : am_ga X (hp M) 62 = some (0, 10, M 62) := ga_hp (show am_lay[62]? = some (0, 10, []) from rfl) (by decide)
theorem wi_62 {i x : Int32} : am_wi (hp M) 62 i x = if am_in i 10 = true then some (hp (up M 62 i.toNatClampNeg x)) else none := wi_hp (show am_lay[62]? = some (0, 10, []) from rfl)
theorem ga_63 : am_ga X (hp M) 63 = some (0, 12, M 63) := ga_hp (show am_lay[63]? = some (0, 12, []) from rfl) (by decide)
theorem wi_63 {i x : Int32} : am_wi (hp M) 63 i x = if am_in i 12 = true then some (hp (up M 63 i.toNatClampNeg x)) else none := wi_hp (show am_lay[63]? = some (0, 12, []) from rfl)
theorem rc_64 : am_rcv (hp M) 0 (some (.ref 64)) = true := rcv_hp (show am_lay[64]? = some (1000 + 0, 10, [none, none, some 65, some 66, some 67, some 68, none, some 69, some 70, some 71]) from rfl)
theorem gf_64_0 : am_gf (hp M) 64 0 0 = some (.int (M 64 0)) := gfi_hp (show am_lay[64]? = some (1000 + 0, 10, [none, none, some 65, some 66, some 67, some 68, none, some 69, some 70, some 71]) from rfl) rfl
theorem pf_64_0 {x : Int32} : am_pf (hp M) 64 0 0 (.int x) = some (hp (up M 64 0 x)) := pf_hp (show am_lay[64]? = some (1000 + 0, 10, [none, none, some 65, some 66, some 67, some 68, none, some 69, some 70, some 71]) from rfl) rfl (by decide +kernel)
theorem gf_64_1 : am_gf (hp M) 64 0 1 = some (.int (M 64 1)) := gfi_hp (show am_lay[64]? = some (1000 + 0, 10, [none, none, some 65, some 66, some 67, some 68, none, some 69, some 70, some 71]) from rfl) rfl
theorem pf_64_1 {x : Int32} : am_pf (hp M) 64 0 1 (.int x) = some (hp (up M 64 1 x)) := pf_hp (show am_lay[64]? = some (1000 + 0, 10, [none, none, some 65, some 66, some 67, some 68, none, some 69, some 70, some 71]) from rfl) rfl (by decide +kernel)
theorem gf_64_2 : am_gf (hp M) 64 0 2 = some (.ref 65) := gfr_hp (show am_lay[64]? = some (1000 + 0, 10, [none, none, some 65, some 66, some 67, some 68, none, some 69, some 70, some 71]) from rfl) rfl
theorem gf_64_3 : am_gf (hp M) 64 0 3 = some (.ref 66) := gfr_hp (show am_lay[64]? = some (1000 + 0, 10, [none, none, some 65, some 66, some 67, some 68, none, some 69, some 70, some 71]) from rfl) rfl
theorem gf_64_4 : am_gf (hp M) 64 0 4 = some (.ref 67) := gfr_hp (show am_lay[64]? = some (1000 + 0, 10, [none, none, some 65, some 66, some 67, some 68, none, some 69, some 70, some 71]) from rfl) rfl
theorem gf_64_5 : am_gf (hp M) 64 0 5 = some (.ref 68) := gfr_hp (show am_lay[64]? = some (1000 + 0, 10, [none, none, some 65, some 66, some 67, some 68, none, some 69, some 70, some 71]) from rfl) rfl
theorem gf_64_6 : am_gf (hp M) 64 0 6 = some (.int (M 64 6)) := gfi_hp (show am_lay[64]? = some (1000 + 0, 10, [none, none, some 65, some 66, some 67, some 68, none, some 69, some 70, some 71]) from rfl) rfl
theorem pf_64_6 {x : Int32} : am_pf (hp M) 64 0 6 (.int x) = some (hp (up M 64 6 x)) := pf_hp (show am_lay[64]? = some (1000 + 0, 10, [none, none, some 65, some 66, some 67, some 68, none, some 69, some 70, some 71]) from rfl) rfl (by decide +kernel)
theorem gf_64_7 : am_gf (hp M) 64 0 7 = some (.ref 69) := gfr_hp (show am_lay[64]? = some (1000 + 0, 10, [none, none, some 65, some 66, some 67, some 68, none, some 69, some 70, some 71]) from rfl) rfl
theorem gf_64_8 : am_gf (hp M) 64 0 8 = some (.ref 70) := gfr_hp (show am_lay[64]? = some (1000 + 0, 10, [none, none, some 65, some 66, some 67, some 68, none, some 69, some 70, some 71]) from rfl) rfl
theorem gf_64_9 : am_gf (hp M) 64 0 9 = some (.ref 71) := gfr_hp (show am_lay[64]? = some (1000 + 0, 10, [none, none, some 65, some 66, some 67, some 68, none, some 69, some 70, some 71]) from rfl) rfl
theorem ga_65 : am_ga X (hp M) 65 = some (0, 12, M 65) := ga_hp (show am_lay[65]? = some (0, 12, []) from rfl) (by decide)
theorem wi_65 {i x : Int32} : am_wi (hp M) 65 i x = if am_in i 12 = true then some (hp (up M 65 i.toNatClampNeg x)) else none := wi_hp (show am_lay[65]? = some (0, 12, []) from rfl)
theorem ga_66 : am_ga X (hp M) 66 = some (0, 12, M 66) := ga_hp (show am_lay[66]? = some (0, 12, []) from rfl) (by decide)
theorem wi_66 {i x : Int32} : am_wi (hp M) 66 i x = if am_in i 12 = true then some (hp (up M 66 i.toNatClampNeg x)) else none := wi_hp (show am_lay[66]? = some (0, 12, []) from rfl)
theorem ga_67 : am_ga X (hp M) 67 = some (0, 12, M 67) := ga_hp (show am_lay[67]? = some (0, 12, []) from rfl) (by decide)
theorem wi_67 {i x : Int32} : am_wi (hp M) 67 i x = if am_in i 12 = true then some (hp (up M 67 i.toNatClampNeg x)) else none := wi_hp (show am_lay[67]? = some (0, 12, []) from rfl)
theorem ga_68 : am_ga X (hp M) 68 = some (0, 12, M 68) := ga_hp (show am_lay[68]? = some (0, 12, []) from rfl) (by decide)
theorem wi_68 {i x : Int32} : am_wi (hp M) 68 i x = if am_in i 12 = true then some (hp (up M 68 i.toNatClampNeg x)) else none := wi_hp (show am_lay[68]? = some (0, 12, []) from rfl)
theorem ga_69 : am_ga X (hp M) 69 = some (0, 10, M 69) := ga_hp (show am_lay[69]? = some (0, 10, []) from rfl) (by decide)
theorem wi_69 {i x : Int32} : am_wi (hp M) 69 i x = if am_in i 10 = true then some (hp (up M 69 i.toNatClampNeg x)) else none := wi_hp (show am_lay[69]? = some (0, 10, []) from rfl)
theorem ga_70 : am_ga X (hp M) 70 = some (0, 10, M 70) := ga_hp (show am_lay[70]? = some (0, 10, []) from rfl) (by decide)
theorem wi_70 {i x : Int32} : am_wi (hp M) 70 i x = if am_in i 10 = true then some (hp (up M 70 i.toNatClampNeg x)) else none := wi_hp (show am_lay[70]? = some (0, 10, []) from rfl)
theorem ga_71 : am_ga X (hp M) 71 = some (0, 10, M 71) := ga_hp (show am_lay[71]? = some (0, 10, []) from rfl) (by decide)
theorem wi_71 {i x : Int32} : am_wi (hp M) 71 i x = if am_in i 10 = true then some (hp (up M 71 i.toNatClampNeg x)) else none := wi_hp (show am_lay[71]? = some (0, 10, []) from rfl)
theorem rc_72 : am_rcv (hp M) 0 (some (.ref 72)) = true := rcv_hp (show am_lay[72]? = some (1000 + 0, 10, [none, none, some 73, some 74, some 75, some 76, none, some 77, some 78, some 79]) from rfl)
theorem gf_72_0 : am_gf (hp M) 72 0 0 = some (.int (M 72 0)) := gfi_hp (show am_lay[72]? = some (1000 + 0, 10, [none, none, some 73, some 74, some 75, some 76, none, some 77, some 78, some 79]) from rfl) rfl
theorem pf_72_0 {x : Int32} : am_pf (hp M) 72 0 0 (.int x) = some (hp (up M 72 0 x)) := pf_hp (show am_lay[72]? = some (1000 + 0, 10, [none, none, some 73, some 74, some 75, some 76, none, some 77, some 78, some 79]) from rfl) rfl (by decide +kernel)
theorem gf_72_1 : am_gf (hp M) 72 0 1 = some (.int (M 72 1)) := gfi_hp (show am_lay[72]? = some (1000 + 0, 10, [none, none, some 73, some 74, some 75, some 76, none, some 77, some 78, some 79]) from rfl) rfl
theorem pf_72_1 {x : Int32} : am_pf (hp M) 72 0 1 (.int x) = some (hp (up M 72 1 x)) := pf_hp (show am_lay[72]? = some (1000 + 0, 10, [none, none, some 73, some 74, some 75, some 76, none, some 77, some 78, some 79]) from rfl) rfl (by decide +kernel)
theorem gf_72_2 : am_gf (hp M) 72 0 2 = some (.ref 73) := gfr_hp (show am_lay[72]? = some (1000 + 0, 10, [none, none, some 73, some 74, some 75, some 76, none, some 77, some 78, some 79]) from rfl) rfl
theorem gf_72_3 : am_gf (hp M) 72 0 3 = some (.ref 74) := gfr_hp (show am_lay[72]? = some (1000 + 0, 10, [none, none, some 73, some 74, some 75, some 76, none, some 77, some 78, some 79]) from rfl) rfl
theorem gf_72_4 : am_gf (hp M) 72 0 4 = some (.ref 75) := gfr_hp (show am_lay[72]? = some (1000 + 0, 10, [none, none, some 73, some 74, some 75, some 76, none, some 77, some 78, some 79]) from rfl) rfl
theorem gf_72_5 : am_gf (hp M) 72 0 5 = some (.ref 76) := gfr_hp (show am_lay[72]? = some (1000 + 0, 10, [none, none, some 73, some 74, some 75, some 76, none, some 77, some 78, some 79]) from rfl) rfl
theorem gf_72_6 : am_gf (hp M) 72 0 6 = some (.int (M 72 6)) := gfi_hp (show am_lay[72]? = some (1000 + 0, 10, [none, none, some 73, some 74, some 75, some 76, none, some 77, some 78, some 79]) from rfl) rfl
theorem pf_72_6 {x : Int32} : am_pf (hp M) 72 0 6 (.int x) = some (hp (up M 72 6 x)) := pf_hp (show am_lay[72]? = some (1000 + 0, 10, [none, none, some 73, some 74, some 75, some 76, none, some 77, some 78, some 79]) from rfl) rfl (by decide +kernel)
theorem gf_72_7 : am_gf (hp M) 72 0 7 = some (.ref 77) := gfr_hp (show am_lay[72]? = some (1000 + 0, 10, [none, none, some 73, some 74, some 75, some 76, none, some 77, some 78, some 79]) from rfl) rfl
theorem gf_72_8 : am_gf (hp M) 72 0 8 = some (.ref 78) := gfr_hp (show am_lay[72]? = some (1000 + 0, 10, [none, none, some 73, some 74, some 75, some 76, none, some 77, some 78, some 79]) from rfl) rfl
theorem gf_72_9 : am_gf (hp M) 72 0 9 = some (.ref 79) := gfr_hp (show am_lay[72]? = some (1000 + 0, 10, [none, none, some 73, some 74, some 75, some 76, none, some 77, some 78, some 79]) from rfl) rfl
theorem ga_73 : am_ga X (hp M) 73 = some (0, 12, M 73) := ga_hp (show am_lay[73]? = some (0, 12, []) from rfl) (by decide)
theorem wi_73 {i x : Int32} : am_wi (hp M) 73 i x = if am_in i 12 = true then some (hp (up M 73 i.toNatClampNeg x)) else none := wi_hp (show am_lay[73]? = some (0, 12, []) from rfl)
theorem ga_74 : am_ga X (hp M) 74 = some (0, 12, M 74) := ga_hp (show am_lay[74]? = some (0, 12, []) from rfl) (by decide)
theorem wi_74 {i x : Int32} : am_wi (hp M) 74 i x = if am_in i 12 = true then some (hp (up M 74 i.toNatClampNeg x)) else none := wi_hp (show am_lay[74]? = some (0, 12, []) from rfl)
theorem ga_75 : am_ga X (hp M) 75 = some (0, 12, M 75) := ga_hp (show am_lay[75]? = some (0, 12, []) from rfl) (by decide)
theorem wi_75 {i x : Int32} : am_wi (hp M) 75 i x = if am_in i 12 = true then some (hp (up M 75 i.toNatClampNeg x)) else none := wi_hp (show am_lay[75]? = some (0, 12, []) from rfl)
theorem ga_76 : am_ga X (hp M) 76 = some (0, 12, M 76) := ga_hp (show am_lay[76]? = some (0, 12, []) from rfl) (by decide)
theorem wi_76 {i x : Int32} : am_wi (hp M) 76 i x = if am_in i 12 = true then some (hp (up M 76 i.toNatClampNeg x)) else none := wi_hp (show am_lay[76]? = some (0, 12, []) from rfl)
theorem ga_77 : am_ga X (hp M) 77 = some (0, 10, M 77) := ga_hp (show am_lay[77]? = some (0, 10, []) from rfl) (by decide)
theorem wi_77 {i x : Int32} : am_wi (hp M) 77 i x = if am_in i 10 = true then some (hp (up M 77 i.toNatClampNeg x)) else none := wi_hp (show am_lay[77]? = some (0, 10, []) from rfl)
theorem ga_78 : am_ga X (hp M) 78 = some (0, 10, M 78) := ga_hp (show am_lay[78]? = some (0, 10, []) from rfl) (by decide)
theorem wi_78 {i x : Int32} : am_wi (hp M) 78 i x = if am_in i 10 = true then some (hp (up M 78 i.toNatClampNeg x)) else none := wi_hp (show am_lay[78]? = some (0, 10, []) from rfl)
theorem ga_79 : am_ga X (hp M) 79 = some (0, 10, M 79) := ga_hp (show am_lay[79]? = some (0, 10, []) from rfl) (by decide)
theorem wi_79 {i x : Int32} : am_wi (hp M) 79 i x = if am_in i 10 = true then some (hp (up M 79 i.toNatClampNeg x)) else none := wi_hp (show am_lay[79]? = some (0, 10, []) from rfl)
theorem rc_80 : am_rcv (hp M) 4 (some (.ref 80)) = true := rcv_hp (show am_lay[80]? = some (1000 + 4, 2, [some 81, none]) from rfl)
theorem gf_80_0 : am_gf (hp M) 80 4 0 = some (.ref 81) := gfr_hp (show am_lay[80]? = some (1000 + 4, 2, [some 81, none]) from rfl) rfl
theorem gf_80_1 : am_gf (hp M) 80 4 1 = some (.int (M 80 1)) := gfi_hp (show am_lay[80]? = some (1000 + 4, 2, [some 81, none]) from rfl) rfl
theorem pf_80_1 {x : Int32} : am_pf (hp M) 80 4 1 (.int x) = some (hp (up M 80 1 x)) := pf_hp (show am_lay[80]? = some (1000 + 4, 2, [some 81, none]) from rfl) rfl (by decide +kernel)
theorem ga_81 : am_ga X (hp M) 81 = some (0, 12, M 81) := ga_hp (show am_lay[81]? = some (0, 12, []) from rfl) (by decide)
theorem wi_81 {i x : Int32} : am_wi (hp M) 81 i x = if am_in i 12 = true then some (hp (up M 81 i.toNatClampNeg x)) else none := wi_hp (show am_lay[81]? = some (0, 12, []) from rfl)
theorem rc_82 : am_rcv (hp M) 9 (some (.ref 82)) = true := rcv_hp (show am_lay[82]? = some (1000 + 9, 26, [some 83, some 84, some 85, some 86, some 87, some 88, none, none, none, none, none, none, none, some 89, some 90, some 91, none, some 92, some 93, some 94, some 95, some 96, some 97, some 98, some 99, none]) from rfl)
theorem gf_82_0 : am_gf (hp M) 82 9 0 = some (.ref 83) := gfr_hp (show am_lay[82]? = some (1000 + 9, 26, [some 83, some 84, some 85, some 86, some 87, some 88, none, none, none, none, none, none, none, some 89, some 90, some 91, none, some 92, some 93, some 94, some 95, some 96, some 97, some 98, some 99, none]) from rfl) rfl
theorem gf_82_1 : am_gf (hp M) 82 9 1 = some (.ref 84) := gfr_hp (show am_lay[82]? = some (1000 + 9, 26, [some 83, some 84, some 85, some 86, some 87, some 88, none, none, none, none, none, none, none, some 89, some 90, some 91, none, some 92, some 93, some 94, some 95, some 96, some 97, some 98, some 99, none]) from rfl) rfl
theorem gf_82_2 : am_gf (hp M) 82 9 2 = some (.ref 85) := gfr_hp (show am_lay[82]? = some (1000 + 9, 26, [some 83, some 84, some 85, some 86, some 87, some 88, none, none, none, none, none, none, none, some 89, some 90, some 91, none, some 92, some 93, some 94, some 95, some 96, some 97, some 98, some 99, none]) from rfl) rfl
theorem gf_82_3 : am_gf (hp M) 82 9 3 = some (.ref 86) := gfr_hp (show am_lay[82]? = some (1000 + 9, 26, [some 83, some 84, some 85, some 86, some 87, some 88, none, none, none, none, none, none, none, some 89, some 90, some 91, none, some 92, some 93, some 94, some 95, some 96, some 97, some 98, some 99, none]) from rfl) rfl
theorem gf_82_4 : am_gf (hp M) 82 9 4 = some (.ref 87) := gfr_hp (show am_lay[82]? = some (1000 + 9, 26, [some 83, some 84, some 85, some 86, some 87, some 88, none, none, none, none, none, none, none, some 89, some 90, some 91, none, some 92, some 93, some 94, some 95, some 96, some 97, some 98, some 99, none]) from rfl) rfl
theorem gf_82_5 : am_gf (hp M) 82 9 5 = some (.ref 88) := gfr_hp (show am_lay[82]? = some (1000 + 9, 26, [some 83, some 84, some 85, some 86, some 87, some 88, none, none, none, none, none, none, none, some 89, some 90, some 91, none, some 92, some 93, some 94, some 95, some 96, some 97, some 98, some 99, none]) from rfl) rfl
theorem gf_82_6 : am_gf (hp M) 82 9 6 = some (.int (M 82 6)) := gfi_hp (show am_lay[82]? = some (1000 + 9, 26, [some 83, some 84, some 85, some 86, some 87, some 88, none, none, none, none, none, none, none, some 89, some 90, some 91, none, some 92, some 93, some 94, some 95, some 96, some 97, some 98, some 99, none]) from rfl) rfl
theorem pf_82_6 {x : Int32} : am_pf (hp M) 82 9 6 (.int x) = some (hp (up M 82 6 x)) := pf_hp (show am_lay[82]? = some (1000 + 9, 26, [some 83, some 84, some 85, some 86, some 87, some 88, none, none, none, none, none, none, none, some 89, some 90, some 91, none, some 92, some 93, some 94, some 95, some 96, some 97, some 98, some 99, none]) from rfl) rfl (by decide +kernel)
theorem gf_82_7 : am_gf (hp M) 82 9 7 = some (.int (M 82 7)) := gfi_hp (show am_lay[82]? = some (1000 + 9, 26, [some 83, some 84, some 85, some 86, some 87, some 88, none, none, none, none, none, none, none, some 89, some 90, some 91, none, some 92, some 93, some 94, some 95, some 96, some 97, some 98, some 99, none]) from rfl) rfl
theorem pf_82_7 {x : Int32} : am_pf (hp M) 82 9 7 (.int x) = some (hp (up M 82 7 x)) := pf_hp (show am_lay[82]? = some (1000 + 9, 26, [some 83, some 84, some 85, some 86, some 87, some 88, none, none, none, none, none, none, none, some 89, some 90, some 91, none, some 92, some 93, some 94, some 95, some 96, some 97, some 98, some 99, none]) from rfl) rfl (by decide +kernel)
theorem gf_82_8 : am_gf (hp M) 82 9 8 = some (.int (M 82 8)) := gfi_hp (show am_lay[82]? = some (1000 + 9, 26, [some 83, some 84, some 85, some 86, some 87, some 88, none, none, none, none, none, none, none, some 89, some 90, some 91, none, some 92, some 93, some 94, some 95, some 96, some 97, some 98, some 99, none]) from rfl) rfl
theorem pf_82_8 {x : Int32} : am_pf (hp M) 82 9 8 (.int x) = some (hp (up M 82 8 x)) := pf_hp (show am_lay[82]? = some (1000 + 9, 26, [some 83, some 84, some 85, some 86, some 87, some 88, none, none, none, none, none, none, none, some 89, some 90, some 91, none, some 92, some 93, some 94, some 95, some 96, some 97, some 98, some 99, none]) from rfl) rfl (by decide +kernel)
theorem gf_82_9 : am_gf (hp M) 82 9 9 = some (.int (M 82 9)) := gfi_hp (show am_lay[82]? = some (1000 + 9, 26, [some 83, some 84, some 85, some 86, some 87, some 88, none, none, none, none, none, none, none, some 89, some 90, some 91, none, some 92, some 93, some 94, some 95, some 96, some 97, some 98, some 99, none]) from rfl) rfl
theorem pf_82_9 {x : Int32} : am_pf (hp M) 82 9 9 (.int x) = some (hp (up M 82 9 x)) := pf_hp (show am_lay[82]? = some (1000 + 9, 26, [some 83, some 84, some 85, some 86, some 87, some 88, none, none, none, none, none, none, none, some 89, some 90, some 91, none, some 92, some 93, some 94, some 95, some 96, some 97, some 98, some 99, none]) from rfl) rfl (by decide +kernel)
theorem gf_82_10 : am_gf (hp M) 82 9 10 = some (.int (M 82 10)) := gfi_hp (show am_lay[82]? = some (1000 + 9, 26, [some 83, some 84, some 85, some 86, some 87, some 88, none, none, none, none, none, none, none, some 89, some 90, some 91, none, some 92, some 93, some 94, some 95, some 96, some 97, some 98, some 99, none]) from rfl) rfl
theorem pf_82_10 {x : Int32} : am_pf (hp M) 82 9 10 (.int x) = some (hp (up M 82 10 x)) := pf_hp (show am_lay[82]? = some (1000 + 9, 26, [some 83, some 84, some 85, some 86, some 87, some 88, none, none, none, none, none, none, none, some 89, some 90, some 91, none, some 92, some 93, some 94, some 95, some 96, some 97, some 98, some 99, none]) from rfl) rfl (by decide +kernel)
theorem gf_82_11 : am_gf (hp M) 82 9 11 = some (.int (M 82 11)) := gfi_hp (show am_lay[82]? = some (1000 + 9, 26, [some 83, some 84, some 85, some 86, some 87, some 88, none, none, none, none, none, none, none, some 89, some 90, some 91, none, some 92, some 93, some 94, some 95, some 96, some 97, some 98, some 99, none]) from rfl) rfl
theorem pf_82_11 {x : Int32} : am_pf (hp M) 82 9 11 (.int x) = some (hp (up M 82 11 x)) := pf_hp (show am_lay[82]? = some (1000 + 9, 26, [some 83, some 84, some 85, some 86, some 87, some 88, none, none, none, none, none, none, none, some 89, some 90, some 91, none, some 92, some 93, some 94, some 95, some 96, some 97, some 98, some 99, none]) from rfl) rfl (by decide +kernel)
theorem gf_82_12 : am_gf (hp M) 82 9 12 = some (.int (M 82 12)) := gfi_hp (show am_lay[82]? = some (1000 + 9, 26, [some 83, some 84, some 85, some 86, some 87, some 88, none, none, none, none, none, none, none, some 89, some 90, some 91, none, some 92, some 93, some 94, some 95, some 96, some 97, some 98, some 99, none]) from rfl) rfl
theorem pf_82_12 {x : Int32} : am_pf (hp M) 82 9 12 (.int x) = some (hp (up M 82 12 x)) := pf_hp (show am_lay[82]? = some (1000 + 9, 26, [some 83, some 84, some 85, some 86, some 87, some 88, none, none, none, none, none, none, none, some 89, some 90, some 91, none, some 92, some 93, some 94, some 95, some 96, some 97, some 98, some 99, none]) from rfl) rfl (by decide +kernel)
theorem gf_82_13 : am_gf (hp M) 82 9 13 = some (.ref 89) := gfr_hp (show am_lay[82]? = some (1000 + 9, 26, [some 83, some 84, some 85, some 86, some 87, some 88, none, none, none, none, none, none, none, some 89, some 90, some 91, none, some 92, some 93, some 94, some 95, some 96, some 97, some 98, some 99, none]) from rfl) rfl
theorem gf_82_14 : am_gf (hp M) 82 9 14 = some (.ref 90) := gfr_hp (show am_lay[82]? = some (1000 + 9, 26, [some 83, some 84, some 85, some 86, some 87, some 88, none, none, none, none, none, none, none, some 89, some 90, some 91, none, some 92, some 93, some 94, some 95, some 96, some 97, some 98, some 99, none]) from rfl) rfl
theorem gf_82_15 : am_gf (hp M) 82 9 15 = some (.ref 91) := gfr_hp (show am_lay[82]? = some (1000 + 9, 26, [some 83, some 84, some 85, some 86, some 87, some 88, none, none, none, none, none, none, none, some 89, some 90, some 91, none, some 92, some 93, some 94, some 95, some 96, some 97, some 98, some 99, none]) from rfl) rfl
theorem gf_82_16 : am_gf (hp M) 82 9 16 = some (.int (M 82 16)) := gfi_hp (show am_lay[82]? = some (1000 + 9, 26, [some 83, some 84, some 85, some 86, some 87, some 88, none, none, none, none, none, none, none, some 89, some 90, some 91, none, some 92, some 93, some 94, some 95, some 96, some 97, some 98, some 99, none]) from rfl) rfl
theorem pf_82_16 {x : Int32} : am_pf (hp M) 82 9 16 (.int x) = some (hp (up M 82 16 x)) := pf_hp (show am_lay[82]? = some (1000 + 9, 26, [some 83, some 84, some 85, some 86, some 87, some 88, none, none, none, none, none, none, none, some 89, some 90, some 91, none, some 92, some 93, some 94, some 95, some 96, some 97, some 98, some 99, none]) from rfl) rfl (by decide +kernel)
theorem gf_82_17 : am_gf (hp M) 82 9 17 = some (.ref 92) := gfr_hp (show am_lay[82]? = some (1000 + 9, 26, [some 83, some 84, some 85, some 86, some 87, some 88, none, none, none, none, none, none, none, some 89, some 90, some 91, none, some 92, some 93, some 94, some 95, some 96, some 97, some 98, some 99, none]) from rfl) rfl
theorem gf_82_18 : am_gf (hp M) 82 9 18 = some (.ref 93) := gfr_hp (show am_lay[82]? = some (1000 + 9, 26, [some 83, some 84, some 85, some 86, some 87, some 88, none, none, none, none, none, none, none, some 89, some 90, some 91, none, some 92, some 93, some 94, some 95, some 96, some 97, some 98, some 99, none]) from rfl) rfl
theorem gf_82_19 : am_gf (hp M) 82 9 19 = some (.ref 94) := gfr_hp (show am_lay[82]? = some (1000 + 9, 26, [some 83, some 84, some 85, some 86, some 87, some 88, none, none, none, none, none, none, none, some 89, some 90, some 91, none, some 92, some 93, some 94, some 95, some 96, some 97, some 98, some 99, none]) from rfl) rfl
theorem gf_82_20 : am_gf (hp M) 82 9 20 = some (.ref 95) := gfr_hp (show am_lay[82]? = some (1000 + 9, 26, [some 83, some 84, some 85, some 86, some 87, some 88, none, none, none, none, none, none, none, some 89, some 90, some 91, none, some 92, some 93, some 94, some 95, some 96, some 97, some 98, some 99, none]) from rfl) rfl
theorem gf_82_21 : am_gf (hp M) 82 9 21 = some (.ref 96) := gfr_hp (show am_lay[82]? = some (1000 + 9, 26, [some 83, some 84, some 85, some 86, some 87, some 88, none, none, none, none, none, none, none, some 89, some 90, some 91, none, some 92, some 93, some 94, some 95, some 96, some 97, some 98, some 99, none]) from rfl) rfl
theorem gf_82_22 : am_gf (hp M) 82 9 22 = some (.ref 97) := gfr_hp (show am_lay[82]? = some (1000 + 9, 26, [some 83, some 84, some 85, some 86, some 87, some 88, none, none, none, none, none, none, none, some 89, some 90, some 91, none, some 92, some 93, some 94, some 95, some 96, some 97, some 98, some 99, none]) from rfl) rfl
theorem gf_82_23 : am_gf (hp M) 82 9 23 = some (.ref 98) := gfr_hp (show am_lay[82]? = some (1000 + 9, 26, [some 83, some 84, some 85, some 86, some 87, some 88, none, none, none, none, none, none, none, some 89, some 90, some 91, none, some 92, some 93, some 94, some 95, some 96, some 97, some 98, some 99, none]) from rfl) rfl
theorem gf_82_24 : am_gf (hp M) 82 9 24 = some (.ref 99) := gfr_hp (show am_lay[82]? = some (1000 + 9, 26, [some 83, some 84, some 85, some 86, some 87, some 88, none, none, none, none, none, none, none, some 89, some 90, some 91, none, some 92, some 93, some 94, some 95, some 96, some 97, some 98, some 99, none]) from rfl) rfl
theorem gf_82_25 : am_gf (hp M) 82 9 25 = some (.int (M 82 25)) := gfi_hp (show am_lay[82]? = some (1000 + 9, 26, [some 83, some 84, some 85, some 86, some 87, some 88, none, none, none, none, none, none, none, some 89, some 90, some 91, none, some 92, some 93, some 94, some 95, some 96, some 97, some 98, some 99, none]) from rfl) rfl
theorem pf_82_25 {x : Int32} : am_pf (hp M) 82 9 25 (.int x) = some (hp (up M 82 25 x)) := pf_hp (show am_lay[82]? = some (1000 + 9, 26, [some 83, some 84, some 85, some 86, some 87, some 88, none, none, none, none, none, none, none, some 89, some 90, some 91, none, some 92, some 93, some 94, some 95, some 96, some 97, some 98, some 99, none]) from rfl) rfl (by decide +kernel)
theorem ga_83 : am_ga X (hp M) 83 = some (0, 86, M 83) := ga_hp (show am_lay[83]? = some (0, 86, []) from rfl) (by decide)
theorem wi_83 {i x : Int32} : am_wi (hp M) 83 i x = if am_in i 86 = true then some (hp (up M 83 i.toNatClampNeg x)) else none := wi_hp (show am_lay[83]? = some (0, 86, []) from rfl)
theorem ga_84 : am_ga X (hp M) 84 = some (0, 172, M 84) := ga_hp (show am_lay[84]? = some (0, 172, []) from rfl) (by decide)
theorem wi_84 {i x : Int32} : am_wi (hp M) 84 i x = if am_in i 172 = true then some (hp (up M 84 i.toNatClampNeg x)) else none := wi_hp (show am_lay[84]? = some (0, 172, []) from rfl)
theorem ga_85 : am_ga X (hp M) 85 = some (2, 2, M 85) := ga_hp (show am_lay[85]? = some (2, 2, []) from rfl) (by decide)
theorem wb_85 {i x : Int32} : am_wb (hp M) 85 i x = if am_in i 2 = true then some (hp (up M 85 i.toNatClampNeg (am_nb 2 x))) else none := wb_hp (show am_lay[85]? = some (2, 2, []) from rfl) (by decide)
theorem ga_86 : am_ga X (hp M) 86 = some (0, 86, M 86) := ga_hp (show am_lay[86]? = some (0, 86, []) from rfl) (by decide)
theorem wi_86 {i x : Int32} : am_wi (hp M) 86 i x = if am_in i 86 = true then some (hp (up M 86 i.toNatClampNeg x)) else none := wi_hp (show am_lay[86]? = some (0, 86, []) from rfl)
theorem ga_87 : am_ga X (hp M) 87 = some (2, 4, M 87) := ga_hp (show am_lay[87]? = some (2, 4, []) from rfl) (by decide)
theorem wb_87 {i x : Int32} : am_wb (hp M) 87 i x = if am_in i 4 = true then some (hp (up M 87 i.toNatClampNeg (am_nb 2 x))) else none := wb_hp (show am_lay[87]? = some (2, 4, []) from rfl) (by decide)
theorem ga_88 : am_ga X (hp M) 88 = some (0, 320, M 88) := ga_hp (show am_lay[88]? = some (0, 320, []) from rfl) (by decide)
theorem wi_88 {i x : Int32} : am_wi (hp M) 88 i x = if am_in i 320 = true then some (hp (up M 88 i.toNatClampNeg x)) else none := wi_hp (show am_lay[88]? = some (0, 320, []) from rfl)
theorem ga_89 : am_ga X (hp M) 89 = some (0, 72, M 89) := ga_hp (show am_lay[89]? = some (0, 72, []) from rfl) (by decide)
theorem wi_89 {i x : Int32} : am_wi (hp M) 89 i x = if am_in i 72 = true then some (hp (up M 89 i.toNatClampNeg x)) else none := wi_hp (show am_lay[89]? = some (0, 72, []) from rfl)
theorem ga_90 : am_ga X (hp M) 90 = some (0, 11, M 90) := ga_hp (show am_lay[90]? = some (0, 11, []) from rfl) (by decide)
theorem wi_90 {i x : Int32} : am_wi (hp M) 90 i x = if am_in i 11 = true then some (hp (up M 90 i.toNatClampNeg x)) else none := wi_hp (show am_lay[90]? = some (0, 11, []) from rfl)
theorem ga_91 : am_ga X (hp M) 91 = some (0, 11, M 91) := ga_hp (show am_lay[91]? = some (0, 11, []) from rfl) (by decide)
theorem wi_91 {i x : Int32} : am_wi (hp M) 91 i x = if am_in i 11 = true then some (hp (up M 91 i.toNatClampNeg x)) else none := wi_hp (show am_lay[91]? = some (0, 11, []) from rfl)
theorem ga_92 : am_ga X (hp M) 92 = some (0, 6, M 92) := ga_hp (show am_lay[92]? = some (0, 6, []) from rfl) (by decide)
theorem wi_92 {i x : Int32} : am_wi (hp M) 92 i x = if am_in i 6 = true then some (hp (up M 92 i.toNatClampNeg x)) else none := wi_hp (show am_lay[92]? = some (0, 6, []) from rfl)
theorem ga_93 : am_ga X (hp M) 93 = some (0, 12, M 93) := ga_hp (show am_lay[93]? = some (0, 12, []) from rfl) (by decide)
theorem wi_93 {i x : Int32} : am_wi (hp M) 93 i x = if am_in i 12 = true then some (hp (up M 93 i.toNatClampNeg x)) else none := wi_hp (show am_lay[93]? = some (0, 12, []) from rfl)
theorem ga_94 : am_ga X (hp M) 94 = some (0, 12, M 94) := ga_hp (show am_lay[94]? = some (0, 12, []) from rfl) (by decide)
theorem wi_94 {i x : Int32} : am_wi (hp M) 94 i x = if am_in i 12 = true then some (hp (up M 94 i.toNatClampNeg x)) else none := wi_hp (show am_lay[94]? = some (0, 12, []) from rfl)
theorem ga_95 : am_ga X (hp M) 95 = some (0, 6, M 95) := ga_hp (show am_lay[95]? = some (0, 6, []) from rfl) (by decide)
theorem wi_95 {i x : Int32} : am_wi (hp M) 95 i x = if am_in i 6 = true then some (hp (up M 95 i.toNatClampNeg x)) else none := wi_hp (show am_lay[95]? = some (0, 6, []) from rfl)
theorem ga_96 : am_ga X (hp M) 96 = some (2, 6, M 96) := ga_hp (show am_lay[96]? = some (2, 6, []) from rfl) (by decide)
theorem wb_96 {i x : Int32} : am_wb (hp M) 96 i x = if am_in i 6 = true then some (hp (up M 96 i.toNatClampNeg (am_nb 2 x))) else none := wb_hp (show am_lay[96]? = some (2, 6, []) from rfl) (by decide)
theorem ga_97 : am_ga X (hp M) 97 = some (0, 4, M 97) := ga_hp (show am_lay[97]? = some (0, 4, []) from rfl) (by decide)
theorem wi_97 {i x : Int32} : am_wi (hp M) 97 i x = if am_in i 4 = true then some (hp (up M 97 i.toNatClampNeg x)) else none := wi_hp (show am_lay[97]? = some (0, 4, []) from rfl)
theorem ga_98 : am_ga X (hp M) 98 = some (0, 4, M 98) := ga_hp (show am_lay[98]? = some (0, 4, []) from rfl) (by decide)
theorem wi_98 {i x : Int32} : am_wi (hp M) 98 i x = if am_in i 4 = true then some (hp (up M 98 i.toNatClampNeg x)) else none := wi_hp (show am_lay[98]? = some (0, 4, []) from rfl)
theorem ga_99 : am_ga X (hp M) 99 = some (0, 160, M 99) := ga_hp (show am_lay[99]? = some (0, 160, []) from rfl) (by decide)
theorem wi_99 {i x : Int32} : am_wi (hp M) 99 i x = if am_in i 160 = true then some (hp (up M 99 i.toNatClampNeg x)) else none := wi_hp (show am_lay[99]? = some (0, 160, []) from rfl)
end HP
