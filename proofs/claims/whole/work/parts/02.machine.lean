/-! the tables' words that may be handed to a callee -/
def am_G : List Cond := lw_tbl.filter goodWord
def am_ck (i : Nat) (w : Cond) : Bool := decide (lw_tbl[i]? = some w) && goodWord w
theorem am_ck_in {i : Nat} {w : Cond} (h : am_ck i w = true) : w ∈ am_G := by
  simp only [am_ck, Bool.and_eq_true, decide_eq_true_eq] at h
  exact List.mem_filter.mpr ⟨List.mem_of_getElem? h.1, h.2⟩
theorem am_G_good : ∀ w ∈ am_G, goodWord w = true := fun w h => (List.mem_filter.mp h).2
theorem am_G_tbl : ∀ w ∈ am_G, w ∈ lw_tbl := fun w h => (List.mem_filter.mp h).1
/-! THE MACHINE OF NUMBERS: an abstract run of the bytecode, over a list of cells -/
abbrev am_H : Type := List va_E
abbrev am_X : Type := Nat × (Nat → Int32) × Value
abbrev am_P : Type := Nat × List Value × List Value × am_H
abbrev am_Q : Type := Option Value × am_H
def am_u : Value := .retAddr 0
def am_in (i : Int32) (n : Nat) : Bool := decide (¬ (i < 0 ∨ n ≤ i.toNatClampNeg))
theorem am_in_iff {i : Int32} {n : Nat} : am_in i n = true ↔ vp_in i n := by simp only [am_in, vp_in, decide_eq_true_eq]
-- a method's row of the table
def am_y (k : Nat) : MethodName := match am_mt k with
  | some r => r.1
  | none => ⟨"", "", ""⟩
def am_c (k : Nat) : ByteArray := match am_mt k with
  | some r => r.2.1
  | none => ⟨#[]⟩
def am_ml (k : Nat) : Nat := match am_mt k with
  | some r => r.2.2.1
  | none => 0
def am_rt (k : Nat) : Option FieldType := match am_mt k with
  | some r => r.2.2.2.1
  | none => none
def am_oc (k : Nat) : Nat := match am_mt k with
  | some r => r.2.2.2.2.1
  | none => 99
def am_fr (k : Nat) : Nat := match am_mt k with
  | some r => r.2.2.2.2.2.1
  | none => 0
def am_lc (k : Nat) : Nat := match am_mt k with
  | some r => r.2.2.2.2.2.2.1
  | none => 0
def am_ins (k pc : Nat) : Option (Instr × Nat) := match decode (am_c k) pc with
  | .ok x => some x
  | .error _ => none
theorem am_ins_ok {k pc : Nat} {x : Instr × Nat} (h : am_ins k pc = some x) : decode (am_c k) pc = .ok x := by
  unfold am_ins at h
  split at h
  · cases h; assumption
  · cases h
-- look-ups
def am_lk {β : Type} (l : List ((Nat × Nat) × β)) (o i : Nat) : Option β := match l with
  | [] => none
  | e :: r => if e.1.1 = o ∧ e.1.2 = i then some e.2 else am_lk r o i
theorem am_lk_mem {β : Type} {o i : Nat} {b : β} : ∀ {l : List ((Nat × Nat) × β)}, am_lk l o i = some b → ((o, i), b) ∈ l
  | [], h => by cases h
  | ((a1, a2), eb) :: r, h => by
    unfold am_lk at h
    split at h
    · rename_i q
      obtain ⟨q1, q2⟩ := q
      dsimp only at q1 q2
      subst q1; subst q2
      cases h
      exact List.mem_cons_self
    · exact List.mem_cons_of_mem _ (am_lk_mem h)
-- the arrays of ints that stand outside the cells: the script, the two static rows, the texts' bytes
def am_sp (X : am_X) (a : Nat) : Option (Nat × Nat × (Nat → Int32)) :=
  if a = 3000 then some (0, X.1, X.2.1)
  else if a = 2000 then some (0, 4, fun j => ([1, 1, 0, 0] : List Int32).getD j 0)
  else if a = 2001 then some (0, 4, fun j => ([6, 4, 99, 99] : List Int32).getD j 0)
  else if 1100 ≤ a ∧ a < 1100 + 13 then some (1, am_sl.getD (a - 1100) 0, fun j => (am_sb.getD (a - 1100) []).getD j 0)
  else none
def am_ga (X : am_X) (h : am_H) (a : Nat) : Option (Nat × Nat × (Nat → Int32)) := match h[a]? with
  | some (.inl (t, n, .inl f)) => some (t, n, f)
  | some _ => none
  | none => if a < 1000 then none else am_sp X a
def am_gq (h : am_H) (a : Nat) : Option (Nat × Nat × (Nat → Option Nat)) := match h[a]? with
  | some (.inl (t, n, .inr (.inr (.inr (.inr f))))) => some (t, n, f)
  | _ => none
def am_gf (h : am_H) (a ci s : Nat) : Option Value := match h[a]? with
  | some (.inr (c, fs)) => if c = ci then fs[s]? else none
  | _ => none
def am_sf (h : am_H) (a ci s : Nat) (v : Value) : Option am_H := match h[a]? with
  | some (.inr (c, fs)) => if c = ci ∧ s < fs.length then some (h.set a (.inr (c, fs.set s v))) else none
  | _ => none
def am_sa (h : am_H) (a : Nat) (i : Int32) (g : Nat → Int32) : Option am_H := match h[a]? with
  | some (.inl (t, n, .inl f)) => if am_in i n = true then some (h.set a (.inl (t, n, .inl (upd f i.toNatClampNeg (g t))))) else none
  | _ => none
-- references that stand: to a cell, or outside the cells
def am_v1 (n : Nat) (v : Value) : Bool := match v with
  | .ref a => decide (a < n) || decide (1000 ≤ a)
  | _ => true
def am_vl (n : Nat) (vs : List Value) : Bool := vs.all (am_v1 n)
def am_vc (n : Nat) (c : va_E) : Bool := match c with
  | .inl (_, m, .inr (.inr (.inr (.inr f)))) => (List.range m).all fun j => match f j with
    | some a => decide (a < n) || decide (1000 ≤ a)
    | none => true
  | .inl (_, _, .inl _) => true
  | .inl _ => false
  | .inr (_, fs) => am_vl n fs
def am_vh (n : Nat) (h : am_H) : Bool := h.all (am_vc n)
def am_sz (h : am_H) : Nat := (h.map fun c => match c with
  | .inl (_, n, _) => n
  | .inr (_, fs) => fs.length).sum
def am_cat (vs : List Value) : Nat := (vs.map fun v => v.category).sum
-- a class's fields at their first values
def am_dv (ci : Nat) : List Value := match am_cl[ci]? with
  | some (_, T, N) => (List.range N).map fun j => match (T j).2.2.1 with
    | "I" => .int 0
    | "Z" => .int 0
    | _ => .null
  | none => []
def am_tg (pc : Nat) (off : Int) : Option Nat := if 0 ≤ (pc : Int) + off then some ((pc : Int) + off).toNat else none
def am_br (pc n : Nat) (off : Int) (c : Bool) (L st : List Value) (h : am_H) : Option am_P := match am_tg pc off with
  | some t => some (if c then t else pc + n, L, st, h)
  | none => none
def am_cb (q : Jvm.ClassFile.Cond) (x y : Int32) : Bool := match q with
  | .eq => decide (x = y)
  | .ne => decide (¬ x = y)
  | .lt => decide (x < y)
  | .ge => decide (y ≤ x)
  | .gt => decide (y < x)
  | .le => decide (x ≤ y)
