def am_ps (n : Nat) (pc : Nat) (L st : List Value) (h : am_H) (v : Value) : Option am_P := some (pc + n, L, v :: st, h)
def am_ii (pc : Nat) (L st : List Value) (h : am_H) (f : Int32 → Int32 → Int32) : Option am_P := match st with
  | .int y :: .int x :: r => some (pc + 1, L, .int (f x y) :: r, h)
  | _ => none
def am_id (pc : Nat) (L st : List Value) (h : am_H) (f : Int32 → Int32 → Int32) : Option am_P := match st with
  | .int y :: .int x :: r => if y = 0 then none else some (pc + 1, L, .int (f x y) :: r, h)
  | _ => none
def am_ll (pc : Nat) (L st : List Value) (h : am_H) (f : Int64 → Int64 → Value) : Option am_P := match st with
  | .long y :: .long x :: r => some (pc + 1, L, f x y :: r, h)
  | _ => none
def am_i1 (pc : Nat) (L st : List Value) (h : am_H) (f : Int32 → Value) : Option am_P := match st with
  | .int x :: r => some (pc + 1, L, f x :: r, h)
  | _ => none
def am_li1 (n pc i : Nat) (L st : List Value) (h : am_H) : Option am_P := match L[i]? with
  | some (.int x) => some (pc + n, L, .int x :: st, h)
  | _ => none
def am_ll1 (n pc i : Nat) (L st : List Value) (h : am_H) : Option am_P := match L[i]? with
  | some (.long x) => some (pc + n, L, .long x :: st, h)
  | _ => none
def am_la1 (n pc i : Nat) (L st : List Value) (h : am_H) : Option am_P := match L[i]? with
  | some (.ref x) => some (pc + n, L, .ref x :: st, h)
  | some .null => some (pc + n, L, .null :: st, h)
  | _ => none
def am_nl (i : Nat) (L : List Value) : Bool := match i with
  | 0 => true
  | j + 1 => match L[j]? with
    | some v => decide (v.category = 1)
    | none => true
def am_s1 (n pc i : Nat) (L st : List Value) (h : am_H) (v : Value) : Option am_P := if i < L.length ∧ am_nl i L = true then some (pc + n, L.set i v, st, h) else none
def am_si (n pc i : Nat) (L st : List Value) (h : am_H) : Option am_P := match st with
  | .int x :: r => am_s1 n pc i L r h (.int x)
  | _ => none
def am_sr (n pc i : Nat) (L st : List Value) (h : am_H) : Option am_P := match st with
  | .ref x :: r => am_s1 n pc i L r h (.ref x)
  | .null :: r => am_s1 n pc i L r h .null
  | _ => none
def am_sL (n pc i : Nat) (L st : List Value) (h : am_H) : Option am_P := match st with
  | .long x :: r => if i + 1 < L.length ∧ am_nl i L = true then some (pc + n, (L.set i (.long x)).set (i + 1) am_u, r, h) else none
  | _ => none
def am_inc (pc i : Nat) (c : Int) (L st : List Value) (h : am_H) : Option am_P := match L[i]? with
  | some (.int x) => am_s1 3 pc i L st h (.int (x + Int32.ofInt c))
  | _ => none
def am_dup (pc : Nat) (L st : List Value) (h : am_H) : Option am_P := match st with
  | v :: r => if v.category = 1 then some (pc + 1, L, v :: v :: r, h) else none
  | _ => none
def am_dup2 (pc : Nat) (L st : List Value) (h : am_H) : Option am_P := match st with
  | v :: w :: r => if v.category = 1 ∧ w.category = 1 then some (pc + 1, L, v :: w :: v :: w :: r, h) else none
  | _ => none
def am_pop (pc : Nat) (L st : List Value) (h : am_H) : Option am_P := match st with
  | v :: r => if v.category = 1 then some (pc + 1, L, r, h) else none
  | _ => none
def am_if (q : Jvm.ClassFile.Cond) (pc : Nat) (off : Int) (L st : List Value) (h : am_H) : Option am_P := match st with
  | .int x :: r => am_br pc 3 off (am_cb q x 0) L r h
  | _ => none
def am_ic (q : Jvm.ClassFile.Cond) (pc : Nat) (off : Int) (L st : List Value) (h : am_H) : Option am_P := match st with
  | .int y :: .int x :: r => am_br pc 3 off (am_cb q x y) L r h
  | _ => none
def am_nul (b : Bool) (pc : Nat) (off : Int) (L st : List Value) (h : am_H) : Option am_P := match st with
  | .ref _ :: r => am_br pc 3 off (!b) L r h
  | .null :: r => am_br pc 3 off b L r h
  | _ => none
def am_tab (pc : Nat) (d lo hi : Int) (os : Array Int) (L st : List Value) (h : am_H) : Option am_P := match st with
  | .int x :: r => if x.toInt < lo ∨ hi < x.toInt then am_br pc 0 d true L r h else (match os[(x.toInt - lo).toNat]? with
    | some o => am_br pc 0 o true L r h
    | none => none)
  | _ => none
def am_lks (pc : Nat) (d : Int) (ps : Array (Int × Int)) (L st : List Value) (h : am_H) : Option am_P := match st with
  | .int x :: r => if (ps.toList.zip (ps.toList.drop 1)).all (fun (a, next) => a.1 < next.1) = true then am_br pc 0 (Op.lookupswitch.offset ps.toList d x.toInt) true L r h else none
  | _ => none
def am_ald (X : am_X) (t1 t2 : Nat) (pc : Nat) (L st : List Value) (h : am_H) : Option am_P := match st with
  | .int i :: .ref a :: r => (match am_ga X h a with
    | some (t, n, f) => if (t = t1 ∨ t = t2) ∧ am_in i n = true then some (pc + 1, L, .int (f i.toNatClampNeg) :: r, h) else none
    | none => none)
  | _ => none
def am_aal (pc : Nat) (L st : List Value) (h : am_H) : Option am_P := match st with
  | .int i :: .ref a :: r => (match am_gq h a with
    | some (t, n, f) => if (t = 3 ∨ t = 4 ∨ t = 5) ∧ am_in i n = true then some (pc + 1, L, va_rf (f i.toNatClampNeg) :: r, h) else none
    | none => none)
  | _ => none
def am_ist (pc : Nat) (L st : List Value) (h : am_H) : Option am_P := match st with
  | .int x :: .int i :: .ref a :: r => (match h[a]? with
    | some (.inl (t, n, .inl f)) => if t = 0 ∧ am_in i n = true then some (pc + 1, L, r, h.set a (.inl (t, n, .inl (upd f i.toNatClampNeg x)))) else none
    | _ => none)
  | _ => none
def am_nb (t : Nat) (x : Int32) : Int32 := if t = 1 then vp_nar .byte x else vp_nar .boolean x
def am_bst (pc : Nat) (L st : List Value) (h : am_H) : Option am_P := match st with
  | .int x :: .int i :: .ref a :: r => (match h[a]? with
    | some (.inl (t, n, .inl f)) => if (t = 1 ∨ t = 2) ∧ am_in i n = true then some (pc + 1, L, r, h.set a (.inl (t, n, .inl (upd f i.toNatClampNeg (am_nb t x))))) else none
    | _ => none)
  | _ => none
def am_aas (pc : Nat) (L st : List Value) (h : am_H) : Option am_P := match st with
  | .ref v :: .int i :: .ref a :: r => (match am_gq h a, h[v]? with
    | some (t, n, f), some (.inr (ci, _)) => if ((t = 3 ∧ ci = 2) ∨ (t = 4 ∧ ci = 5)) ∧ am_in i n = true then some (pc + 1, L, r, h.set a (.inl (t, n, .inr (.inr (.inr (.inr (va_up f i.toNatClampNeg (some v)))))))) else none
    | _, _ => none)
  | _ => none
def am_len (X : am_X) (pc : Nat) (L st : List Value) (h : am_H) : Option am_P := match st with
  | .ref a :: r => (match am_ga X h a with
    | some (t, n, _) => if t < 3 then some (pc + 1, L, .int (Int32.ofNat n) :: r, h) else none
    | none => none)
  | _ => none
def am_gfd (o idx : Nat) (pc : Nat) (L st : List Value) (h : am_H) : Option am_P := match st with
  | .ref a :: r => if o = 11 then (if 1000 ≤ a ∧ a < 1013 ∧ h.length ≤ 1000 then (if idx = 9 then some (pc + 3, L, .ref (a + 100) :: r, h) else if idx = 15 then some (pc + 3, L, .int 0 :: r, h) else none) else none)
    else (match am_lk am_fl o idx with
    | some (ci, s, _) => (match am_gf h a ci s with
      | some v => some (pc + 3, L, v :: r, h)
      | none => none)
    | none => none)
  | _ => none
def am_fin (ci s : Nat) : Bool := match am_cl[ci]? with
  | some (_, T, _) => (T s).2.2.2
  | none => true
def am_fty (ci s : Nat) : FieldType := match am_cl[ci]? with
  | some (_, T, _) => (match parseFieldDescriptor (T s).2.2.1 with
    | some ty => ty
    | none => .int)
  | none => .int
def am_pfd (k o idx : Nat) (pc : Nat) (L st : List Value) (h : am_H) : Option am_P := match st with
  | v :: .ref a :: r => (match am_lk am_fl o idx with
    | some (ci, s, _) => if (am_fin ci s = false ∨ ((am_y k).name = "<init>" ∧ ci = o)) ∧ narrow (am_fty ci s) v = v ∧ fits (am_fty ci s) v = true then (match am_sf h a ci s v with
      | some h' => some (pc + 3, L, r, h')
      | none => none) else none
    | none => none)
  | _ => none
def am_gst (X : am_X) (o idx : Nat) (pc : Nat) (L st : List Value) (h : am_H) : Option am_P := match am_lk am_gs o idx with
  | some (0, _, _) => am_ps 3 pc L st h (.int 1)
  | some (1, _, _) => am_ps 3 pc L st h X.2.2
  | some (2, _, _) => am_ps 3 pc L st h (.ref 2000)
  | some (3, _, _) => am_ps 3 pc L st h (.ref 2001)
  | _ => none
def am_ldc (n o idx : Nat) (pc : Nat) (L st : List Value) (h : am_H) : Option am_P := match am_lk am_li o idx with
  | some (v, _) => am_ps n pc L st h (.int v)
  | none => if n = 2 then (match am_lk am_ls o idx with
    | some (i, _) => am_ps n pc L st h (.ref (1000 + i))
    | none => none) else none
def am_ld2 (o idx : Nat) (pc : Nat) (L st : List Value) (h : am_H) : Option am_P := match am_lk am_l2 o idx with
  | some (v, _) => am_ps 3 pc L st h (.long v)
  | none => none
def am_al (n : Nat) (L st : List Value) (h : am_H) : Bool := decide (h.length + n < 1000) && am_vl h.length L && am_vl h.length st && am_vh h.length h
def am_new (o idx : Nat) (pc : Nat) (L st : List Value) (h : am_H) : Option am_P := match am_lk am_nt o idx with
  | some (ci, _, _, _) => if am_al 1 L st h = true then some (pc + 3, L, .ref h.length :: st, h ++ [.inr (ci, am_dv ci)]) else none
  | none => none
def am_at (a : ArrayType) : Option Nat := match a with
  | .int => some 0
  | .byte => some 1
  | .boolean => some 2
  | _ => none
def am_nwa (at_ : ArrayType) (pc : Nat) (L st : List Value) (h : am_H) : Option am_P := match st with
  | .int n :: r => (match am_at at_ with
    | some t => if ¬ n < 0 ∧ n.toNatClampNeg ≤ 1000 ∧ am_al 1 L r h = true then some (pc + 2, L, .ref h.length :: r, h ++ [.inl (t, n.toNatClampNeg, .inl fun _ => 0)]) else none
    | none => none)
  | _ => none
def am_anw (o idx : Nat) (pc : Nat) (L st : List Value) (h : am_H) : Option am_P := match st with
  | .int n :: r => (match am_lk am_na o idx with
    | some (t, _, _) => if ¬ n < 0 ∧ n.toNatClampNeg ≤ 1000 ∧ am_al 1 L r h = true then some (pc + 3, L, .ref h.length :: r, h ++ [.inl (t, n.toNatClampNeg, .inr (.inr (.inr (.inr fun _ => none))))]) else none
    | none => none)
  | _ => none
def am_mnw (o idx d : Nat) (pc : Nat) (L st : List Value) (h : am_H) : Option am_P := match st with
  | .int m :: .int n :: r => if o = 1 ∧ idx = 18 ∧ d = 2 ∧ ¬ n < 0 ∧ ¬ m < 0 ∧ n.toNatClampNeg ≤ 10 ∧ m.toNatClampNeg ≤ 100 ∧ am_al 20 L r h = true then some (pc + 4, L, .ref h.length :: r, h ++ (.inl (5, n.toNatClampNeg, .inr (.inr (.inr (.inr fun i => if i < n.toNatClampNeg then some (h.length + 1 + i) else none)))) :: List.replicate n.toNatClampNeg (.inl (0, m.toNatClampNeg, .inl fun _ => 0)))) else none
  | _ => none
def am_obj (k : Nat) (pc : Nat) (L st : List Value) (h : am_H) : Option am_P := match st with
  | .ref _ :: r => if 1 ≤ am_fr k ∧ am_cat r + 12 ≤ am_lc k ∧ L.length = am_ml k then some (pc + 3, L, r, h) else none
  | _ => none
def am_mx (x y : Int32) : Int32 := if x < y then y else x
def am_mmx (k : Nat) (pc : Nat) (L st : List Value) (h : am_H) : Option am_P := match st with
  | .int y :: .int x :: r => if 1 ≤ am_fr k ∧ am_cat r + 13 ≤ am_lc k ∧ L.length = am_ml k then some (pc + 3, L, .int (am_mx x y) :: r, h) else none
  | _ => none
def am_cpy (k : Nat) (pc : Nat) (L st : List Value) (h : am_H) : Option am_P := match st with
  | .int n :: .int dp :: .ref a :: .int sp :: .ref b :: r => (match h[b]?, h[a]? with
    | some (.inl (t0, n0, .inl f)), some (.inl (t1, n1, .inl g)) => if t0 = 0 ∧ t1 = 0 ∧ ¬ sp < 0 ∧ ¬ dp < 0 ∧ ¬ n < 0 ∧ sp.toNatClampNeg + n.toNatClampNeg ≤ n0 ∧ dp.toNatClampNeg + n.toNatClampNeg ≤ n1 ∧ 1 ≤ am_fr k ∧ am_cat r + 18 ≤ am_lc k ∧ L.length = am_ml k then
        some (pc + 3, L, r, h.set a (.inl (t1, n1, .inl (va_cpy f g sp.toNatClampNeg dp.toNatClampNeg n.toNatClampNeg)))) else none
    | _, _ => none)
  | _ => none
def am_prm (k o idx : Nat) (sp : Bool) (pc : Nat) (L st : List Value) (h : am_H) : Option am_P := match am_lk am_pt o idx with
  | some (0, _) => if sp = true then am_obj k pc L st h else none
  | some (1, _) => if sp = false then am_mmx k pc L st h else none
  | some (2, _) => if sp = false then am_cpy k pc L st h else none
  | _ => none
/-- one instruction that is no call of a walked method and no return -/
def am_do (X : am_X) (k pc : Nat) (i : Instr) (n : Nat) (L st : List Value) (h : am_H) : Option am_P := match i with
  | .iadd => if n = 1 then am_ii pc L st h (fun x y => x + y) else none
  | .isub => if n = 1 then am_ii pc L st h (fun x y => x - y) else none
  | .imul => if n = 1 then am_ii pc L st h (fun x y => x * y) else none
  | .iand => if n = 1 then am_ii pc L st h (fun x y => x &&& y) else none
  | .ior => if n = 1 then am_ii pc L st h (fun x y => x ||| y) else none
  | .ishl => if n = 1 then am_ii pc L st h (fun x y => x <<< (y &&& 31)) else none
  | .ishr => if n = 1 then am_ii pc L st h (fun x y => x >>> (y &&& 31)) else none
  | .iushr => if n = 1 then am_ii pc L st h (fun x y => (x.toUInt32 >>> (y.toUInt32 &&& Int32.toUInt32 31)).toInt32) else none
  | .idiv => if n = 1 then am_id pc L st h (fun x y => x / y) else none
  | .irem => if n = 1 then am_id pc L st h (fun x y => x - x / y * y) else none
  | .ladd => if n = 1 then am_ll pc L st h (fun x y => .long (x + y)) else none
  | .lmul => if n = 1 then am_ll pc L st h (fun x y => .long (x * y)) else none
  | .lcmp => if n = 1 then am_ll pc L st h (fun x y => .int (lg_cmp x y)) else none
  | .i2l => if n = 1 then am_i1 pc L st h (fun x => .long x.toInt64) else none
  | .i2b => if n = 1 then am_i1 pc L st h (fun x => .int x.toInt8.toInt32) else none
  | .i2s => if n = 1 then am_i1 pc L st h (fun x => .int x.toInt16.toInt32) else none
  | .i2c => if n = 1 then am_i1 pc L st h (fun x => .int (x.toUInt32 % 65536).toInt32) else none
  | .l2i => if n = 1 then (match st with
    | .long x :: r => some (pc + 1, L, .int x.toInt32 :: r, h)
    | _ => none) else none
  | .iconst c => if n = 1 then am_ps 1 pc L st h (.int (Int32.ofInt c)) else none
  | .bipush c => if n = 2 then am_ps 2 pc L st h (.int (Int8.ofInt c).toInt32) else none
  | .sipush c => if n = 3 then am_ps 3 pc L st h (.int (Int16.ofInt c).toInt32) else none
  | .lconst c => if n = 1 then am_ps 1 pc L st h (.long (Int64.ofNat (c : Nat))) else none
  | .aconst_null => if n = 1 then am_ps 1 pc L st h .null else none
  | .ldc j => if n = 2 then am_ldc 2 (am_oc k) j pc L st h else none
  | .ldc_w j => if n = 3 then am_ldc 3 (am_oc k) j pc L st h else none
  | .ldc2_w j => if n = 3 then am_ld2 (am_oc k) j pc L st h else none
  | .iload j => if n = 2 then am_li1 2 pc j L st h else none
  | .iload_n j => if n = 1 then am_li1 1 pc j L st h else none
  | .lload j => if n = 2 then am_ll1 2 pc j L st h else none
  | .lload_n j => if n = 1 then am_ll1 1 pc j L st h else none
  | .aload j => if n = 2 then am_la1 2 pc j L st h else none
  | .aload_n j => if n = 1 then am_la1 1 pc j L st h else none
  | .istore j => if n = 2 then am_si 2 pc j L st h else none
  | .istore_n j => if n = 1 then am_si 1 pc j L st h else none
  | .astore j => if n = 2 then am_sr 2 pc j L st h else none
  | .astore_n j => if n = 1 then am_sr 1 pc j L st h else none
  | .lstore j => if n = 2 then am_sL 2 pc j L st h else none
  | .iinc j c => if n = 3 then am_inc pc j c L st h else none
  | .dup => if n = 1 then am_dup pc L st h else none
  | .dup2 => if n = 1 then am_dup2 pc L st h else none
  | .pop => if n = 1 then am_pop pc L st h else none
  | .goto off => if n = 3 then am_br pc 3 off true L st h else none
  | .ifCond q off => if n = 3 then am_if q pc off L st h else none
  | .if_icmp q off => if n = 3 then am_ic q pc off L st h else none
  | .ifnull off => if n = 3 then am_nul true pc off L st h else none
  | .ifnonnull off => if n = 3 then am_nul false pc off L st h else none
  | .tableswitch d lo hi os => am_tab pc d lo hi os L st h
  | .lookupswitch d ps => am_lks pc d ps L st h
  | .iaload => if n = 1 then am_ald X 0 0 pc L st h else none
  | .baload => if n = 1 then am_ald X 1 2 pc L st h else none
  | .aaload => if n = 1 then am_aal pc L st h else none
  | .iastore => if n = 1 then am_ist pc L st h else none
  | .bastore => if n = 1 then am_bst pc L st h else none
  | .aastore => if n = 1 then am_aas pc L st h else none
  | .arraylength => if n = 1 then am_len X pc L st h else none
  | .getfield j => if n = 3 then am_gfd (am_oc k) j pc L st h else none
  | .putfield j => if n = 3 then am_pfd k (am_oc k) j pc L st h else none
  | .getstatic j => if n = 3 then am_gst X (am_oc k) j pc L st h else none
  | .new j => if n = 3 then am_new (am_oc k) j pc L st h else none
  | .newarray a => if n = 2 then am_nwa a pc L st h else none
  | .anewarray j => if n = 3 then am_anw (am_oc k) j pc L st h else none
  | .multianewarray j d => if n = 4 then am_mnw (am_oc k) j d pc L st h else none
  | .invokespecial j => if n = 3 then am_prm k (am_oc k) j true pc L st h else none
  | .invokestatic j => if n = 3 then am_prm k (am_oc k) j false pc L st h else none
  | _ => none
/-- the end of a method -/
def am_ret (k pc : Nat) (st : List Value) : Option (Option Value) := match am_ins k pc with
  | some (.ireturn, 1) => (match st, am_rt k with
    | [.int v], some ty => if narrow ty (.int v) = .int v then some (some (.int v)) else none
    | _, _ => none)
  | some (.return_, 1) => (match st, am_rt k with
    | [], none => some none
    | _, _ => none)
  | some (.areturn, 1) => (match st, am_rt k with
    | [.ref a], some (.object _) => some (some (.ref a))
    | [.null], some (.object _) => some (some .null)
    | _, _ => none)
  | _ => none
def am_rcv (h : am_H) (o : Nat) (v : Option Value) : Bool := match v with
  | some (.ref b) => (match h[b]? with
    | some (.inr (ci, _)) => decide (ci = o)
    | some _ => false
    | none => decide (o = 11) && decide (1000 ≤ b) && decide (b < 1013) && decide (h.length ≤ 1000))
  | _ => false
def am_isr (v : Option Value) : Bool := match v with
  | some (.ref _) => true
  | _ => false
/-- a call of a walked method: which, its arguments, what stays on the stack -/
def am_cl1 (k o idx : Nat) (kd : Nat → Bool) (st : List Value) (h : am_H) : Option (Nat × List Value × List Value) := match am_lk am_ct o idx with
  | some (kind, j, na, _) => let m := na + (if kind = 1 ∨ kind = 4 then 0 else 1)
    if kd kind = true ∧ m ≤ st.length ∧ am_cat (st.drop m) ≤ 8 ∧ am_fr j + 1 ≤ am_fr k ∧ 8 + (am_ml j + 11) + am_lc j ≤ am_lc k ∧ (kind = 0 → am_rcv h (am_oc j) st[na]? = true) ∧ ((kind = 2 ∨ kind = 3) → am_isr st[na]? = true) then some (j, (st.take m).reverse, st.drop m) else none
  | none => none
def am_call (k pc : Nat) (st : List Value) (h : am_H) : Option (Nat × List Value × List Value) := match am_ins k pc with
  | some (.invokevirtual idx, 3) => am_cl1 k (am_oc k) idx (fun q => decide (q = 0)) st h
  | some (.invokestatic idx, 3) => am_cl1 k (am_oc k) idx (fun q => decide (q = 1) || decide (q = 4)) st h
  | some (.invokespecial idx, 3) => am_cl1 k (am_oc k) idx (fun q => decide (q = 2) || decide (q = 3)) st h
  | _ => none
def am_sl2 (as : List Value) : List Value := as.flatMap fun v => if v.category = 2 then [v, am_u] else [v]
def am_ent (k : Nat) (as : List Value) : List Value := am_sl2 as ++ List.replicate (am_ml k - (am_sl2 as).length) am_u
/-- behind a call: what the caller holds still stands -/
def am_kp (h h1 : am_H) (L st : List Value) : Bool := decide (h1.length = h.length) || (am_vl h.length L && am_vl h.length st)
def am_push (o : Option Value) (st : List Value) : List Value := match o with
  | some v => v :: st
  | none => st
def am_fit (k : Nat) (as : List Value) : Bool := decide ((am_sl2 as).length ≤ am_ml k)
/-- the run of a method from a place on, by so much fuel -/
def am_ex (X : am_X) : Nat → Nat → Nat → List Value → List Value → am_H → Option am_Q
  | 0, _, _, _, _, _ => none
  | n + 1, k, pc, L, st, h => match am_ret k pc st with
    | some o => some (o, h)
    | none => match am_call k pc st h with
      | some (j, as, r) => if am_fit j as = true then (match am_ex X n j 0 (am_ent j as) [] h with
        | some (o, h1) => if am_kp h h1 L r = true then am_ex X n k (pc + 3) L (am_push o r) h1 else none
        | none => none) else none
      | none => match am_ins k pc with
        | some (i, m) => (match am_do X k pc i m L st h with
          | some (pc', L', st', h') => am_ex X n k pc' L' st' h'
          | none => none)
        | none => none
