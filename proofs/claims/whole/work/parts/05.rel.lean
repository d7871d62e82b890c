/-! how the machine of numbers stands to the real one -/
def am_ad (σ ρ : Nat → Nat) (a : Nat) : Nat := if a < 1000 then ρ a else σ a
def am_vR (σ ρ : Nat → Nat) (v : Value) : Value := match v with
  | .ref a => .ref (am_ad σ ρ a)
  | .int x => .int x
  | .long x => .long x
  | .float x => .float x
  | .double x => .double x
  | .null => .null
  | .retAddr x => .retAddr x
def am_cR (tid : Nat → ClassId) (σ ρ : Nat → Nat) (c : va_E) : va_E := match c with
  | .inl (t, n, .inl f) => .inl (tid t, n, .inl f)
  | .inl (t, n, .inr (.inr (.inr (.inr f)))) => .inl (tid t, n, .inr (.inr (.inr (.inr fun j => if j < n then (f j).map (am_ad σ ρ) else none))))
  | .inl (t, x) => .inl (tid t, x)
  | .inr (ci, fs) => .inr (ci, fs.map (am_vR σ ρ))
def am_ws (tid : Nat → ClassId) (σ ρ : Nat → Nat) (h : am_H) : va_W := h.mapIdx fun i c => (ρ i, am_cR tid σ ρ c)
theorem am_ws_at {tid : Nat → ClassId} {σ ρ : Nat → Nat} {h : am_H} {a : Nat} {c : va_E} (hc : h[a]? = some c) : (am_ws tid σ ρ h)[a]? = some (ρ a, am_cR tid σ ρ c) := by
  unfold am_ws
  rw [List.getElem?_mapIdx, hc]
  rfl
theorem am_ws_set {tid : Nat → ClassId} {σ ρ : Nat → Nat} {h : am_H} {a : Nat} {c : va_E} : am_ws tid σ ρ (h.set a c) = (am_ws tid σ ρ h).set a (ρ a, am_cR tid σ ρ c) := by
  unfold am_ws
  apply List.ext_getElem?
  intro i
  rw [List.getElem?_mapIdx]
  by_cases e : a = i
  · subst e
    by_cases hl : a < h.length
    · rw [List.getElem?_set_self hl, List.getElem?_set_self (by rw [List.length_mapIdx]; exact hl)]
      rfl
    · rw [List.getElem?_eq_none (by rw [List.length_set]; omega), List.getElem?_eq_none (by rw [List.length_set, List.length_mapIdx]; omega)]
      rfl
  · rw [List.getElem?_set_ne e, List.getElem?_set_ne e, List.getElem?_mapIdx]
def am_tys (tid : Nat → ClassId) : List (ClassId × FieldType) := [(tid 0, .int), (tid 1, .byte), (tid 2, .boolean), (tid 3, .object RX2), (tid 4, .object RX5), (tid 5, .array .int)]
/-- words of nest mates, of arrays over a type -/
def am_NW (U : State) : Prop :=
  (∀ e ∈ am_ct, (e.2.1 = 3 ∨ e.2.1 = 4) → va_Nw (.methodLinkNest (am_R e.1.1) e.1.2 (am_y e.2.2.1) "GridTracks") U) ∧
  va_Nw (.fieldLinkNest RX6 173 "GridTracks" "LEAST_FACT" "[I" "GridTracks") U ∧ va_Nw (.fieldLinkNest RX6 176 "GridTracks" "MOST_FACT" "[I" "GridTracks") U ∧
  va_AO RX2 U ∧ va_AO RX5 U ∧ va_AOA .int U
theorem va_AOA.moved {ty : FieldType} {u U : State} (hvm : u.vm.Alike U.vm) (h : va_AOA ty u) : va_AOA ty U := arrayOver_alikeB hvm h
theorem am_NW.go {s U : State} (h : am_NW s) (hW : s.WarmedH U.vm) : am_NW U :=
  ⟨fun e he q => (h.1 e he q).warmM hW, h.2.1.warmF hW, h.2.2.1.warmF hW, h.2.2.2.1.moved hW.alike, h.2.2.2.2.1.moved hW.alike, h.2.2.2.2.2.moved hW.alike⟩
theorem am_NW.same {s U : State} (h : am_NW s) (hv : U.vm = s.vm) : am_NW U := by
  have al : s.vm.Alike U.vm := by rw [hv]; exact Vm.Alike.refl _
  exact ⟨fun e he q => (h.1 e he q).same rfl hv.symm, h.2.1.same rfl hv.symm, h.2.2.1.same rfl hv.symm, h.2.2.2.1.moved al, h.2.2.2.2.1.moved al, h.2.2.2.2.2.moved al⟩
/-- what stands outside the cells and never changes -/
def am_SX (X : am_X) (σ : Nat → Nat) (A : Nat → Prop) (U : State) : Prop :=
  (∀ e ∈ am_ls, vk_R (am_R e.1.1) e.1.2 (am_tx.getD e.2.1 "") (σ (1000 + e.2.1)) U) ∧
  vk_S 13 am_sl am_sb (fun i => σ (1000 + i)) (fun i => σ (1100 + i)) A U U.heap ∧
  va_Z "java/lang/String" "COMPACT_STRINGS" "Z" (.int 1) A U U.heap ∧
  (va_Z "jdk/internal/util/Preconditions" "SIOOBE_FORMATTER" "Ljava/util/function/BiFunction;" (am_vR σ σ X.2.2) A U U.heap ∧ ∀ a, X.2.2 = .ref a → 1000 ≤ a) ∧
  (va_Z "GridTracks" "LEAST_FACT" "[I" (.ref (σ 2000)) A U U.heap ∧ va_T .int (σ 2000) 4 (fun j => .int (([1, 1, 0, 0] : List Int32).getD j 0)) A U U.heap) ∧
  (va_Z "GridTracks" "MOST_FACT" "[I" (.ref (σ 2001)) A U U.heap ∧ va_T .int (σ 2001) 4 (fun j => .int (([6, 4, 99, 99] : List Int32).getD j 0)) A U U.heap) ∧
  (va_X (σ 3000) X.1 X.2.1 U U.heap ∧ σ 3000 < U.heap.size ∧ ¬ A (σ 3000)) ∧ am_NW U
theorem am_SX.go {X : am_X} {σ : Nat → Nat} {A B : Nat → Prop} {s U : State} (h : am_SX X σ A s) (hW : s.WarmedH U.vm) (hz : s.heap.size ≤ U.heap.size) (hq : ∀ a : Nat, a < s.heap.size → ¬ A a → U.heap[a]? = s.heap[a]?) (hAB : ∀ q, B q → A q) : am_SX X σ B U := by
  obtain ⟨h1, h2, h3, ⟨h4, h4'⟩, ⟨h5, h6⟩, ⟨h7, h8⟩, ⟨h9, h10, h11⟩, hN⟩ := h
  have al := hW.alike
  exact ⟨fun e he => (h1 e he).warm hW, ((h2.moved al).kept hq).narrow hAB, ((h3.moved al).kept hq).narrow hAB, ⟨((h4.moved al).kept hq).narrow hAB, h4'⟩, ⟨((h5.moved al).kept hq).narrow hAB, ((h6.moved al).kept hq).narrow hAB⟩, ⟨((h7.moved al).kept hq).narrow hAB, ((h8.moved al).kept hq).narrow hAB⟩, ⟨(h9.moved al).kept (hq _ h10 h11), Nat.lt_of_lt_of_le h10 hz, fun q => h11 (hAB _ q)⟩, hN.go hW⟩
theorem am_SX.same {X : am_X} {σ : Nat → Nat} {A : Nat → Prop} {s U : State} (h : am_SX X σ A s) (hv : U.vm = s.vm) (hh : U.heap = s.heap) : am_SX X σ A U := by
  obtain ⟨h1, h2, h3, ⟨h4, h4'⟩, ⟨h5, h6⟩, ⟨h7, h8⟩, ⟨h9, h10, h11⟩, hN⟩ := h
  have al : s.vm.Alike U.vm := by rw [hv]; exact Vm.Alike.refl _
  refine ⟨fun e he => (h1 e he).same hv, ?_, ?_, ⟨?_, h4'⟩, ⟨?_, ?_⟩, ⟨?_, ?_⟩, ⟨?_, ?_, h11⟩, hN.same hv⟩ <;> rw [hh]
  · exact h2.moved al
  · exact h3.moved al
  · exact h4.moved al
  · exact h5.moved al
  · exact h6.moved al
  · exact h7.moved al
  · exact h8.moved al
  · exact h9.moved al
  · exact h10
def am_LR (σ ρ : Nat → Nat) (ls : Array Slot) (L : List Value) : Prop := ls.size = L.length ∧ lv_wf ls ∧ ∀ (i : Nat) (v : Value), L[i]? = some v → v ≠ am_u → ls[i]? = some (.val (am_vR σ ρ v))
def am_as (σ ρ : Nat → Nat) : Nat → List Value → List (Nat × Value)
  | _, [] => []
  | i, v :: r => if v = am_u then am_as σ ρ (i + 1) r else (i, am_vR σ ρ v) :: am_as σ ρ (i + 1) r
theorem am_as_mem {σ ρ : Nat → Nat} {q : Nat × Value} : ∀ {L : List Value} {i : Nat}, q ∈ am_as σ ρ i L ↔ ∃ (j : Nat) (v : Value), L[j]? = some v ∧ v ≠ am_u ∧ q = (i + j, am_vR σ ρ v)
  | [], i => by simp [am_as]
  | w :: r, i => by
    have ih := am_as_mem (σ := σ) (ρ := ρ) (q := q) (L := r) (i := i + 1)
    constructor
    · intro hq
      unfold am_as at hq
      split at hq
      · obtain ⟨j, v, h1, h2, h3⟩ := ih.mp hq
        exact ⟨j + 1, v, h1, h2, by rw [h3, show i + 1 + j = i + (j + 1) by omega]⟩
      · rename_i hw
        rcases List.mem_cons.mp hq with h | h
        · exact ⟨0, w, rfl, hw, h⟩
        · obtain ⟨j, v, h1, h2, h3⟩ := ih.mp h
          exact ⟨j + 1, v, h1, h2, by rw [h3, show i + 1 + j = i + (j + 1) by omega]⟩
    · rintro ⟨j, v, h1, h2, h3⟩
      unfold am_as
      cases j with
      | zero =>
        simp only [List.getElem?_cons_zero, Option.some.injEq] at h1
        subst h1
        rw [if_neg h2, h3]
        exact List.mem_cons_self
      | succ j =>
        have : q ∈ am_as σ ρ (i + 1) r := ih.mpr ⟨j, v, h1, h2, by rw [h3, show i + 1 + j = i + (j + 1) by omega]⟩
        split
        · exact this
        · exact List.mem_cons_of_mem _ this
theorem am_LR.has {σ ρ : Nat → Nat} {ls : Array Slot} {L : List Value} (h : am_LR σ ρ ls L) : lv_has ls L.length (am_as σ ρ 0 L) := by
  refine ⟨h.1, h.2.1, fun q hq => ?_⟩
  obtain ⟨j, v, h1, h2, rfl⟩ := am_as_mem.mp hq
  rw [Nat.zero_add]
  exact h.2.2 j v h1 h2
theorem am_vR_cat (σ ρ : Nat → Nat) (v : Value) : (am_vR σ ρ v).category = v.category := by cases v <;> rfl
theorem am_cat_map (σ ρ : Nat → Nat) (vs : List Value) : ((vs.map (am_vR σ ρ)).map fun v => v.category).sum = am_cat vs := by
  unfold am_cat
  rw [List.map_map]
  congr 1
  apply List.map_congr_left
  intro v _
  exact am_vR_cat σ ρ v
/-- a store of one word -/
theorem am_LR.set1 {σ ρ : Nat → Nat} {ls' : Array Slot} {L : List Value} {i : Nat} {v : Value} (hi : i < L.length) (hn : am_nl i L = true)
    (h : lv_has ls' L.length ((i, am_vR σ ρ v) :: (am_as σ ρ 0 L).filter (fun q => !(q.1 == i) && !(q.1 + 1 == i && q.2.category == 2)))) : am_LR σ ρ ls' (L.set i v) := by
  refine ⟨by rw [List.length_set]; exact h.1, h.2.1, fun j w hj hw => ?_⟩
  by_cases e : i = j
  · subst e
    rw [List.getElem?_set_self hi] at hj
    cases hj
    exact h.2.2 (i, am_vR σ ρ v) List.mem_cons_self
  · rw [List.getElem?_set_ne e] at hj
    refine h.2.2 (j, am_vR σ ρ w) (List.mem_cons_of_mem _ (List.mem_filter.mpr ⟨am_as_mem.mpr ⟨j, w, hj, hw, by rw [Nat.zero_add]⟩, ?_⟩))
    have e1 : (j == i) = false := by simp; omega
    have e2 : (j + 1 == i && (am_vR σ ρ w).category == 2) = false := by
      by_cases e3 : j + 1 = i
      · subst e3
        simp only [am_nl, hj, decide_eq_true_eq] at hn
        rw [am_vR_cat, hn]
        simp
      · simp [e3]
    simp [e1, e2]
theorem am_LR.set2 {σ ρ : Nat → Nat} {ls' : Array Slot} {L : List Value} {i : Nat} {v : Value} (hi : i + 1 < L.length) (hn : am_nl i L = true)
    (h : lv_has ls' L.length ((i, am_vR σ ρ v) :: (am_as σ ρ 0 L).filter (fun q => !(q.1 == i) && (!(q.1 == i + 1) && !(q.1 + 1 == i && q.2.category == 2))))) : am_LR σ ρ ls' ((L.set i v).set (i + 1) am_u) := by
  refine ⟨by rw [List.length_set, List.length_set]; exact h.1, h.2.1, fun j w hj hw => ?_⟩
  by_cases e0 : i + 1 = j
  · subst e0
    rw [List.getElem?_set_self (by rw [List.length_set]; exact hi)] at hj
    cases hj
    exact absurd rfl hw
  · rw [List.getElem?_set_ne e0] at hj
    by_cases e : i = j
    · subst e
      rw [List.getElem?_set_self (by omega)] at hj
      cases hj
      exact h.2.2 (i, am_vR σ ρ v) List.mem_cons_self
    · rw [List.getElem?_set_ne e] at hj
      refine h.2.2 (j, am_vR σ ρ w) (List.mem_cons_of_mem _ (List.mem_filter.mpr ⟨am_as_mem.mpr ⟨j, w, hj, hw, by rw [Nat.zero_add]⟩, ?_⟩))
      have e1 : (j == i) = false := by simp; omega
      have e3 : (j == i + 1) = false := by simp; omega
      have e2 : (j + 1 == i && (am_vR σ ρ w).category == 2) = false := by
        by_cases e3 : j + 1 = i
        · subst e3
          simp only [am_nl, hj, decide_eq_true_eq] at hn
          rw [am_vR_cat, hn]
          simp
        · simp [e3]
      simp [e1, e2, e3]
/-- the addresses of the cells that were there stay -/
def am_ag (n n' : Nat) (ρ ρ' : Nat → Nat) : Prop := ∀ a : Nat, ¬ (n ≤ a ∧ a < n') → ρ' a = ρ a
theorem am_ag.rf {n n' : Nat} {ρ : Nat → Nat} : am_ag n n' ρ ρ := fun _ _ => rfl
theorem am_ag.tr {n n1 n2 : Nat} {ρ ρ1 ρ2 : Nat → Nat} (h1 : n ≤ n1) (h2 : n1 ≤ n2) (a1 : am_ag n n1 ρ ρ1) (a2 : am_ag n1 n2 ρ1 ρ2) : am_ag n n2 ρ ρ2 := fun a ha => (a2 a (by omega)).trans (a1 a (by omega))
theorem am_ag.v1 {n n' : Nat} {σ ρ ρ' : Nat → Nat} (h : am_ag n n' ρ ρ') {v : Value} (hv : am_v1 n v = true) : am_vR σ ρ' v = am_vR σ ρ v := by
  cases v with
  | ref a =>
    simp only [am_v1, Bool.or_eq_true, decide_eq_true_eq] at hv
    show Value.ref (am_ad σ ρ' a) = Value.ref (am_ad σ ρ a)
    unfold am_ad
    have hv : @LT.lt Nat _ a n ∨ @LE.le Nat _ 1000 a := hv
    by_cases e : @LT.lt Nat _ a 1000
    · rw [if_pos e, if_pos e, h a (by omega)]
    · rw [if_neg e, if_neg e]
  | _ => rfl
theorem am_ag.vl {n n' : Nat} {σ ρ ρ' : Nat → Nat} (h : am_ag n n' ρ ρ') {vs : List Value} (hv : am_vl n vs = true) : vs.map (am_vR σ ρ') = vs.map (am_vR σ ρ) := by
  apply List.map_congr_left
  intro v hm
  exact h.v1 (List.all_eq_true.mp hv v hm)
theorem am_ag.LR {n n' : Nat} {σ ρ ρ' : Nat → Nat} (h : am_ag n n' ρ ρ') {ls : Array Slot} {L : List Value} (hv : am_vl n L = true) (hL : am_LR σ ρ ls L) : am_LR σ ρ' ls L :=
  ⟨hL.1, hL.2.1, fun i v hi hu => by rw [h.v1 (List.all_eq_true.mp hv v (List.mem_of_getElem? hi))]; exact hL.2.2 i v hi hu⟩
theorem am_ag.eq {n : Nat} {ρ ρ' : Nat → Nat} (h : am_ag n n ρ ρ') : ρ' = ρ := funext fun a => h a (by omega)
theorem am_ad_lt {σ ρ : Nat → Nat} {a : Nat} (h : a < 1000) : am_ad σ ρ a = ρ a := if_pos h
theorem am_ad_ge {σ ρ : Nat → Nat} {a : Nat} (h : 1000 ≤ a) : am_ad σ ρ a = σ a := if_neg (by omega)
theorem am_ag.ad {n n' : Nat} {σ ρ ρ' : Nat → Nat} (h : am_ag n n' ρ ρ') {a : Nat} (hv : a < n ∨ 1000 ≤ a) : am_ad σ ρ' a = am_ad σ ρ a := by
  unfold am_ad
  by_cases e : a < 1000
  · rw [if_pos e, if_pos e, h a (by omega)]
  · rw [if_neg e, if_neg e]
theorem am_ag.cR {n n' : Nat} {tid : Nat → ClassId} {σ ρ ρ' : Nat → Nat} (h : am_ag n n' ρ ρ') {c : va_E} (hc : am_vc n c = true) : am_cR tid σ ρ' c = am_cR tid σ ρ c := by
  match c, hc with
  | .inl (t, m, .inl f), _ => rfl
  | .inl (t, m, .inr (.inr (.inr (.inr f)))), hc =>
    have e : (fun j => if j < m then (f j).map (am_ad σ ρ') else none) = (fun j => if j < m then (f j).map (am_ad σ ρ) else none) := by
      funext j
      by_cases hj : j < m
      · rw [if_pos hj, if_pos hj]
        have h1 := List.all_eq_true.mp hc j (List.mem_range.mpr hj)
        cases hf : f j with
        | none => rfl
        | some a =>
          rw [hf] at h1
          simp only [Bool.or_eq_true, decide_eq_true_eq] at h1
          show some _ = some _
          rw [h.ad h1]
      · rw [if_neg hj, if_neg hj]
    show Sum.inl (tid t, m, Sum.inr (Sum.inr (Sum.inr (Sum.inr _)))) = Sum.inl (tid t, m, Sum.inr (Sum.inr (Sum.inr (Sum.inr _))))
    rw [e]
  | .inr (ci, fs), hc =>
    show Sum.inr (ci, fs.map (am_vR σ ρ')) = Sum.inr (ci, fs.map (am_vR σ ρ))
    rw [h.vl hc]
theorem am_ag.ws {n n' : Nat} {tid : Nat → ClassId} {σ ρ ρ' : Nat → Nat} (h : am_ag n n' ρ ρ') {g : am_H} (hl : g.length ≤ n) (hc : am_vh n g = true) : am_ws tid σ ρ' g = am_ws tid σ ρ g := by
  unfold am_ws
  apply List.ext_getElem?
  intro i
  rw [List.getElem?_mapIdx, List.getElem?_mapIdx]
  cases hi : g[i]? with
  | none => rfl
  | some c =>
    have h1 := (List.getElem?_eq_some_iff.mp hi).1
    show some (ρ' i, am_cR tid σ ρ' c) = some (ρ i, am_cR tid σ ρ c)
    rw [h i (by omega), h.cR (List.all_eq_true.mp hc c (List.mem_of_getElem? hi))]
theorem am_ws_app {tid : Nat → ClassId} {σ ρ : Nat → Nat} {g g2 : am_H} : am_ws tid σ ρ (g ++ g2) = am_ws tid σ ρ g ++ g2.mapIdx (fun i c => (ρ (g.length + i), am_cR tid σ ρ c)) := by
  unfold am_ws
  rw [List.mapIdx_append]
  congr 1
  apply List.ext_getElem?
  intro i
  rw [List.getElem?_mapIdx, List.getElem?_mapIdx]
  cases g2[i]? with
  | none => rfl
  | some c => show some _ = some _; rw [Nat.add_comm i]
def am_cz (c : va_E) : Nat := match c with
  | .inl (_, n, _) => n
  | .inr (_, fs) => fs.length
theorem am_sz_eq (h : am_H) : am_sz h = (h.map am_cz).sum := rfl
theorem am_sz_set : ∀ {h : am_H} {a : Nat} {c c' : va_E}, h[a]? = some c → am_cz c' = am_cz c → am_sz (h.set a c') = am_sz h
  | [], _, _, _, hc, _ => by simp at hc
  | d :: g, 0, c, c', hc, hz => by
    simp only [List.getElem?_cons_zero, Option.some.injEq] at hc
    subst hc
    simp only [am_sz_eq, List.set_cons_zero, List.map_cons, List.sum_cons, hz]
  | d :: g, a + 1, c, c', hc, hz => by
    have := am_sz_set (h := g) (a := a) hc hz
    simp only [am_sz_eq, List.set_cons_succ, List.map_cons, List.sum_cons] at this ⊢
    rw [this]
theorem am_sz_app (g g2 : am_H) : am_sz (g ++ g2) = am_sz g + am_sz g2 := by simp only [am_sz_eq, List.map_append, List.sum_append]
theorem am_nar_vR {σ ρ : Nat → Nat} {ty : FieldType} {v : Value} (h : narrow ty v = v) : narrow ty (am_vR σ ρ v) = am_vR σ ρ v := by
  cases v <;> first | exact h | (cases ty <;> rfl)
theorem am_fit_vR {σ ρ : Nat → Nat} {ty : FieldType} {v : Value} (h : fits ty v = true) : fits ty (am_vR σ ρ v) = true := by
  cases v <;> first | exact h | (cases ty <;> first | exact h | rfl)
