/-! the instructions that touch the cells -/
theorem am_ga_of {X : am_X} {h : am_H} {a t n : Nat} {f : Nat → Int32} (e : am_ga X h a = some (t, n, f)) : h[a]? = some (.inl (t, n, .inl f)) ∨ (1000 ≤ a ∧ am_sp X a = some (t, n, f)) := by
  unfold am_ga at e
  split at e
  · rename_i hq; cases e; exact Or.inl hq
  · cases e
  · split at e
    · cases e
    · exact Or.inr ⟨by omega, e⟩
theorem am_sp_of {X : am_X} {a t n : Nat} {f : Nat → Int32} (e : am_sp X a = some (t, n, f)) : (a = 3000 ∧ t = 0 ∧ n = X.1 ∧ f = X.2.1) ∨ (a = 2000 ∧ t = 0 ∧ n = 4 ∧ f = fun j => ([1, 1, 0, 0] : List Int32).getD j 0) ∨ (a = 2001 ∧ t = 0 ∧ n = 4 ∧ f = fun j => ([6, 4, 99, 99] : List Int32).getD j 0) ∨ (∃ i, i < 13 ∧ a = 1100 + i ∧ t = 1 ∧ n = am_sl.getD i 0 ∧ f = fun j => (am_sb.getD i []).getD j 0) := by
  unfold am_sp at e
  split at e
  · cases e; exact Or.inl ⟨by assumption, rfl, rfl, rfl⟩
  · split at e
    · cases e; exact Or.inr (Or.inl ⟨by assumption, rfl, rfl, rfl⟩)
    · split at e
      · cases e; exact Or.inr (Or.inr (Or.inl ⟨by assumption, rfl, rfl, rfl⟩))
      · split at e
        · rename_i q
          obtain ⟨i, rfl⟩ : ∃ i, a = 1100 + i := ⟨a - 1100, by omega⟩
          rw [Nat.add_sub_cancel_left] at e
          have e2 := Option.some.inj e
          have e3 := congrArg Prod.fst e2
          have e4 := congrArg (fun z => z.2.1) e2
          have e5 := congrArg (fun z => z.2.2) e2
          exact Or.inr (Or.inr (Or.inr ⟨i, by omega, rfl, e3.symm, e4.symm, e5.symm⟩))
        · cases e
theorem am_ald_of {X : am_X} {t1 t2 pc : Nat} {L st : List Value} {h : am_H} {P : am_P} (hd : am_ald X t1 t2 pc L st h = some P) : ∃ i a r t n f, st = .int i :: .ref a :: r ∧ am_ga X h a = some (t, n, f) ∧ (t = t1 ∨ t = t2) ∧ vp_in i n ∧ P = (pc + 1, L, .int (f i.toNatClampNeg) :: r, h) := by
  unfold am_ald at hd
  split at hd
  · split at hd
    · rename_i t n f hg
      split at hd
      · rename_i q; cases hd; exact ⟨_, _, _, t, n, f, rfl, hg, q.1, am_in_iff.mp q.2, rfl⟩
      · cases hd
    · cases hd
  · cases hd
theorem am_gq_of {h : am_H} {a t n : Nat} {f : Nat → Option Nat} (e : am_gq h a = some (t, n, f)) : h[a]? = some (.inl (t, n, .inr (.inr (.inr (.inr f))))) := by
  unfold am_gq at e
  split at e
  · rename_i hq; cases e; exact hq
  · cases e
theorem am_aal_of {pc : Nat} {L st : List Value} {h : am_H} {P : am_P} (hd : am_aal pc L st h = some P) : ∃ i a r t n f, st = .int i :: .ref a :: r ∧ h[a]? = some (.inl (t, n, .inr (.inr (.inr (.inr f))))) ∧ (t = 3 ∨ t = 4 ∨ t = 5) ∧ vp_in i n ∧ P = (pc + 1, L, va_rf (f i.toNatClampNeg) :: r, h) := by
  unfold am_aal at hd
  split at hd
  · split at hd
    · rename_i t n f hg
      split at hd
      · rename_i q; cases hd; exact ⟨_, _, _, t, n, f, rfl, am_gq_of hg, q.1, am_in_iff.mp q.2, rfl⟩
      · cases hd
    · cases hd
  · cases hd
theorem am_ist_of {pc : Nat} {L st : List Value} {h : am_H} {P : am_P} (hd : am_ist pc L st h = some P) : ∃ x i a r n f, st = .int x :: .int i :: .ref a :: r ∧ h[a]? = some (.inl (0, n, .inl f)) ∧ vp_in i n ∧ P = (pc + 1, L, r, h.set a (.inl (0, n, .inl (upd f i.toNatClampNeg x)))) := by
  unfold am_ist at hd
  split at hd
  · split at hd
    · rename_i t n f hg
      split at hd
      · rename_i q
        obtain ⟨rfl, q⟩ := q
        cases hd; exact ⟨_, _, _, _, n, f, rfl, hg, am_in_iff.mp q, rfl⟩
      · cases hd
    · cases hd
  · cases hd
theorem am_bst_of {pc : Nat} {L st : List Value} {h : am_H} {P : am_P} (hd : am_bst pc L st h = some P) : ∃ x i a r t n f, st = .int x :: .int i :: .ref a :: r ∧ h[a]? = some (.inl (t, n, .inl f)) ∧ (t = 1 ∨ t = 2) ∧ vp_in i n ∧ P = (pc + 1, L, r, h.set a (.inl (t, n, .inl (upd f i.toNatClampNeg (am_nb t x))))) := by
  unfold am_bst at hd
  split at hd
  · split at hd
    · rename_i t n f hg
      split at hd
      · rename_i q
        cases hd; exact ⟨_, _, _, _, t, n, f, rfl, hg, q.1, am_in_iff.mp q.2, rfl⟩
      · cases hd
    · cases hd
  · cases hd
theorem am_aas_of {pc : Nat} {L st : List Value} {h : am_H} {P : am_P} (hd : am_aas pc L st h = some P) : ∃ v i a r t n f ci fs, st = .ref v :: .int i :: .ref a :: r ∧ h[a]? = some (.inl (t, n, .inr (.inr (.inr (.inr f))))) ∧ h[v]? = some (.inr (ci, fs)) ∧ ((t = 3 ∧ ci = 2) ∨ (t = 4 ∧ ci = 5)) ∧ vp_in i n ∧ P = (pc + 1, L, r, h.set a (.inl (t, n, .inr (.inr (.inr (.inr (va_up f i.toNatClampNeg (some v)))))))) := by
  unfold am_aas at hd
  split at hd
  · split at hd
    · rename_i t n f ci fs hg hv
      split at hd
      · rename_i q
        cases hd; exact ⟨_, _, _, _, t, n, f, ci, fs, rfl, am_gq_of hg, hv, q.1, am_in_iff.mp q.2, rfl⟩
      · cases hd
    · cases hd
  · cases hd
theorem am_len_of {X : am_X} {pc : Nat} {L st : List Value} {h : am_H} {P : am_P} (hd : am_len X pc L st h = some P) : ∃ a r t n f, st = .ref a :: r ∧ am_ga X h a = some (t, n, f) ∧ t < 3 ∧ P = (pc + 1, L, .int (Int32.ofNat n) :: r, h) := by
  unfold am_len at hd
  split at hd
  · split at hd
    · rename_i t n f hg
      split at hd
      · rename_i q; cases hd; exact ⟨_, _, t, n, f, rfl, hg, q, rfl⟩
      · cases hd
    · cases hd
  · cases hd
theorem am_gf_of {h : am_H} {a ci s : Nat} {v : Value} (e : am_gf h a ci s = some v) : ∃ fs, h[a]? = some (.inr (ci, fs)) ∧ fs[s]? = some v := by
  unfold am_gf at e
  split at e
  · rename_i c fs hq
    split at e
    · rename_i q; subst q; exact ⟨fs, hq, e⟩
    · cases e
  · cases e
theorem am_gfd_of {o idx pc : Nat} {L st : List Value} {h : am_H} {P : am_P} (hd : am_gfd o idx pc L st h = some P) : ∃ a r v, st = .ref a :: r ∧ P = (pc + 3, L, v :: r, h) ∧ ((o = 11 ∧ ∃ i : Nat, i < 13 ∧ a = 1000 + i ∧ ((idx = 9 ∧ v = .ref (1100 + i)) ∨ (idx = 15 ∧ v = .int 0))) ∨ (∃ ci s q fs, am_lk am_fl o idx = some (ci, s, q) ∧ h[a]? = some (.inr (ci, fs)) ∧ fs[s]? = some v)) := by
  unfold am_gfd at hd
  split at hd
  · rename_i a r
    split at hd
    · rename_i ho
      split at hd
      · rename_i q
        have q1 : @LE.le Nat _ 1000 a := q.1
        have q2 : @LT.lt Nat _ a 1013 := q.2.1
        obtain ⟨i, hi⟩ : ∃ i : Nat, @Eq Nat a (1000 + i) := ⟨@HSub.hSub Nat Nat Nat _ a 1000, by omega⟩
        have hi2 : @Eq Nat (a + 100) (1100 + i) := by rw [hi]; omega
        split at hd
        · cases hd; exact ⟨a, r, _, rfl, rfl, Or.inl ⟨ho, i, by omega, hi, Or.inl ⟨by assumption, congrArg Value.ref hi2⟩⟩⟩
        · split at hd
          · cases hd; exact ⟨a, r, _, rfl, rfl, Or.inl ⟨ho, i, by omega, hi, Or.inr ⟨by assumption, rfl⟩⟩⟩
          · cases hd
      · cases hd
    · split at hd
      · rename_i ci s q hl
        split at hd
        · rename_i v hg
          obtain ⟨fs, h1, h2⟩ := am_gf_of hg
          cases hd; exact ⟨a, r, v, rfl, rfl, Or.inr ⟨ci, s, q, fs, hl, h1, h2⟩⟩
        · cases hd
      · cases hd
  · cases hd
theorem am_sf_of {h h' : am_H} {a ci s : Nat} {v : Value} (e : am_sf h a ci s v = some h') : ∃ fs, h[a]? = some (.inr (ci, fs)) ∧ s < fs.length ∧ h' = h.set a (.inr (ci, fs.set s v)) := by
  unfold am_sf at e
  split at e
  · rename_i c fs hq
    split at e
    · rename_i q
      obtain ⟨rfl, q⟩ := q
      cases e; exact ⟨fs, hq, q, rfl⟩
    · cases e
  · cases e
theorem am_pfd_of {k o idx pc : Nat} {L st : List Value} {h : am_H} {P : am_P} (hd : am_pfd k o idx pc L st h = some P) : ∃ v a r ci s q fs, st = v :: .ref a :: r ∧ am_lk am_fl o idx = some (ci, s, q) ∧ (am_fin ci s = false ∨ ((am_y k).name = "<init>" ∧ ci = o)) ∧ narrow (am_fty ci s) v = v ∧ fits (am_fty ci s) v = true ∧ h[a]? = some (.inr (ci, fs)) ∧ s < fs.length ∧ P = (pc + 3, L, r, h.set a (.inr (ci, fs.set s v))) := by
  unfold am_pfd at hd
  split at hd
  · split at hd
    · rename_i ci s q hl
      split at hd
      · rename_i w
        split at hd
        · rename_i h' hs
          obtain ⟨fs, h1, h2, rfl⟩ := am_sf_of hs
          cases hd; exact ⟨_, _, _, ci, s, q, fs, rfl, hl, w.1, w.2.1, w.2.2, h1, h2, rfl⟩
        · cases hd
      · cases hd
    · cases hd
  · cases hd
theorem am_ldc_of {n o idx pc : Nat} {L st : List Value} {h : am_H} {P : am_P} (hd : am_ldc n o idx pc L st h = some P) : (∃ v q, am_lk am_li o idx = some (v, q) ∧ P = (pc + n, L, .int v :: st, h)) ∨ (n = 2 ∧ ∃ i q, am_lk am_ls o idx = some (i, q) ∧ P = (pc + n, L, .ref (1000 + i) :: st, h)) := by
  unfold am_ldc at hd
  split at hd
  · rename_i v q hl; cases hd; exact Or.inl ⟨v, q, hl, rfl⟩
  · split at hd
    · split at hd
      · rename_i i q hl; cases hd; exact Or.inr ⟨by assumption, i, q, hl, rfl⟩
      · cases hd
    · cases hd
theorem am_al_of {n : Nat} {L st : List Value} {h : am_H} (e : am_al n L st h = true) : h.length + n < 1000 ∧ am_vl h.length L = true ∧ am_vl h.length st = true ∧ am_vh h.length h = true := by
  simp only [am_al, Bool.and_eq_true, decide_eq_true_eq] at e
  exact ⟨e.1.1.1, e.1.1.2, e.1.2, e.2⟩
section SND2
variable {X : am_X} {D : va_G} {tid : Nat → ClassId} {σ ρ : Nat → Nat} {A : Nat → Prop} {p : Program} {l : Launch} {e : Env} {R : Room} {s : State} {m : MethodId} {args : Array Value} {below : List Frame} {meth : Method} {c : Code} {H : Heap} {locs : List Loc} {cells slots : Nat} {Q : State → Prop} {k pc b z n : Nat} {ls : Array Slot} {L st : List Value} {h : am_H} {P : am_P}
theorem am_at_lt {a : Nat} {c0 : va_E} (hl : h.length ≤ 1000) (hc : h[a]? = some c0) : am_ad σ ρ a = ρ a := am_ad_lt (Nat.lt_of_lt_of_le (List.getElem?_eq_some_iff.mp hc).1 hl)
/-- one cell is written -/
theorem am_KK.cell (kk : am_KK D tid σ A p l e R s m args below meth c Q k b z ρ h P) (hJ : am_J D tid σ A s k ρ h H locs ls L) (hN : am_N cells slots b z h) {pc' a : Nat} {st' : List Value} {c0 c1 : va_E} (hc : h[a]? = some c0) (e1 : P = (pc', L, st', h.set a c1)) (hz : am_cz c1 = am_cz c0) {e9 : va_E} (e2 : am_cR tid σ ρ c1 = e9) :
    ∀ (H1 : Heap) (locs1 : List Loc), va_P D am_cl ((am_ws tid σ ρ h).set a (ρ a, e9)) H1 → va_D A ((am_ws tid σ ρ h).set a (ρ a, e9)) → va_S A s.heap H1 locs1 → W p l e R s m args below meth c H1 locs1 cells slots Q (F0 m pc' ls (st'.map (am_vR σ ρ))) := by
  subst e1
  subst e2
  intro H1 locs1 h1 h2 h3
  rw [← am_ws_set] at h1 h2
  exact kk ρ H1 locs1 ls cells slots am_ag.rf ⟨by rw [List.length_set]; exact hJ.1, h1, h2, h3, hJ.2.2.2.2.1, hJ.2.2.2.2.2⟩ ⟨by rw [List.length_set]; exact hN.1, by rw [am_sz_set hc hz]; exact hN.2⟩
theorem am_snd_ald {t1 t2 : Nat} (ht : (t1 = 0 ∧ t2 = 0 ∧ decode (am_c k) pc = .ok (.iaload, 1)) ∨ (t1 = 1 ∧ t2 = 2 ∧ decode (am_c k) pc = .ok (.baload, 1))) (hC : am_C X D tid σ A p R s m args meth c k) (hd : am_ald X t1 t2 pc L st h = some P) (hJ : am_J D tid σ A s k ρ h H locs ls L) (hN : am_N cells slots b z h) (kk : am_KK D tid σ A p l e R s m args below meth c Q k b z ρ h P) : W p l e R s m args below meth c H locs cells slots Q (F0 m pc ls (st.map (am_vR σ ρ))) := by
  obtain ⟨i, a, r, t, n, f, rfl, hg, htt, hin, e1⟩ := am_ald_of hd
  obtain ⟨⟨hx, hb, hml, hr, hown, hts, hlocks, hnm⟩, hA, hK, hX, hRf, hRl⟩ := hC
  have kk' := kk.sta hJ hN e1
  obtain ⟨hl, hP, hD, hS, hLR, -⟩ := hJ
  show W p l e R s m args below meth c H locs cells slots Q (F0 m pc ls (.int i :: .ref (am_ad σ ρ a) :: r.map (am_vR σ ρ)))
  rcases am_ga_of hg with hc | ⟨ha, hsp⟩
  · rw [am_at_lt hl hc]
    rcases ht with ⟨rfl, rfl, hdg⟩ | ⟨rfl, rfl, hdg⟩
    · have : t = 0 := by omega
      subst this
      exact va_iald hx hb hK hP a 0 (am_ws_at hc) rfl hin hdg kk'
    · rcases htt with rfl | rfl
      · exact va_bald hx hb hK hP a 1 (am_ws_at hc) rfl hin hdg kk'
      · exact va_zald hx hb hK hP a 2 (am_ws_at hc) rfl hin hdg kk'
  · rw [am_ad_ge ha]
    obtain ⟨x1, x2, x3, x4, ⟨x5, x6⟩, ⟨x7, x8⟩, ⟨x9, x10, x11⟩, -⟩ := hX
    rcases am_sp_of hsp with ⟨rfl, rfl, rfl, rfl⟩ | ⟨rfl, rfl, rfl, rfl⟩ | ⟨rfl, rfl, rfl, rfl⟩ | ⟨j, hj, rfl, rfl, rfl, rfl⟩
    · rcases ht with ⟨rfl, rfl, hdg⟩ | ⟨rfl, rfl, hdg⟩
      · exact va_sld hx hb x9 x10 x11 hS hin hdg kk'
      · omega
    · rcases ht with ⟨rfl, rfl, hdg⟩ | ⟨rfl, rfl, hdg⟩
      · exact va_ti hx hb x6 hS hin rfl hdg kk'
      · omega
    · rcases ht with ⟨rfl, rfl, hdg⟩ | ⟨rfl, rfl, hdg⟩
      · exact va_ti hx hb x8 hS hin rfl hdg kk'
      · omega
    · rcases ht with ⟨rfl, rfl, hdg⟩ | ⟨rfl, rfl, hdg⟩
      · omega
      · exact va_tb hx hb (x2.1 j hj).2.2.2 hS hin rfl hdg kk'
theorem am_snd_len (hdg : decode (am_c k) pc = .ok (.arraylength, 1)) (hC : am_C X D tid σ A p R s m args meth c k) (hd : am_len X pc L st h = some P) (hJ : am_J D tid σ A s k ρ h H locs ls L) (hN : am_N cells slots b z h) (kk : am_KK D tid σ A p l e R s m args below meth c Q k b z ρ h P) : W p l e R s m args below meth c H locs cells slots Q (F0 m pc ls (st.map (am_vR σ ρ))) := by
  obtain ⟨a, r, t, n, f, rfl, hg, htt, e1⟩ := am_len_of hd
  obtain ⟨⟨hx, hb, hml, hr, hown, hts, hlocks, hnm⟩, hA, hK, hX, hRf, hRl⟩ := hC
  have kk' := kk.sta hJ hN e1
  obtain ⟨hl, hP, hD, hS, hLR, -⟩ := hJ
  show W p l e R s m args below meth c H locs cells slots Q (F0 m pc ls (.ref (am_ad σ ρ a) :: r.map (am_vR σ ρ)))
  rcases am_ga_of hg with hc | ⟨ha, hsp⟩
  · rw [am_at_lt hl hc]
    match t, htt, hc with
    | 0, _, hc => exact va_alen hx hb hK hP a 0 (am_ws_at hc) (ty := .int) rfl rfl hdg kk'
    | 1, _, hc => exact va_alen hx hb hK hP a 1 (am_ws_at hc) (ty := .byte) rfl rfl hdg kk'
    | 2, _, hc => exact va_alen hx hb hK hP a 2 (am_ws_at hc) (ty := .boolean) rfl rfl hdg kk'
  · rw [am_ad_ge ha]
    obtain ⟨x1, x2, x3, x4, ⟨x5, x6⟩, ⟨x7, x8⟩, ⟨x9, x10, x11⟩, -⟩ := hX
    rcases am_sp_of hsp with ⟨rfl, rfl, rfl, rfl⟩ | ⟨rfl, rfl, rfl, rfl⟩ | ⟨rfl, rfl, rfl, rfl⟩ | ⟨j, hj, rfl, rfl, rfl, rfl⟩
    · exact va_slen hx hb x9 x10 x11 hS hdg kk'
    · exact va_tlen hx hb x6 hS rfl hdg kk'
    · exact va_tlen hx hb x8 hS rfl hdg kk'
    · exact va_tlen hx hb (x2.1 j hj).2.2.2 hS rfl hdg kk'
theorem am_snd_aal (hdg : decode (am_c k) pc = .ok (.aaload, 1)) (hC : am_C X D tid σ A p R s m args meth c k) (hd : am_aal pc L st h = some P) (hJ : am_J D tid σ A s k ρ h H locs ls L) (hN : am_N cells slots b z h) (kk : am_KK D tid σ A p l e R s m args below meth c Q k b z ρ h P) : W p l e R s m args below meth c H locs cells slots Q (F0 m pc ls (st.map (am_vR σ ρ))) := by
  obtain ⟨i, a, r, t, n, f, rfl, hc, htt, hin, e1⟩ := am_aal_of hd
  obtain ⟨⟨hx, hb, hml, hr, hown, hts, hlocks, hnm⟩, hA, hK, hX, hRf, hRl⟩ := hC
  have kk' := kk.sta hJ hN e1
  obtain ⟨hl, hP, hD, hS, hLR, -⟩ := hJ
  show W p l e R s m args below meth c H locs cells slots Q (F0 m pc ls (.int i :: .ref (am_ad σ ρ a) :: r.map (am_vR σ ρ)))
  rw [am_at_lt hl hc]
  have hlt : i.toNatClampNeg < n := Nat.not_le.mp fun q => hin (Or.inr q)
  have ev : am_vR σ ρ (va_rf (f i.toNatClampNeg)) = va_rf ((fun j => if j < n then (f j).map (am_ad σ ρ) else none) i.toNatClampNeg) := by
    show _ = va_rf (if i.toNatClampNeg < n then _ else _)
    rw [if_pos hlt]
    cases f i.toNatClampNeg <;> rfl
  have kk2 : W p l e R s m args below meth c H locs cells slots Q (F0 m (pc + 1) ls (am_vR σ ρ (va_rf (f i.toNatClampNeg)) :: r.map (am_vR σ ρ))) := kk'
  rw [ev] at kk2
  rcases htt with rfl | rfl | rfl
  · exact va_aldq hx hb hK hP a 3 (am_ws_at hc) (C := RX2) rfl hin hdg kk2
  · exact va_aldq hx hb hK hP a 4 (am_ws_at hc) (C := RX5) rfl hin hdg kk2
  · exact W.aald (v := va_rf ((fun j => if j < n then (f j).map (am_ad σ ρ) else none) i.toNatClampNeg)) (ty := .array .int) hx hb (hP a _ (am_ws_at hc)) ((hK.2 5 _ rfl).1 n (fun j => va_rf ((fun j => if j < n then (f j).map (am_ad σ ρ) else none) j))) rfl (fun q => by cases q) (by show ¬ (i < 0 ∨ (arrV _ _ _).slots.size ≤ _); rw [arrV_size]; exact hin) (by show (arrV _ _ _).slots[_]? = _; rw [arrV_read _ _ hlt]) rfl rfl hdg kk2
theorem am_snd_ist (hdg : decode (am_c k) pc = .ok (.iastore, 1)) (hC : am_C X D tid σ A p R s m args meth c k) (hd : am_ist pc L st h = some P) (hJ : am_J D tid σ A s k ρ h H locs ls L) (hN : am_N cells slots b z h) (kk : am_KK D tid σ A p l e R s m args below meth c Q k b z ρ h P) : W p l e R s m args below meth c H locs cells slots Q (F0 m pc ls (st.map (am_vR σ ρ))) := by
  obtain ⟨x, i, a, r, n, f, rfl, hc, hin, e1⟩ := am_ist_of hd
  obtain ⟨⟨hx, hb, hml, hr, hown, hts, hlocks, hnm⟩, hA, hK, hX, hRf, hRl⟩ := hC
  have kk' := kk.cell hJ hN hc e1 rfl rfl
  obtain ⟨hl, hP, hD, hS, hLR, -⟩ := hJ
  show W p l e R s m args below meth c H locs cells slots Q (F0 m pc ls (.int x :: .int i :: .ref (am_ad σ ρ a) :: r.map (am_vR σ ρ)))
  rw [am_at_lt hl hc]
  exact va_iast hx hb hK hP hD hS a 0 (am_ws_at hc) rfl hin hdg kk'
theorem am_snd_bst (hdg : decode (am_c k) pc = .ok (.bastore, 1)) (hC : am_C X D tid σ A p R s m args meth c k) (hd : am_bst pc L st h = some P) (hJ : am_J D tid σ A s k ρ h H locs ls L) (hN : am_N cells slots b z h) (kk : am_KK D tid σ A p l e R s m args below meth c Q k b z ρ h P) : W p l e R s m args below meth c H locs cells slots Q (F0 m pc ls (st.map (am_vR σ ρ))) := by
  obtain ⟨x, i, a, r, t, n, f, rfl, hc, htt, hin, e1⟩ := am_bst_of hd
  obtain ⟨⟨hx, hb, hml, hr, hown, hts, hlocks, hnm⟩, hA, hK, hX, hRf, hRl⟩ := hC
  have kk' := kk.cell hJ hN hc e1 rfl rfl
  obtain ⟨hl, hP, hD, hS, hLR, -⟩ := hJ
  show W p l e R s m args below meth c H locs cells slots Q (F0 m pc ls (.int x :: .int i :: .ref (am_ad σ ρ a) :: r.map (am_vR σ ρ)))
  rw [am_at_lt hl hc]
  rcases htt with rfl | rfl
  · exact va_bast hx hb hK hP hD hS a 1 (am_ws_at hc) rfl hin hdg kk'
  · exact va_zast hx hb hK hP hD hS a 2 (am_ws_at hc) rfl hin hdg kk'
theorem am_snd_aas (hdg : decode (am_c k) pc = .ok (.aastore, 1)) (hC : am_C X D tid σ A p R s m args meth c k) (hd : am_aas pc L st h = some P) (hJ : am_J D tid σ A s k ρ h H locs ls L) (hN : am_N cells slots b z h) (kk : am_KK D tid σ A p l e R s m args below meth c Q k b z ρ h P) : W p l e R s m args below meth c H locs cells slots Q (F0 m pc ls (st.map (am_vR σ ρ))) := by
  obtain ⟨v, i, a, r, t, n, f, ci, fs, rfl, hc, hv, htt, hin, e1⟩ := am_aas_of hd
  obtain ⟨⟨hx, hb, hml, hr, hown, hts, hlocks, hnm⟩, hA, hK, hX, hRf, hRl⟩ := hC
  have hl := hJ.1
  have hlt : i.toNatClampNeg < n := Nat.not_le.mp fun q => hin (Or.inr q)
  have ev : (fun j => if j < n then (va_up f i.toNatClampNeg (some v) j).map (am_ad σ ρ) else none) = va_up (fun j => if j < n then (f j).map (am_ad σ ρ) else none) i.toNatClampNeg (some (ρ v)) := by
    funext j
    unfold va_up
    by_cases e : j = i.toNatClampNeg
    · subst e
      rw [if_pos hlt, if_pos rfl, if_pos rfl]
      show some (am_ad σ ρ v) = _
      rw [am_at_lt hl hv]
    · rw [if_neg e, if_neg e]
  have kk' := kk.cell hJ hN hc (e9 := .inl (tid t, n, .inr (.inr (.inr (.inr (va_up (fun j => if j < n then (f j).map (am_ad σ ρ) else none) i.toNatClampNeg (some (ρ v)))))))) e1 rfl (by rw [← ev]; rfl)
  obtain ⟨-, hP, hD, hS, hLR, -⟩ := hJ
  show W p l e R s m args below meth c H locs cells slots Q (F0 m pc ls (.ref (am_ad σ ρ v) :: .int i :: .ref (am_ad σ ρ a) :: r.map (am_vR σ ρ)))
  rw [am_at_lt hl hc, am_at_lt hl hv]
  rcases htt with ⟨rfl, rfl⟩ | ⟨rfl, rfl⟩
  · exact va_astq (r := (RX2, TX2, 2)) hx hb hK hP hD hS a 3 v 2 (am_ws_at hc) rfl (am_ws_at hv) rfl hin hdg kk'
  · exact va_astq (r := (RX5, TX5, 3)) hx hb hK hP hD hS a 4 v 5 (am_ws_at hc) rfl (am_ws_at hv) rfl hin hdg kk'
theorem am_snd_gfd {idx : Nat} (hdg : decode (am_c k) pc = .ok (.getfield idx, 3)) (hC : am_C X D tid σ A p R s m args meth c k) (hd : am_gfd (am_oc k) idx pc L st h = some P) (hJ : am_J D tid σ A s k ρ h H locs ls L) (hN : am_N cells slots b z h) (kk : am_KK D tid σ A p l e R s m args below meth c Q k b z ρ h P) : W p l e R s m args below meth c H locs cells slots Q (F0 m pc ls (st.map (am_vR σ ρ))) := by
  obtain ⟨a, r, v, rfl, e1, hh⟩ := am_gfd_of hd
  obtain ⟨⟨hx, hb, hml, hr, hown, hts, hlocks, hnm⟩, hA, hK, hX, hRf, hRl⟩ := hC
  have kk' := kk.sta hJ hN e1
  obtain ⟨hl, hP, hD, hS, hLR, -⟩ := hJ
  show W p l e R s m args below meth c H locs cells slots Q (F0 m pc ls (.ref (am_ad σ ρ a) :: r.map (am_vR σ ρ)))
  rcases hh with ⟨ho, i, hi, rfl, hv⟩ | ⟨ci, sl, q, fs, hlk, hc, hfs⟩
  · rw [am_ad_ge (by omega)]
    rw [ho] at hown
    have hv2 := hX.2.1.1 i hi
    rcases hv with ⟨rfl, rfl⟩ | ⟨rfl, rfl⟩
    · have kk2 : W p l e R s m args below meth c H locs cells slots Q (F0 m (pc + 3) ls (.ref (am_ad σ ρ (1100 + i)) :: r.map (am_vR σ ρ))) := kk'
      rw [am_ad_ge (by omega)] at kk2
      exact vk_getf hx hb hv2.2.2.1 hS hown (hts _ am_w_strV) (fun _ q => q) hdg kk2
    · exact vk_getf hx hb hv2.2.1 hS hown (hts _ am_w_strC) (fun _ q => q) hdg kk'
  · rw [am_at_lt hl hc]
    obtain ⟨C, T, N, hcl, hsN, hw⟩ := am_fl_of hlk
    exact va_get hx hb hts (am_ly_of hcl).1 hown hK hP a (am_ws_at hc) hcl sl hsN (hts _ hw) (fun _ q => q) (by rw [List.getElem?_map, hfs]; rfl) hdg kk'
theorem am_snd_pfd {idx : Nat} (hdg : decode (am_c k) pc = .ok (.putfield idx, 3)) (hC : am_C X D tid σ A p R s m args meth c k) (hd : am_pfd k (am_oc k) idx pc L st h = some P) (hJ : am_J D tid σ A s k ρ h H locs ls L) (hN : am_N cells slots b z h) (kk : am_KK D tid σ A p l e R s m args below meth c Q k b z ρ h P) : W p l e R s m args below meth c H locs cells slots Q (F0 m pc ls (st.map (am_vR σ ρ))) := by
  obtain ⟨v, a, r, ci, sl, q, fs, rfl, hlk, hfin, hnar, hfit, hc, hsl, e1⟩ := am_pfd_of hd
  obtain ⟨⟨hx, hb, hml, hr, hown, hts, hlocks, hnm⟩, hA, hK, hX, hRf, hRl⟩ := hC
  have kk' := kk.cell hJ hN hc (c1 := .inr (ci, fs.set sl v)) (e9 := .inr (ci, (fs.map (am_vR σ ρ)).set sl (am_vR σ ρ v))) e1 (by show (fs.set sl v).length = fs.length; rw [List.length_set]) (by show Sum.inr (ci, (fs.set sl v).map _) = _; rw [List.map_set])
  obtain ⟨hl, hP, hD, hS, hLR, -⟩ := hJ
  show W p l e R s m args below meth c H locs cells slots Q (F0 m pc ls (am_vR σ ρ v :: .ref (am_ad σ ρ a) :: r.map (am_vR σ ρ)))
  rw [am_at_lt hl hc]
  obtain ⟨C, T, N, hcl, hsN, hw⟩ := am_fl_of hlk
  obtain ⟨⟨ty0, hty⟩, hnm2⟩ := am_ty_of hcl
  have hty1 : parseFieldDescriptor (T sl).2.2.1 = some (am_fty ci sl) := by
    unfold am_fty
    rw [hcl]
    dsimp only
    rw [hty sl hsN]
  have hf2 : am_fin ci sl = (T sl).2.2.2 := by unfold am_fin; rw [hcl]
  by_cases hff : (T sl).2.2.2 = true
  · obtain ⟨hi1, hi2⟩ : (am_y k).name = "<init>" ∧ ci = am_oc k := by
      rcases hfin with h9 | h9
      · rw [hf2, hff] at h9; cases h9
      · exact h9
    exact va_putF hx hb hts (am_ly_of hcl).1 ty0 hty hnm2 hown hK hP hD hS a (am_ws_at hc) hcl sl hsN (hts _ hw) (fun _ q => q) hff (hnm hi1) (by rw [(am_ly_of hcl).2.1 sl hsN, hi2]) hty1 (am_nar_vR hnar) (am_fit_vR hfit) (by rw [List.length_map]; exact hsl) hdg kk'
  · exact va_put hx hb hts (am_ly_of hcl).1 ty0 hty hnm2 hown hK hP hD hS a (am_ws_at hc) hcl sl hsN (hts _ hw) (fun _ q => q) (by simpa using hff) hty1 (am_nar_vR hnar) (am_fit_vR hfit) (by rw [List.length_map]; exact hsl) hdg kk'
theorem am_snd_ldc (hC : am_C X D tid σ A p R s m args meth c k) {idx : Nat} (hi : (n = 2 ∧ decode (am_c k) pc = .ok (.ldc idx, 2)) ∨ (n = 3 ∧ decode (am_c k) pc = .ok (.ldc_w idx, 3))) (hd : am_ldc n (am_oc k) idx pc L st h = some P) (hJ : am_J D tid σ A s k ρ h H locs ls L) (hN : am_N cells slots b z h) (kk : am_KK D tid σ A p l e R s m args below meth c Q k b z ρ h P) : W p l e R s m args below meth c H locs cells slots Q (F0 m pc ls (st.map (am_vR σ ρ))) := by
  obtain ⟨⟨hx, hb, hml, hr, hown, hts, hlocks, hnm⟩, hA, hK, hX, hRf, hRl⟩ := hC
  rcases am_ldc_of hd with ⟨v, q, hl, e1⟩ | ⟨hn, i, q, hl, e1⟩
  · have hw := hts _ (am_ck_in (List.all_eq_true.mp am_li_all _ (am_lk_mem hl)))
    rcases hi with ⟨rfl, hdg⟩ | ⟨rfl, hdg⟩
    · exact lv_ldc hx hb hown hw hdg (kk.sta hJ hN e1)
    · exact lv_ldcw hx hb hown hw hdg (kk.sta hJ hN e1)
  · rcases hi with ⟨rfl, hdg⟩ | ⟨rfl, hdg⟩
    · have kk2 : W p l e R s m args below meth c H locs cells slots Q (F0 m (pc + 2) ls (.ref (am_ad σ ρ (1000 + i)) :: st.map (am_vR σ ρ))) := kk.sta hJ hN e1
      rw [am_ad_ge (by omega)] at kk2
      have hz := hX.1 ((am_oc k, idx), (i, q)) (am_lk_mem hl)
      dsimp only at hz
      exact va_ldcS hx hb hown hz hdg kk2
    · omega
theorem am_snd_gst {idx : Nat} (hdg : decode (am_c k) pc = .ok (.getstatic idx, 3)) (hC : am_C X D tid σ A p R s m args meth c k) (hd : am_gst X (am_oc k) idx pc L st h = some P) (hJ : am_J D tid σ A s k ρ h H locs ls L) (hN : am_N cells slots b z h) (kk : am_KK D tid σ A p l e R s m args below meth c Q k b z ρ h P) : W p l e R s m args below meth c H locs cells slots Q (F0 m pc ls (st.map (am_vR σ ρ))) := by
  obtain ⟨⟨hx, hb, hml, hr, hown, hts, hlocks, hnm⟩, hA, hK, hX, hRf, hRl⟩ := hC
  obtain ⟨x1, x2, x3, ⟨x4, x4'⟩, ⟨x5, x6⟩, ⟨x7, x8⟩, -, xN⟩ := hX
  have hS := hJ.2.2.2.1
  unfold am_gst at hd
  split at hd
  · rename_i w q hl
    have hk := List.all_eq_true.mp am_gs_all _ (am_lk_mem hl)
    match w, hk with
    | 0, hk => exact va_gets hx hb x3 hS hown (hts _ (am_ck_in hk)) (fun _ q => q) hdg (kk.sta hJ hN (Option.some.inj hd).symm)
  · rename_i w q hl
    have hk := List.all_eq_true.mp am_gs_all _ (am_lk_mem hl)
    match w, hk with
    | 0, hk =>
      have kk2 := kk.sta hJ hN (Option.some.inj hd).symm
      have ev : am_vR σ ρ X.2.2 = am_vR σ σ X.2.2 := by
        cases hv : X.2.2 with
        | ref a =>
          have := x4' a hv
          show Value.ref (am_ad σ ρ a) = Value.ref (am_ad σ σ a)
          rw [am_ad_ge this, am_ad_ge this]
        | _ => rfl
      have kk3 : W p l e R s m args below meth c H locs cells slots Q (F0 m (pc + 3) ls (am_vR σ ρ X.2.2 :: st.map (am_vR σ ρ))) := kk2
      rw [ev] at kk3
      exact va_gets hx hb x4 hS hown (hts _ (am_ck_in hk)) (fun _ q => q) hdg kk3
  · rename_i w q hl
    have hk := List.all_eq_true.mp am_gs_all _ (am_lk_mem hl)
    have kk2 : W p l e R s m args below meth c H locs cells slots Q (F0 m (pc + 3) ls (.ref (am_ad σ ρ 2000) :: st.map (am_vR σ ρ))) := kk.sta hJ hN (Option.some.inj hd).symm
    rw [am_ad_ge (by omega)] at kk2
    match w, hk with
    | 0, hk => exact va_gets hx hb x5 hS hown (hts _ (am_ck_in hk)) (fun _ q => q) hdg kk2
    | 1, hk =>
      simp only [am_gsok, Bool.and_eq_true, decide_eq_true_eq] at hk
      rw [hk.1] at hown
      have hj := hk.2
      subst hj
      exact va_getsN hx hb x5 hS hown (xN.2.1.use rfl) (fun _ q => q) hdg kk2
  · rename_i w q hl
    have hk := List.all_eq_true.mp am_gs_all _ (am_lk_mem hl)
    have kk2 : W p l e R s m args below meth c H locs cells slots Q (F0 m (pc + 3) ls (.ref (am_ad σ ρ 2001) :: st.map (am_vR σ ρ))) := kk.sta hJ hN (Option.some.inj hd).symm
    rw [am_ad_ge (by omega)] at kk2
    match w, hk with
    | 0, hk => exact va_gets hx hb x7 hS hown (hts _ (am_ck_in hk)) (fun _ q => q) hdg kk2
    | 1, hk =>
      simp only [am_gsok, Bool.and_eq_true, decide_eq_true_eq] at hk
      rw [hk.1] at hown
      have hj := hk.2
      subst hj
      exact va_getsN hx hb x7 hS hown (xN.2.2.1.use rfl) (fun _ q => q) hdg kk2
  · cases hd
end SND2
