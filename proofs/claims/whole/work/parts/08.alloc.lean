/-! new cells, and the JDK's own three -/
def am_dvok (ci : Nat) : Bool := match am_cl[ci]? with
  | some (_, T, N) => (List.range N).all fun j => decide ((parseFieldDescriptor (T j).2.2.1).map defaultValue = some ((am_dv ci).getD j .null))
  | none => false
theorem am_dv_all : (List.range 10).all am_dvok = true := by decide +kernel
theorem am_dv_of {ci N : Nat} {C : String} {T : u_T} {ty0 : Nat → FieldType} (h : am_cl[ci]? = some (C, T, N)) (hty : ∀ k, k < N → parseFieldDescriptor (T k).2.2.1 = some (ty0 k)) : ∀ j, j < N → defaultValue (ty0 j) = vp_V (am_dv ci) j := by
  have hl : ci < 10 := (List.getElem?_eq_some_iff.mp h).1
  have h1 := List.all_eq_true.mp am_dv_all ci (List.mem_range.mpr hl)
  unfold am_dvok at h1
  rw [h] at h1
  intro j hj
  have h2 := List.all_eq_true.mp h1 j (List.mem_range.mpr hj)
  rw [decide_eq_true_eq, hty j hj] at h2
  exact Option.some.inj h2
theorem am_dv_len {ci N : Nat} {C : String} {T : u_T} (h : am_cl[ci]? = some (C, T, N)) : (am_dv ci).length = N := by
  unfold am_dv
  rw [h]
  simp
theorem am_dv_vR {ci : Nat} {σ ρ : Nat → Nat} : (am_dv ci).map (am_vR σ ρ) = am_dv ci := by
  unfold am_dv
  split
  · rw [List.map_map]
    apply List.map_congr_left
    intro j _
    dsimp only [Function.comp]
    split <;> rfl
  · rfl
section SND3
variable {X : am_X} {D : va_G} {tid : Nat → ClassId} {σ ρ : Nat → Nat} {A : Nat → Prop} {p : Program} {l : Launch} {e : Env} {R : Room} {s : State} {m : MethodId} {args : Array Value} {below : List Frame} {meth : Method} {c : Code} {H : Heap} {locs : List Loc} {cells slots : Nat} {Q : State → Prop} {k pc b z n : Nat} {ls : Array Slot} {L st : List Value} {h : am_H} {P : am_P}
/-- one cell more, at q -/
theorem am_KK.one (kk : am_KK D tid σ A p l e R s m args below meth c Q k b z ρ h P) (hJ : am_J D tid σ A s k ρ h H locs ls L) (hN : am_N cells slots b z h) {pc' : Nat} {st' : List Value} {c1 : va_E} (hal : am_al 1 L st' h = true) (e1 : P = (pc', L, .ref h.length :: st', h ++ [c1])) {N' : Nat} (hz : am_cz c1 = N') {e9 : va_E} (e2 : ∀ ρ', am_cR tid σ ρ' c1 = e9) {q : Nat} {H1 : Heap}
    (h1 : va_P D am_cl (am_ws tid σ ρ h ++ [(q, e9)]) H1) (h2 : va_D A (am_ws tid σ ρ h ++ [(q, e9)])) (h3 : va_S A s.heap H1 locs) : W p l e R s m args below meth c H1 locs (cells + 1) (slots + N') Q (F0 m pc' ls (.ref q :: st'.map (am_vR σ ρ))) := by
  subst e1
  obtain ⟨a1, a2, a3, a4⟩ := am_al_of hal
  let ρ' : Nat → Nat := fun a => if a = h.length then q else ρ a
  have ag : am_ag h.length (h ++ [c1]).length ρ ρ' := fun a ha => if_neg (fun z => ha ⟨by omega, by rw [List.length_append]; simp; omega⟩)
  have ew : am_ws tid σ ρ' (h ++ [c1]) = am_ws tid σ ρ h ++ [(q, e9)] := by
    rw [am_ws_app, ag.ws (Nat.le_refl _) a4]
    congr 1
    show [(ρ' (h.length + 0), am_cR tid σ ρ' c1)] = _
    rw [e2]
    show [(if h.length + 0 = h.length then q else _, e9)] = _
    rw [if_pos (by omega)]
  have er : (Value.ref h.length :: st').map (am_vR σ ρ') = .ref q :: st'.map (am_vR σ ρ) := by
    show Value.ref (am_ad σ ρ' h.length) :: st'.map (am_vR σ ρ') = _
    rw [ag.vl a3, am_ad_lt (by omega)]
    show Value.ref (if h.length = h.length then q else _) :: _ = _
    rw [if_pos rfl]
  have z1 : am_sz [c1] = N' := by rw [am_sz_eq]; simp [hz]
  have z2 := hN.2
  have z3 := hN.1
  have this := kk ρ' H1 locs ls (cells + 1) (slots + N') ag ⟨by rw [List.length_append]; simp; omega, by rw [ew]; exact h1, by rw [ew]; exact h2, h3, ag.LR a2 hJ.2.2.2.2.1, hJ.2.2.2.2.2⟩ ⟨by rw [List.length_append]; simp; omega, by rw [am_sz_app]; omega⟩
  rw [er] at this
  exact this
theorem am_snd_new {idx : Nat} (hdg : decode (am_c k) pc = .ok (.new idx, 3)) (hC : am_C X D tid σ A p R s m args meth c k) (hd : am_new (am_oc k) idx pc L st h = some P) (hJ : am_J D tid σ A s k ρ h H locs ls L) (hN : am_N cells slots b z h) (hR : P.2.2.2.length ≤ R.cells + b ∧ am_sz P.2.2.2 ≤ R.slots + z) (kk : am_KK D tid σ A p l e R s m args below meth c Q k b z ρ h P) : W p l e R s m args below meth c H locs cells slots Q (F0 m pc ls (st.map (am_vR σ ρ))) := by
  unfold am_new at hd
  split at hd
  · rename_i ci q1 q2 q3 hl
    split at hd
    · rename_i hal
      obtain ⟨⟨hx, hb, hml, hr, hown, hts, hlocks, hnm⟩, hA, hK, hX, hRf, hRl⟩ := hC
      have hk := List.all_eq_true.mp am_nt_all _ (am_lk_mem hl)
      unfold am_ntok at hk
      dsimp only at hk
      split at hk
      · rename_i C T N hcl
        simp only [Bool.and_eq_true] at hk
        obtain ⟨⟨ty0, hty⟩, hnm2⟩ := am_ty_of hcl
        have e1 := (Option.some.inj hd).symm
        subst e1
        have hsz : am_sz [(Sum.inr (ci, am_dv ci) : va_E)] = N := by rw [am_sz_eq]; simp [am_cz, am_dv_len hcl]
        have hR1 : h.length + 1 ≤ R.cells + b := by have := hR.1; simp only [List.length_append, List.length_cons, List.length_nil] at this; omega
        have hR2 : am_sz h + N ≤ R.slots + z := by have := hR.2; dsimp only at this; rw [am_sz_app, hsz] at this; exact this
        have n1 := hN.1
        have n2 := hN.2
        have hPq := hJ.2.1
        have hDq := hJ.2.2.1
        have hSq := hJ.2.2.2.1
        exact va_new hx hb hts (am_ly_of hcl).1 ty0 hty hown (hts _ (am_ck_in hk.1.1)) (hts _ (am_ck_in hk.1.2)) (hts _ (am_ck_in hk.2)) hK hPq hDq hSq hA hcl (am_dv_of hcl hty) (by omega) (by omega) hdg
          (fun q H1 h1 h2 h3 => kk.one hJ hN hal rfl (am_dv_len hcl) (fun ρ' => by show Sum.inr (ci, (am_dv ci).map _) = _; rw [am_dv_vR]) h1 h2 h3)
      · cases hk
    · cases hd
  · cases hd
theorem am_tid_eq {cA cB : ClassId} {ty : FieldType} (h1 : va_RA s cA ty) (h2 : va_RA s cB ty) : cA = cB := by
  cases ty with
  | object C =>
    obtain ⟨_, _, _, _, _, a⟩ := h1
    obtain ⟨_, _, _, _, _, b⟩ := h2
    exact Option.some.inj (a.symm.trans b)
  | _ => exact Option.some.inj (h1.symm.trans h2)
theorem am_snd_nwa {at_ : ArrayType} (hdg : decode (am_c k) pc = .ok (.newarray at_, 2)) (hC : am_C X D tid σ A p R s m args meth c k) (hd : am_nwa at_ pc L st h = some P) (hJ : am_J D tid σ A s k ρ h H locs ls L) (hN : am_N cells slots b z h) (hR : P.2.2.2.length ≤ R.cells + b ∧ am_sz P.2.2.2 ≤ R.slots + z) (kk : am_KK D tid σ A p l e R s m args below meth c Q k b z ρ h P) : W p l e R s m args below meth c H locs cells slots Q (F0 m pc ls (st.map (am_vR σ ρ))) := by
  unfold am_nwa at hd
  split at hd
  · rename_i n r
    split at hd
    · rename_i t ht
      split at hd
      · rename_i q
        obtain ⟨q1, q2, hal⟩ := q
        obtain ⟨⟨hx, hb, hml, hr, hown, hts, hlocks, hnm⟩, hA, hK, hX, hRf, hRl⟩ := hC
        have e1 := (Option.some.inj hd).symm
        subst e1
        have hsz : am_sz [(Sum.inl (t, n.toNatClampNeg, Sum.inl fun _ => 0) : va_E)] = n.toNatClampNeg := by rw [am_sz_eq]; simp [am_cz]
        have hR1 : h.length + 1 ≤ R.cells + b := by have := hR.1; simp only [List.length_append, List.length_cons, List.length_nil] at this; omega
        have hR2 : am_sz h + n.toNatClampNeg ≤ R.slots + z := by have := hR.2; dsimp only at this; rw [am_sz_app, hsz] at this; exact this
        have n1 := hN.1
        have n2 := hN.2
        have hPq := hJ.2.1
        have hDq := hJ.2.2.1
        have hSq := hJ.2.2.2.1
        have key : ∀ (ty : FieldType), newarray.typeOf at_ = ty → (am_tys tid)[t]? = some (tid t, ty) → Cond.arrayClass ty ∈ am_G → (∀ cA : ClassId, vp_cell cA (n.toNatClampNeg, .inl fun _ => 0) = arrV cA n.toNatClampNeg (fun _ => defaultValue ty)) → componentBytes ty ≤ 4 → W p l e R s m args below meth c H locs cells slots Q (F0 m pc ls (.int n :: r.map (am_vR σ ρ))) := by
          intro ty hty htt hw hcell hcb
          refine va_newa hx hb (by rw [hty]; exact hts _ hw) hty hK hPq hDq hSq hA hcell q1 rfl (Nat.le_trans (Nat.mul_le_mul q2 hcb) (by decide)) (by omega) (by omega) hdg (fun q cA H1 hK1 h1 h2 h3 => ?_)
          have hlen : (am_tys tid)[(am_tys tid).length]? = none := List.getElem?_eq_none (Nat.le_refl _)
          have e9 : cA = tid t := am_tid_eq (hK1.2 (am_tys tid).length (cA, ty) (by rw [List.getElem?_append_right (Nat.le_refl _), Nat.sub_self]; rfl)).2 (hK.2 t _ htt).2
          subst e9
          exact kk.one hJ hN hal rfl rfl (fun ρ' => rfl) h1 h2 h3
        cases at_ with
        | int => cases ht; exact key .int rfl rfl am_w_acInt (fun _ => rfl) (by decide)
        | byte => cases ht; exact key .byte rfl rfl am_w_acByte (fun _ => rfl) (by decide)
        | boolean => cases ht; exact key .boolean rfl rfl am_w_acBool (fun _ => rfl) (by decide)
        | _ => cases ht
      · cases hd
    · cases hd
  · cases hd
theorem am_snd_anw {idx : Nat} (hdg : decode (am_c k) pc = .ok (.anewarray idx, 3)) (hC : am_C X D tid σ A p R s m args meth c k) (hd : am_anw (am_oc k) idx pc L st h = some P) (hJ : am_J D tid σ A s k ρ h H locs ls L) (hN : am_N cells slots b z h) (hR : P.2.2.2.length ≤ R.cells + b ∧ am_sz P.2.2.2 ≤ R.slots + z) (kk : am_KK D tid σ A p l e R s m args below meth c Q k b z ρ h P) : W p l e R s m args below meth c H locs cells slots Q (F0 m pc ls (st.map (am_vR σ ρ))) := by
  unfold am_anw at hd
  split at hd
  · rename_i n r
    split at hd
    · rename_i t w1 w2 hl
      split at hd
      · rename_i q
        obtain ⟨q1, q2, hal⟩ := q
        obtain ⟨⟨hx, hb, hml, hr, hown, hts, hlocks, hnm⟩, hA, hK, hX, hRf, hRl⟩ := hC
        have hk := List.all_eq_true.mp am_na_all _ (am_lk_mem hl)
        simp only [am_naok, Bool.and_eq_true, Bool.or_eq_true, decide_eq_true_eq] at hk
        have e1 := (Option.some.inj hd).symm
        subst e1
        have hsz : am_sz [(Sum.inl (t, n.toNatClampNeg, Sum.inr (Sum.inr (Sum.inr (Sum.inr fun _ => none)))) : va_E)] = n.toNatClampNeg := by rw [am_sz_eq]; simp [am_cz]
        have hR1 : h.length + 1 ≤ R.cells + b := by have := hR.1; simp only [List.length_append, List.length_cons, List.length_nil] at this; omega
        have hR2 : am_sz h + n.toNatClampNeg ≤ R.slots + z := by have := hR.2; dsimp only at this; rw [am_sz_app, hsz] at this; exact this
        have n1 := hN.1
        have n2 := hN.2
        have hPq := hJ.2.1
        have hDq := hJ.2.2.1
        have hSq := hJ.2.2.2.1
        have key : ∀ (C : String), am_naC t = C → (am_tys tid)[t]? = some (tid t, .object C) → va_AO C s → W p l e R s m args below meth c H locs cells slots Q (F0 m pc ls (.int n :: r.map (am_vR σ ρ))) := by
          intro C hCe htt hao
          refine va_newq hx hb hown (hts _ (by rw [← hCe]; exact am_ck_in hk.2)) hao hK hPq hDq hSq hA q1 rfl (Nat.le_trans (Nat.mul_le_mul_right 4 q2) (by decide)) (by omega) (by omega) hdg (fun q cA H1 hK1 h1 h2 h3 => ?_)
          have e9 : cA = tid t := am_tid_eq (hK1.2 (am_tys tid).length (cA, .object C) (by rw [List.getElem?_append_right (Nat.le_refl _), Nat.sub_self]; rfl)).2 (hK.2 t _ htt).2
          subst e9
          refine kk.one hJ hN hal rfl rfl (fun ρ' => ?_) h1 h2 h3
          show Sum.inl (tid t, n.toNatClampNeg, Sum.inr (Sum.inr (Sum.inr (Sum.inr fun j => if j < n.toNatClampNeg then Option.map (am_ad σ ρ') none else none)))) = _
          congr 1
          congr 1
          congr 1
          congr 4
          funext j
          simp
        rcases hk.1 with rfl | rfl
        · exact key RX2 rfl rfl hX.2.2.2.2.2.2.2.2.2.2.1
        · exact key RX5 rfl rfl hX.2.2.2.2.2.2.2.2.2.2.2.1
      · cases hd
    · cases hd
  · cases hd
theorem am_ls_sz (hJ : am_J D tid σ A s k ρ h H locs ls L) : ls.size = am_ml k := hJ.2.2.2.2.1.1.trans hJ.2.2.2.2.2
theorem am_snd_prm {sp : Bool} {idx : Nat} (hdg : decode (am_c k) pc = .ok (if sp then .invokespecial idx else .invokestatic idx, 3)) (hC : am_C X D tid σ A p R s m args meth c k) (hd : am_prm k (am_oc k) idx sp pc L st h = some P) (hJ : am_J D tid σ A s k ρ h H locs ls L) (hN : am_N cells slots b z h) (hR : cells ≤ R.cells ∧ slots ≤ R.slots) (kk : am_KK D tid σ A p l e R s m args below meth c Q k b z ρ h P) : W p l e R s m args below meth c H locs cells slots Q (F0 m pc ls (st.map (am_vR σ ρ))) := by
  obtain ⟨⟨hx, hb, hml, hr, hown, hts, hlocks, hnm⟩, hA, hK, hX, hRf, hRl⟩ := hC
  have hls := am_ls_sz hJ
  unfold am_prm at hd
  split at hd
  · rename_i q hl
    have hw := hts _ (am_ck_in (List.all_eq_true.mp am_pt_all _ (am_lk_mem hl)))
    split at hd
    · rename_i hsp
      subst hsp
      unfold am_obj at hd
      split at hd
      · split at hd
        · rename_i x r w
          exact W.objInit hx hb hown hw (hts _ am_w_objInst) (hts _ am_w_objCode) rfl (by rw [hml]; exact hls) rfl hdg (by rw [hRf]; exact w.1) (by
            have h1 := lv_room (m := m) (pc := pc) (ls := ls) (rest := Value.ref (am_ad σ ρ x) :: r.map (am_vR σ ρ)) (st := []) (by decide)
            rw [am_cat_map, hRl]
            have h2 : (([] : List Value).map fun v => v.category).sum = 0 := rfl
            have : 2 * (F0 m pc ls (Value.ref (am_ad σ ρ x) :: r.map (am_vR σ ρ))).monitorRoom = 0 := rfl
            have w2 := w.2.1
            show 2 * (F0 m pc ls (Value.ref (am_ad σ ρ x) :: r.map (am_vR σ ρ))).monitorRoom + am_cat r + 12 ≤ am_lc k
            omega) (kk.sta hJ hN (Option.some.inj hd).symm)
        · cases hd
      · cases hd
    · cases hd
  · rename_i q hl
    have hw := hts _ (am_ck_in (List.all_eq_true.mp am_pt_all _ (am_lk_mem hl)))
    split at hd
    · rename_i hsp
      subst hsp
      unfold am_mmx at hd
      split at hd
      · split at hd
        · rename_i y x r w
          exact va_mmax hx hb (by rw [hml]; exact hls.symm) hown hw (hts _ am_w_maxStat) (hts _ am_w_maxInit) (hts _ am_w_maxCode) (by rw [hRf]; exact w.1) (by rw [am_cat_map, hRl]; exact w.2.1) hR.1 hR.2 hdg (kk.sta hJ hN (Option.some.inj hd).symm)
        · cases hd
      · cases hd
    · cases hd
  · rename_i q hl
    have hw := hts _ (am_ck_in (List.all_eq_true.mp am_pt_all _ (am_lk_mem hl)))
    split at hd
    · rename_i hsp
      subst hsp
      unfold am_cpy at hd
      split at hd
      · split at hd
        · rename_i n dp a sp0 b0 r o1 o2 t0 n0 f t1 n1 g hb0 ha0
          split at hd
          · rename_i w
            obtain ⟨rfl, rfl, w1, w2, w3, w4, w5, w6, w7, w8⟩ := w
            have kk' := kk.cell hJ hN ha0 (Option.some.inj hd).symm rfl rfl
            have hl1 := hJ.1
            show W p l e R s m args below meth c H locs cells slots Q (F0 m pc ls (.int n :: .int dp :: .ref (am_ad σ ρ a) :: .int sp0 :: .ref (am_ad σ ρ b0) :: r.map (am_vR σ ρ)))
            rw [am_at_lt hl1 hb0, am_at_lt hl1 ha0]
            exact va_copyi hx hb (by rw [hml]; exact hls.symm) hown hw (hts _ am_w_cpNat) (hts _ am_w_cpStat) (hts _ am_w_cpInit) hK hJ.2.1 hJ.2.2.1 hJ.2.2.2.1 b0 a 0 0 (ty := .int) (am_ws_at hb0) (am_ws_at ha0) rfl rfl rfl w1 w2 w3 w4 w5 (fun _ _ => rfl) (by rw [hRf]; exact w6) (by rw [am_cat_map, hRl]; exact w7) hdg kk'
          · cases hd
        · cases hd
      · cases hd
    · cases hd
  · cases hd
end SND3
