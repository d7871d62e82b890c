/-! rows of rows, and one instruction whole -/
section SND4
variable {X : am_X} {D : va_G} {tid : Nat → ClassId} {σ ρ : Nat → Nat} {A : Nat → Prop} {p : Program} {l : Launch} {e : Env} {R : Room} {s : State} {m : MethodId} {args : Array Value} {below : List Frame} {meth : Method} {c : Code} {H : Heap} {locs : List Loc} {cells slots : Nat} {Q : State → Prop} {k pc b z n : Nat} {ls : Array Slot} {L st : List Value} {h : am_H} {P : am_P}
theorem am_snd_mnw {idx d : Nat} (hdg : decode (am_c k) pc = .ok (.multianewarray idx d, 4)) (hC : am_C X D tid σ A p R s m args meth c k) (hd : am_mnw (am_oc k) idx d pc L st h = some P) (hJ : am_J D tid σ A s k ρ h H locs ls L) (hN : am_N cells slots b z h) (hR : P.2.2.2.length ≤ R.cells + b ∧ am_sz P.2.2.2 ≤ R.slots + z) (kk : am_KK D tid σ A p l e R s m args below meth c Q k b z ρ h P) : W p l e R s m args below meth c H locs cells slots Q (F0 m pc ls (st.map (am_vR σ ρ))) := by
  unfold am_mnw at hd
  split at hd
  · rename_i m' n' r
    split at hd
    · rename_i q
      obtain ⟨ho, rfl, rfl, q1, q2, q3, q4, hal⟩ := q
      obtain ⟨⟨hx, hb, hml, hr, hown, hts, hlocks, hnm⟩, hA, hK, hX, hRf, hRl⟩ := hC
      rw [ho] at hown
      obtain ⟨a1, a2, a3, a4⟩ := am_al_of hal
      have e1 := (Option.some.inj hd).symm
      subst e1
      generalize hNe : n'.toNatClampNeg = N at *
      generalize hMe : m'.toNatClampNeg = M at *
      have hlen : (h ++ (Sum.inl (5, N, Sum.inr (Sum.inr (Sum.inr (Sum.inr fun i => if i < N then some (h.length + 1 + i) else none)))) :: List.replicate N (Sum.inl (0, M, Sum.inl fun _ => 0)) : List va_E)).length = h.length + (1 + N) := by simp; omega
      have hsz1 : am_sz (Sum.inl (5, N, Sum.inr (Sum.inr (Sum.inr (Sum.inr fun i => if i < N then some (h.length + 1 + i) else none)))) :: List.replicate N (Sum.inl (0, M, Sum.inl fun _ => 0)) : List va_E) = N + N * M := by
        rw [am_sz_eq]; simp [am_cz]
      have hR1 : h.length + (1 + N) ≤ R.cells + b := by have := hR.1; dsimp only at this; rw [hlen] at this; exact this
      have hR2 : am_sz h + (N + N * M) ≤ R.slots + z := by have := hR.2; dsimp only at this; rw [am_sz_app, hsz1] at this; exact this
      have n1 := hN.1
      have n2 := hN.2
      have hPq := hJ.2.1
      have hDq := hJ.2.2.1
      have hSq := hJ.2.2.2.1
      have hpl : ∀ g : Nat → va_E, am_ws tid σ ρ h ++ va_pl [] g = am_ws tid σ ρ h := fun g => List.append_nil _
      refine va_mna (X := am_ws tid σ ρ h) (L := []) (f := fun _ => .inr (0, [])) (ty := .int) (cy := tid 0) (z := (M, .inl fun _ => 0)) hx hb hown (hts _ am_w_mnaLink) hX.2.2.2.2.2.2.2.2.2.2.2.2 (hts _ am_w_acInt) (hK.2 0 _ rfl).2 hK (by rw [hpl]; exact hPq) (by rw [hpl]; exact hDq) hSq hA q1 q2 hNe hMe (by omega) (by show M * 4 ≤ _; omega) (by omega) rfl rfl (by omega) (by omega) ?_ hdg (fun q rr cA H1 hinj hnl hK1 h1 h2 h3 => ?_)
      · intro cA
        rw [vp_cell_i]
        exact arrV_new (cI := cA) (N := M) (x := .int 0)
      · have e9 : cA = tid 5 := am_tid_eq (hK1.2 (am_tys tid).length (cA, .array .int) (by rw [List.getElem?_append_right (Nat.le_refl _), Nat.sub_self]; rfl)).2 (hK.2 5 _ rfl).2
        subst e9
        let ρ' : Nat → Nat := fun a => if a = h.length then q else if h.length < a ∧ a < h.length + 1 + N then rr (a - (h.length + 1)) else ρ a
        have r0 : ρ' h.length = q := if_pos rfl
        have r1 : ∀ i, i < N → ρ' (h.length + 1 + i) = rr i := fun i hi => by
          show (if h.length + 1 + i = h.length then q else if h.length < h.length + 1 + i ∧ h.length + 1 + i < h.length + 1 + N then rr (h.length + 1 + i - (h.length + 1)) else ρ (h.length + 1 + i)) = rr i
          rw [if_neg (by omega), if_pos (by omega), Nat.add_sub_cancel_left]
        have ag : am_ag h.length (h ++ (Sum.inl (5, N, Sum.inr (Sum.inr (Sum.inr (Sum.inr fun i => if i < N then some (h.length + 1 + i) else none)))) :: List.replicate N (Sum.inl (0, M, Sum.inl fun _ => 0)) : List va_E)).length ρ ρ' := fun a ha => by
          rw [hlen] at ha
          show (if a = h.length then q else if h.length < a ∧ a < h.length + 1 + N then rr (a - (h.length + 1)) else ρ a) = ρ a
          rw [if_neg (by omega), if_neg (by omega)]
        have ew : am_ws tid σ ρ' (h ++ (Sum.inl (5, N, Sum.inr (Sum.inr (Sum.inr (Sum.inr fun i => if i < N then some (h.length + 1 + i) else none)))) :: List.replicate N (Sum.inl (0, M, Sum.inl fun _ => 0)) : List va_E)) = (am_ws tid σ ρ h ++ [(q, .inl (tid 5, N, .inr (.inr (.inr (.inr (fun i => if i < N then some (rr i) else none))))))]) ++ va_pl ([] ++ (List.range N).map rr) (vr_up (fun _ => .inr (0, [])) ((List.range N).map rr) (.inl (tid 0, (M, .inl fun _ => 0)))) := by
          rw [am_ws_app, ag.ws (Nat.le_refl _) a4, List.append_assoc]
          congr 1
          rw [List.mapIdx_cons]
          show (ρ' (h.length + 0), _) :: _ = _ :: _
          have ec : am_cR tid σ ρ' (Sum.inl (5, N, Sum.inr (Sum.inr (Sum.inr (Sum.inr fun i => if i < N then some (h.length + 1 + i) else none)))) : va_E) = .inl (tid 5, N, .inr (.inr (.inr (.inr (fun i => if i < N then some (rr i) else none))))) := by
            show Sum.inl (tid 5, N, Sum.inr (Sum.inr (Sum.inr (Sum.inr fun j => if j < N then Option.map (am_ad σ ρ') (if j < N then some (h.length + 1 + j) else none) else none)))) = _
            have : (fun j => if j < N then Option.map (am_ad σ ρ') (if j < N then some (h.length + 1 + j) else none) else none) = (fun i => if i < N then some (rr i) else none) := by
              funext j
              by_cases hj : j < N
              · rw [if_pos hj, if_pos hj, if_pos hj]
                show some (am_ad σ ρ' (h.length + 1 + j)) = some (rr j)
                rw [am_ad_lt (by omega), r1 j hj]
              · rw [if_neg hj, if_neg hj]
            rw [this]
          rw [ec, show ρ' (h.length + 0) = q from r0]
          congr 1
          apply List.ext_getElem?
          intro i
          rw [List.getElem?_mapIdx]
          unfold va_pl
          rw [List.nil_append, List.map_map]
          show _ = (List.map ((fun a => (a, vr_up (fun x => Sum.inr (0, [])) (List.map rr (List.range N)) (Sum.inl (tid 0, M, Sum.inl fun x => 0)) a)) ∘ rr) (List.range N))[i]?
          rw [List.getElem?_map]
          by_cases hi : i < N
          · rw [List.getElem?_replicate, if_pos hi, List.getElem?_range hi]
            show some (ρ' (h.length + (i + 1)), _) = some (rr i, vr_up _ _ _ (rr i))
            rw [vr_up_in (List.mem_map.mpr ⟨i, List.mem_range.mpr hi, rfl⟩), show h.length + (i + 1) = h.length + 1 + i by omega, r1 i hi]
            rfl
          · rw [List.getElem?_replicate, if_neg hi, List.getElem?_eq_none (by rw [List.length_range]; omega)]
            rfl
        have er : (Value.ref h.length :: r).map (am_vR σ ρ') = .ref q :: r.map (am_vR σ ρ) := by
          show Value.ref (am_ad σ ρ' h.length) :: r.map (am_vR σ ρ') = _
          rw [ag.vl a3, am_ad_lt (by omega), r0]
        have this := kk ρ' H1 locs ls (cells + 1 + N) (slots + N + N * M) ag ⟨by show List.length _ ≤ 1000; rw [hlen]; omega, by show va_P _ _ (am_ws tid σ ρ' (h ++ _)) _; rw [ew]; exact h1, by show va_D _ (am_ws tid σ ρ' (h ++ _)); rw [ew]; exact h2, h3, ag.LR a2 hJ.2.2.2.2.1, hJ.2.2.2.2.2⟩ ⟨by show _ = List.length _; rw [hlen]; omega, by show _ = am_sz (h ++ _); rw [am_sz_app, hsz1]; omega⟩
        rw [er] at this
        exact this
    · cases hd
  · cases hd
/-- one instruction -/
theorem am_snd {i : Instr} (hC : am_C X D tid σ A p R s m args meth c k) (hi : am_ins k pc = some (i, n)) (hd : am_do X k pc i n L st h = some P) (hJ : am_J D tid σ A s k ρ h H locs ls L) (hN : am_N cells slots b z h) (hR : P.2.2.2.length ≤ R.cells + b ∧ am_sz P.2.2.2 ≤ R.slots + z) (hR0 : cells ≤ R.cells ∧ slots ≤ R.slots) (kk : am_KK D tid σ A p l e R s m args below meth c Q k b z ρ h P) : W p l e R s m args below meth c H locs cells slots Q (F0 m pc ls (st.map (am_vR σ ρ))) := by
  refine am_snd1 hC hi hd hJ hN kk (fun hh => ?_)
  have hdg := am_ins_ok hi
  cases i with
  | iaload => obtain ⟨rfl, hd⟩ := am_n_of hd; exact am_snd_ald (Or.inl ⟨rfl, rfl, hdg⟩) hC hd hJ hN kk
  | baload => obtain ⟨rfl, hd⟩ := am_n_of hd; exact am_snd_ald (Or.inr ⟨rfl, rfl, hdg⟩) hC hd hJ hN kk
  | aaload => obtain ⟨rfl, hd⟩ := am_n_of hd; exact am_snd_aal hdg hC hd hJ hN kk
  | iastore => obtain ⟨rfl, hd⟩ := am_n_of hd; exact am_snd_ist hdg hC hd hJ hN kk
  | bastore => obtain ⟨rfl, hd⟩ := am_n_of hd; exact am_snd_bst hdg hC hd hJ hN kk
  | aastore => obtain ⟨rfl, hd⟩ := am_n_of hd; exact am_snd_aas hdg hC hd hJ hN kk
  | arraylength => obtain ⟨rfl, hd⟩ := am_n_of hd; exact am_snd_len hdg hC hd hJ hN kk
  | getfield j => obtain ⟨rfl, hd⟩ := am_n_of hd; exact am_snd_gfd hdg hC hd hJ hN kk
  | putfield j => obtain ⟨rfl, hd⟩ := am_n_of hd; exact am_snd_pfd hdg hC hd hJ hN kk
  | getstatic j => obtain ⟨rfl, hd⟩ := am_n_of hd; exact am_snd_gst hdg hC hd hJ hN kk
  | new j => obtain ⟨rfl, hd⟩ := am_n_of hd; exact am_snd_new hdg hC hd hJ hN hR kk
  | newarray a => obtain ⟨rfl, hd⟩ := am_n_of hd; exact am_snd_nwa hdg hC hd hJ hN hR kk
  | anewarray j => obtain ⟨rfl, hd⟩ := am_n_of hd; exact am_snd_anw hdg hC hd hJ hN hR kk
  | multianewarray j d => obtain ⟨rfl, hd⟩ := am_n_of hd; exact am_snd_mnw hdg hC hd hJ hN hR kk
  | invokespecial j => obtain ⟨rfl, hd⟩ := am_n_of hd; exact am_snd_prm (sp := true) hdg hC hd hJ hN hR0 kk
  | invokestatic j => obtain ⟨rfl, hd⟩ := am_n_of hd; exact am_snd_prm (sp := false) hdg hC hd hJ hN hR0 kk
  | ldc j => obtain ⟨rfl, hd⟩ := am_n_of hd; exact am_snd_ldc hC (Or.inl ⟨rfl, hdg⟩) hd hJ hN kk
  | ldc_w j => obtain ⟨rfl, hd⟩ := am_n_of hd; exact am_snd_ldc hC (Or.inr ⟨rfl, hdg⟩) hd hJ hN kk
  | _ => cases hh
end SND4
