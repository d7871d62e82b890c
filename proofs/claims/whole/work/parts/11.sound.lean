/-! THE MACHINE OF NUMBERS IS SOUND -/
theorem am_cl1_of {k o idx : Nat} {kd : Nat → Bool} {st : List Value} {h : am_H} {j : Nat} {as r : List Value} (hc : am_cl1 k o idx kd st h = some (j, as, r)) :
    ∃ kind na p1 p2 p3 p4, am_lk am_ct o idx = some (kind, j, na, p1, p2, p3, p4) ∧ kd kind = true ∧ am_cat r ≤ 8 ∧ am_fr j + 1 ≤ am_fr k ∧ 8 + (am_ml j + 11) + am_lc j ≤ am_lc k ∧
      (((kind = 1 ∨ kind = 4) ∧ na ≤ st.length ∧ as = (st.take na).reverse ∧ r = st.drop na) ∨ (¬ (kind = 1 ∨ kind = 4) ∧ ∃ b, st[na]? = some (.ref b) ∧ (kind = 0 → am_rcv h (am_oc j) (some (.ref b)) = true) ∧ as = .ref b :: (st.take na).reverse ∧ r = st.drop (na + 1) ∧ na < st.length)) := by
  unfold am_cl1 at hc
  split at hc
  · rename_i kind j' na rr hl
    obtain ⟨p1, p2, p3, p4⟩ := rr
    dsimp only at hc
    by_cases hk : kind = 1 ∨ kind = 4
    · rw [if_pos hk, Nat.add_zero] at hc
      split at hc
      · rename_i q
        obtain ⟨q1, q2, q3, q4, q5, q6, q7⟩ := q
        have e := Option.some.inj hc
        have e1 : j' = j := congrArg Prod.fst e
        have e2 := congrArg (fun z => z.2.1) e
        have e3 := congrArg (fun z => z.2.2) e
        dsimp only at e2 e3
        subst e1
        exact ⟨kind, na, p1, p2, p3, p4, hl, q1, by rw [← e3]; exact q3, q4, q5, Or.inl ⟨hk, q2, e2.symm, e3.symm⟩⟩
      · cases hc
    · rw [if_neg hk] at hc
      split at hc
      · rename_i q
        obtain ⟨q1, q2, q3, q4, q5, q6, q7⟩ := q
        have e := Option.some.inj hc
        have e1 : j' = j := congrArg Prod.fst e
        have e2 := congrArg (fun z => z.2.1) e
        have e3 := congrArg (fun z => z.2.2) e
        dsimp only at e2 e3
        subst e1
        have hlt : na < st.length := by omega
        obtain ⟨b, hb⟩ : ∃ b, st[na]? = some (.ref b) := by
          have h9 := List.getElem?_eq_getElem hlt
          by_cases k0 : kind = 0
          · have := q6 k0
            rw [h9] at this
            cases hv : st[na] with
            | ref b => exact ⟨b, by rw [h9, hv]⟩
            | _ => rw [hv] at this; cases this
          · have k9 := am_ct_ok (am_lk_mem hl)
            have hkk : kind = 2 ∨ kind = 3 := by
              unfold am_ctok at k9
              dsimp only at k9
              rw [Bool.and_eq_true] at k9
              have k10 := k9.2
              split at k10
              · exact absurd rfl k0
              · exact absurd (Or.inl rfl) hk
              · exact Or.inl rfl
              · exact Or.inr rfl
              · exact absurd (Or.inr rfl) hk
              · cases k10
            have := q7 hkk
            rw [h9] at this
            cases hv : st[na] with
            | ref b => exact ⟨b, by rw [h9, hv]⟩
            | _ => rw [hv] at this; cases this
        refine ⟨kind, na, p1, p2, p3, p4, hl, q1, by rw [← e3]; exact q3, q4, q5, Or.inr ⟨hk, b, hb, fun k0 => by rw [← hb]; exact q6 k0, ?_, e3.symm, hlt⟩⟩
        rw [← e2, List.take_add_one, hb]
        simp
      · cases hc
  · cases hc
section SOUND
variable {X : am_X} {D : va_G} {tid : Nat → ClassId} {σ ρ : Nat → Nat} {A : Nat → Prop} {p : Program} {l : Launch} {e : Env} {R : Room} {s : State} {m : MethodId} {args : Array Value} {below : List Frame} {meth : Method} {c : Code} {H : Heap} {locs : List Loc} {cells slots : Nat} {Q : State → Prop} {k pc b z n : Nat} {ls : Array Slot} {L st : List Value} {h h1 : am_H} {o : Option Value}
theorem am_sub (hD : va_D A (am_ws tid σ ρ h)) (hS : va_S A s.heap H locs) (hA : ∀ q, s.heap.size ≤ q → A q) : ∀ q, va_A (am_ws tid σ ρ h) H.size q → A q := by
  intro q hq
  rcases hq with ⟨i, ee, hi⟩ | hq
  · exact hD.2 i _ hi
  · exact hA q (Nat.le_trans hS.1 hq)
theorem am_callg {mc ms : Nat} {st0 rest : List Value} {a : Array Value} (hr : va_Run p l e R s m args below meth c H locs cells slots mc ms (F0 m pc ls st0) rest (am_QQ D tid σ ρ h h1 o H.size a) (va_A (am_ws tid σ ρ h) H.size)) (hS : va_S A s.heap H locs) (hD : va_D A (am_ws tid σ ρ h)) (hA : ∀ q, s.heap.size ≤ q → A q)
    (kk : ∀ (ρ' : Nat → Nat) (H1 : Heap) (locs1 : List Loc), am_ag h.length h1.length ρ ρ' → h1.length ≤ 1000 → va_P D am_cl (am_ws tid σ ρ' h1) H1 → va_D A (am_ws tid σ ρ' h1) → va_S A s.heap H1 locs1 → W p l e R s m args below meth c H1 locs1 (cells + mc) (slots + ms) Q (F0 m (pc + 3) ls ((o.map (am_vR σ ρ')).toList ++ rest))) : W p l e R s m args below meth c H locs cells slots Q (F0 m pc ls st0) := by
  intro T hT X
  have hsub := am_sub hD hS hA
  obtain ⟨v, st₀, t, T', L, h0, X', hL, e1, e2, ⟨ρ', hv, hag, h1000, hP1, hD1, hz, hk⟩, st⟩ := hr T hT X
  cases hv
  rw [h0] at hz hk
  obtain ⟨t2, a1, b1⟩ := kk ρ' T'.heap (locs ++ L) hag h1000 (by rw [e1]; exact hP1) (hD1.weaken (fun _ q _ h => hsub q.1 h))
    ⟨Nat.le_trans hS.1 (by rw [e1]; exact hz), fun q h1 h2 => by rw [e1, hk q (Nat.lt_of_lt_of_le h1 hS.1) (fun z => h2 (hsub q z))]; exact hS.2.1 q h1 h2, fun q hq => by
      rcases List.mem_append.mp hq with h | h
      · exact hS.2.2 q h
      · exact hsub _ (hL q h)⟩ T' rfl X'
  exact ⟨t2, st t2 a1, b1⟩
theorem am_blind {as : List Value} {sz : Nat} : FrameBlind (va_Pc as (am_PP X D tid σ ρ h sz)) := by
  intro a U g mk q
  obtain ⟨q0, q1, q2, q3, q4, q5, q6⟩ := q
  exact ⟨q0, q1, q2, q3, va_K.moved (u := U) (U := U.calling g mk a) (Vm.Alike.refl U.vm) q4, q5, q6.same rfl rfl⟩
theorem am_preS {as : List Value} (hC : am_C X D tid σ A p R s m args meth c k) (hJ : am_J D tid σ A s k ρ h H locs ls L) : PreS s H (va_Pc as (am_PP X D tid σ ρ h H.size)) as := by
  obtain ⟨-, hA, hK, hX, -, -⟩ := hC
  obtain ⟨hl, hP, hD, hS, -, -⟩ := hJ
  refine ⟨am_blind, fun U hU hW => ⟨rfl, by rw [hU], hl, by rw [hU]; exact hP, va_K.moved hW.alike hK, hD.weaken (fun _ _ _ _ => trivial), hX.go hW (by rw [hU]; exact hS.1) (fun a h1 h2 => by rw [hU]; exact hS.2.1 a h1 h2) (am_sub hD hS hA)⟩⟩
theorem am_good {j : Nat} {ws : List Cond} (hj : j < 233) (hw : ∀ w ∈ ws, w ∈ am_G) : GoodIn am_G (ws ++ am_w j) := by
  intro w h
  have : w ∈ am_G := by
    rcases List.mem_append.mp h with h | h
    · exact hw w h
    · rcases List.mem_cons.mp h with h | h
      · rw [h]; exact (am_mk_of hj).1
      · exact h
  exact ⟨this, good_of_word (am_G_good w this)⟩
theorem am_runc {f : Nat} (IH : am_OK X D tid σ l f) (hC : am_C X D tid σ A p R s m args meth c k) (hJ : am_J D tid σ A s k ρ h H locs ls L) {j : Nat} {as r : List Value} (hc : am_call k pc st h = some (j, as, r)) (hf : am_fit j as = true) (hx : am_ex X f j 0 (am_ent j as) [] h = some (o, h1)) (hroom : cells + (h1.length - h.length) ≤ R.cells ∧ slots + (am_sz h1 - am_sz h) ≤ R.slots) :
    ∃ a, va_Run p l e R s m args below meth c H locs cells slots (h1.length - h.length) (am_sz h1 - am_sz h) (F0 m pc ls (st.map (am_vR σ ρ))) (r.map (am_vR σ ρ)) (am_QQ D tid σ ρ h h1 o H.size a) (va_A (am_ws tid σ ρ h) H.size) := by
  have hCq := hC
  have hJq := hJ
  have hls := am_ls_sz hJ
  obtain ⟨⟨hx0, hb, hml, hr, hown, hts, hlocks, hnm⟩, hA, hK, hX, hRf, hRl⟩ := hC
  have key : ∀ {idx : Nat} {kd : Nat → Bool}, am_cl1 k (am_oc k) idx kd st h = some (j, as, r) → (∀ kind, kd kind = true → decode (am_c k) pc = .ok (if kind = 0 then .invokevirtual idx else if kind = 1 ∨ kind = 4 then .invokestatic idx else .invokespecial idx, 3)) → ∃ a, va_Run p l e R s m args below meth c H locs cells slots (h1.length - h.length) (am_sz h1 - am_sz h) (F0 m pc ls (st.map (am_vR σ ρ))) (r.map (am_vR σ ρ)) (am_QQ D tid σ ρ h h1 o H.size a) (va_A (am_ws tid σ ρ h) H.size) := by
    intro idx kd hcl hdec
    obtain ⟨kind, na, p1, p2, p3, p4, hl, hkd, hcat, hfr, hlc, hsh⟩ := am_cl1_of hcl
    have hdg := hdec kind hkd
    have hW : 2 * (F0 m pc ls (st.map (am_vR σ ρ))).monitorRoom + ((r.map (am_vR σ ρ)).map fun v => v.category).sum ≤ 8 := lv_room (by rw [am_cat_map]; exact hcat)
    have hok := am_ct_ok (am_lk_mem hl)
    unfold am_ctok at hok
    simp only [Bool.and_eq_true, decide_eq_true_eq] at hok
    obtain ⟨⟨⟨hj, hna⟩, hini⟩, hkind⟩ := hok
    have hini := am_ck_in hini
    have hmet := am_met (o := o) (h1 := h1) IH hj hf hx ρ H.size
    obtain ⟨k1, k2, k3, k4, k5, k6⟩ := am_mk_of hj
    have hR : (am_rm j (h1.length - h.length) (am_sz h1 - am_sz h)).frames + 1 ≤ R.frames ∧ 8 + (am_ml j + 11) + (am_rm j (h1.length - h.length) (am_sz h1 - am_sz h)).locals ≤ R.locals := by rw [hRf, hRl]; exact ⟨hfr, hlc⟩
    have hG := am_good (ws := []) hj (fun _ h => by cases h)
    rcases hsh with ⟨hk14, hnl, eas, er⟩ | ⟨hk14, b0, hst, hrcv, eas, er, hnl⟩
    · have hst2 : (F0 m pc ls (st.map (am_vR σ ρ))).stack = (as.map (am_vR σ ρ)).reverse ++ r.map (am_vR σ ρ) := by
        show st.map (am_vR σ ρ) = _
        rw [eas, er, ← List.map_reverse, List.reverse_reverse, ← List.map_append, List.take_append_drop]
      have hlen : (as.map (am_vR σ ρ)).length = na := by rw [eas, List.length_map, List.length_reverse, List.length_take]; omega
      rcases hk14 with rfl | rfl
      · simp only [Bool.and_eq_true] at hkind
        rw [if_neg (by decide), if_pos (Or.inl rfl)] at hdg
        refine ⟨_, va_runS (Ts := am_G) ⟨hx0, hb, hml, hown, hts⟩ hmet (va_cwS na hts (am_good (ws := [.methodLink (am_R (am_oc k)) idx (am_y j), .static (am_y j), .initialized (am_y j).cls]) hj ?_) rfl rfl rfl ⟨k4, k5, by rw [hna]; exact k6⟩ hR) (am_preS hCq hJq) rfl hlen hls hst2 hW hdg hroom⟩
        intro w hw
        simp only [List.mem_cons, List.not_mem_nil, or_false] at hw
        rcases hw with rfl | rfl | rfl
        · exact am_ck_in hkind.1
        · exact am_ck_in hkind.2
        · exact hini
      · simp only [Bool.and_eq_true] at hkind
        rw [if_neg (by decide), if_pos (Or.inr rfl)] at hdg
        have hz9 := hX.2.2.2.2.2.2.2.1 ((am_oc k, idx), (4, j, na, p1, p2, p3, p4)) (am_lk_mem hl) (Or.inr rfl)
        dsimp only at hz9
        exact ⟨_, va_runSN (Ts := am_G) ⟨hx0, hb, hml, hown, hts⟩ hmet ⟨va_cnB na hts hG rfl rfl rfl hz9 (hts _ hini) ⟨k4, k5, by rw [hna]; exact k6⟩ hR, hts _ (am_ck_in hkind.2), trivial⟩ (am_preS hCq hJq) rfl hlen hls hst2 hW hdg hroom⟩
    · have hst2 : (F0 m pc ls (st.map (am_vR σ ρ))).stack = (((st.take na).reverse).map (am_vR σ ρ)).reverse ++ .ref (am_ad σ ρ b0) :: r.map (am_vR σ ρ) := by
        show st.map (am_vR σ ρ) = _
        rw [er, ← List.map_reverse, List.reverse_reverse]
        conv => lhs; rw [← List.take_append_drop na st]
        rw [List.map_append]
        congr 1
        have hd9 : st.drop na = .ref b0 :: st.drop (na + 1) := by
          rw [List.drop_eq_getElem_cons hnl]
          have h9 := List.getElem?_eq_getElem hnl
          rw [hst] at h9
          rw [← Option.some.inj h9]
        rw [hd9]
        rfl
      have hlen : (((st.take na).reverse).map (am_vR σ ρ)).length = na := by rw [List.length_map, List.length_reverse, List.length_take]; omega
      have eas2 : as.map (am_vR σ ρ) = .ref (am_ad σ ρ b0) :: ((st.take na).reverse).map (am_vR σ ρ) := by rw [eas]; rfl
      rw [eas2] at hmet
      have hpS := am_preS (as := .ref (am_ad σ ρ b0) :: ((st.take na).reverse).map (am_vR σ ρ)) hCq hJq
      split at hkind
      · simp only [Bool.and_eq_true] at hkind
        rw [if_pos rfl] at hdg
        refine ⟨_, va_runV (Ts := am_G) (C := (am_y j).cls) ⟨hx0, hb, hml, hown, hts⟩ hmet (cwV na hts (am_good (ws := [.methodLink (am_R (am_oc k)) idx (am_y j), .instanceMethod (am_y j), .selects (am_y j).cls (am_y j) (am_y j), .initialized (am_y j).cls]) hj ?_) rfl rfl rfl ⟨rfl, k4, k5, by rw [hna]; exact k6⟩ hR) ⟨hpS.1, ?_, hpS.2⟩ rfl hlen hls hst2 hW hdg hroom⟩
        · intro w hw
          simp only [List.mem_cons, List.not_mem_nil, or_false] at hw
          rcases hw with rfl | rfl | rfl | rfl
          · exact am_ck_in hkind.1.1
          · exact am_ck_in hkind.1.2
          · exact am_ck_in hkind.2
          · exact hini
        · have hr9 := hrcv rfl
          unfold am_rcv at hr9
          dsimp only at hr9
          split at hr9
          · rename_i ci fs hcell
            have hci : ci = am_oc j := of_decide_eq_true hr9
            rw [am_at_lt hJq.1 hcell]
            have hw9 := am_ws_at (tid := tid) (σ := σ) (ρ := ρ) hcell
            have hv9 := hJq.2.1 b0 _ hw9
            obtain ⟨rr, hrr, -⟩ := hv9
            obtain ⟨C9, T9, N9⟩ := rr
            have hcl9 : am_cl[ci]? = some (C9, T9, N9) := hrr
            have e9 : C9 = (am_y j).cls := by
              rw [k3, ← hci]
              have hN9 : 0 < N9 := by
                have hl9 : ci < 10 := (List.getElem?_eq_some_iff.mp hcl9).1
                match ci, hl9, hcl9 with
                | 0, _, h => cases h; decide
                | 1, _, h => cases h; decide
                | 2, _, h => cases h; decide
                | 3, _, h => cases h; decide
                | 4, _, h => cases h; decide
                | 5, _, h => cases h; decide
                | 6, _, h => cases h; decide
                | 7, _, h => cases h; decide
                | 8, _, h => cases h; decide
                | 9, _, h => cases h; decide
              exact (am_ly_of hcl9).2.2 hN9
            have h99 := va_recv hK hJq.2.1 hcl9 hw9
            rw [← e9]
            exact h99
          · cases hr9
          · simp only [Bool.and_eq_true, decide_eq_true_eq] at hr9
            obtain ⟨⟨⟨ho, hge⟩, hlt9⟩, -⟩ := hr9
            have hge : @LE.le Nat _ 1000 b0 := hge
            have hlt9 : @LT.lt Nat _ b0 1013 := hlt9
            obtain ⟨i9, hi9⟩ : ∃ i9 : Nat, @Eq Nat b0 (1000 + i9) := ⟨@HSub.hSub Nat Nat Nat _ b0 1000, by omega⟩
            rw [am_ad_ge hge, k3, ho, hi9]
            exact vk_recv (i := i9) hX.2.1 (by omega) hJq.2.2.2.1
      · exact absurd (Or.inl rfl) hk14
      · simp only [Bool.and_eq_true, decide_eq_true_eq] at hkind
        rw [if_neg (by decide), if_neg (by decide)] at hdg
        have hrt : am_rt j = none := hkind.2
        rw [show am_w j = Cond.code (am_y j) (am_c j) (am_ml j) none :: am_G by unfold am_w; rw [hrt]] at hmet
        exact ⟨_, va_runI (Ts := am_G) ⟨hx0, hb, hml, hown, hts⟩ hmet (cwI na hts (by rw [show Cond.code (am_y j) (am_c j) (am_ml j) none :: am_G = am_w j by unfold am_w; rw [hrt]]; exact hG) rfl rfl rfl (hts _ hini) (hts _ (am_ck_in hkind.1.1.1)) (hts _ (am_ck_in hkind.1.1.2)) hkind.1.2 ⟨k4, k5, by rw [hna]; exact k6⟩ hR) hpS rfl hlen hls hst2 hW hdg hroom⟩
      · simp only [Bool.and_eq_true, decide_eq_true_eq] at hkind
        rw [if_neg (by decide), if_neg (by decide)] at hdg
        have hrt : am_rt j = none := hkind.2
        rw [show am_w j = Cond.code (am_y j) (am_c j) (am_ml j) none :: am_G by unfold am_w; rw [hrt]] at hmet
        have hz9 := hX.2.2.2.2.2.2.2.1 ((am_oc k, idx), (3, j, na, p1, p2, p3, p4)) (am_lk_mem hl) (Or.inl rfl)
        dsimp only at hz9
        exact ⟨_, va_runIN (Ts := am_G) ⟨hx0, hb, hml, hown, hts⟩ hmet ⟨va_cnB na hts (by rw [show Cond.code (am_y j) (am_c j) (am_ml j) none :: am_G = am_w j by unfold am_w; rw [hrt]]; exact hG) rfl rfl rfl hz9 (hts _ hini) ⟨k4, k5, by rw [hna]; exact k6⟩ hR, hkind.1.2, hts _ (am_ck_in hkind.1.1.2)⟩ hpS rfl hlen hls hst2 hW hdg hroom⟩
      · exact absurd (Or.inr rfl) hk14
      · cases hkind
  unfold am_call at hc
  split at hc
  · rename_i idx hi
    exact key hc (fun kind hk => by have := of_decide_eq_true hk; subst this; exact am_ins_ok hi)
  · rename_i idx hi
    refine key hc (fun kind hk => ?_)
    simp only [Bool.or_eq_true, decide_eq_true_eq] at hk
    rcases hk with rfl | rfl
    · exact am_ins_ok hi
    · exact am_ins_ok hi
  · rename_i idx hi
    refine key hc (fun kind hk => ?_)
    simp only [Bool.or_eq_true, decide_eq_true_eq] at hk
    rcases hk with rfl | rfl
    · exact am_ins_ok hi
    · exact am_ins_ok hi
  · cases hc
end SOUND
theorem am_sound (X : am_X) (D : va_G) (tid : Nat → ClassId) (σ : Nat → Nat) (l : Launch) : ∀ f : Nat, am_OK X D tid σ l f
  | 0 => by
    rename_i k pc L st h h' o ρ A p e R s m args below meth c H locs cells slots b z Q ls
    intro hx
    cases hx
  | f + 1 => by
    have IH : am_OK X D tid σ l f := @am_sound X D tid σ l f
    rename_i k pc L st h h' o ρ A p e R s m args below meth c H locs cells slots b z Q ls
    intro hx hC hJ hN hR kk
    rcases am_ex_of hx with ⟨o', hret, e1⟩ | ⟨_, j, as, r, o1, h1, hc, hf, he, hkp, hk⟩ | ⟨_, _, i, n, P, hi, hd, hk⟩
    · cases e1
      exact kk pc L st ρ H locs ls cells slots hret am_ag.rf hJ hN
    · have l1 := am_ex_le he
      have l2 := am_ex_le hk
      have n1 := hN.1
      have n2 := hN.2
      have l11 : h.length ≤ h1.length := l1.1
      have l12 : am_sz h ≤ am_sz h1 := l1.2
      have l21 : h1.length ≤ h'.length := l2.1
      have l22 : am_sz h1 ≤ am_sz h' := l2.2
      have r1 := hR.1
      have r2 := hR.2
      obtain ⟨a, hrun⟩ := am_runc (cells := cells) (slots := slots) (p := p) (l := l) (e := e) (below := below) IH hC hJ hc hf he ⟨by omega, by omega⟩
      refine am_callg (A := A) hrun hJ.2.2.2.1 hJ.2.2.1 hC.2.1 (fun ρ' H1 locs1 hag h1000 hP1 hD1 hS1 => ?_)
      have hvv : am_LR σ ρ' ls L ∧ r.map (am_vR σ ρ') = r.map (am_vR σ ρ) := by
        simp only [am_kp, Bool.or_eq_true, Bool.and_eq_true, decide_eq_true_eq] at hkp
        rcases hkp with hq | ⟨hq1, hq2⟩
        · rw [hq] at hag
          rw [hag.eq]
          exact ⟨hJ.2.2.2.2.1, rfl⟩
        · exact ⟨hag.LR hq1 hJ.2.2.2.2.1, hag.vl hq2⟩
      have hst : (o1.map (am_vR σ ρ')).toList ++ r.map (am_vR σ ρ) = (am_push o1 r).map (am_vR σ ρ') := by
        rw [← hvv.2]
        cases o1 <;> rfl
      rw [hst]
      refine IH hk hC ⟨h1000, hP1, hD1, hS1, hvv.1, hJ.2.2.2.2.2⟩ ⟨by omega, by omega⟩ hR ?_
      intro pc' L' st' ρ2 H' locs' ls' cells' slots' q1 q2 q3 q4
      exact kk pc' L' st' ρ2 H' locs' ls' cells' slots' q1 (am_ag.tr l11 l21 hag q2) q3 q4
    · have l1 := am_do_le hd
      have l2 := am_ex_le hk
      have n1 := hN.1
      have n2 := hN.2
      have l11 : h.length ≤ P.2.2.2.length := l1.1
      have l12 : am_sz h ≤ am_sz P.2.2.2 := l1.2
      have l21 : P.2.2.2.length ≤ h'.length := l2.1
      have l22 : am_sz P.2.2.2 ≤ am_sz h' := l2.2
      have r1 := hR.1
      have r2 := hR.2
      refine am_snd (b := b) (z := z) hC hi hd hJ hN ⟨by omega, by omega⟩ ⟨by omega, by omega⟩ (fun ρ' H' locs' ls' cells' slots' hag hJ' hN' => ?_)
      refine IH hk hC hJ' hN' hR ?_
      intro pc' L' st' ρ2 H2 locs2 ls2 cells2 slots2 q1 q2 q3 q4
      exact kk pc' L' st' ρ2 H2 locs2 ls2 cells2 slots2 q1 (am_ag.tr l11 l21 hag q2) q3 q4
