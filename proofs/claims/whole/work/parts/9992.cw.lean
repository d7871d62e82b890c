/-! the start of the law, and the law -/
theorem ct_L1_e {L : List Value} (h : ct_L1 L = true) : L = [.ref 3000, .ref 0, am_u, am_u] := by
  unfold ct_L1 at h
  split at h
  · rw [Bool.and_eq_true, Bool.and_eq_true, Bool.and_eq_true, decide_eq_true_eq, decide_eq_true_eq, decide_eq_true_eq, decide_eq_true_eq] at h
    obtain ⟨rfl, rfl, rfl, rfl⟩ := h
    rfl
  · cases h
theorem ct_s1_e {L : List Value} (h : ct_s1 L = true) : L = [.ref 82, .ref 82] := by
  unfold ct_s1 at h
  split at h
  · rw [Bool.and_eq_true, decide_eq_true_eq, decide_eq_true_eq] at h
    obtain ⟨rfl, rfl⟩ := h
    rfl
  · cases h
theorem ct_L2_e {L : List Value} (h : ct_L2 L = true) : L = [.ref 82, .int 4] := by
  unfold ct_L2 at h
  split at h
  · rw [Bool.and_eq_true, decide_eq_true_eq, decide_eq_true_eq] at h
    obtain ⟨rfl, rfl⟩ := h
    rfl
  · cases h
theorem ct_get : ∃ h h2 : am_H, ct_run1 = some ([.ref 3000, .ref 0, am_u, am_u], [.ref 82, .ref 82], h) ∧ h.length = 83 ∧ am_rn 300 160 200 kX9_init 0 [.ref 82, am_u] [] h = some ([.ref 82, .int 4], [], h2) ∧ okH am_lay h2 = true ∧ (ct_vals.all fun p => decide (MH h2 p.1 p.2.1 = p.2.2)) = true := by
  have h := ct_ok
  unfold ct_chk at h
  split at h
  · rename_i L st g e1
    rw [Bool.and_eq_true, Bool.and_eq_true, Bool.and_eq_true, decide_eq_true_eq] at h
    obtain ⟨h1, h2, h3, h4⟩ := h
    split at h4
    · rename_i L2 st2 g2 e2
      rw [Bool.and_eq_true, Bool.and_eq_true, Bool.and_eq_true, decide_eq_true_eq] at h4
      obtain ⟨i1, i2, i3, i4⟩ := h4
      refine ⟨g, g2, ?_, h3, ?_, i3, i4⟩
      · rw [e1, ct_L1_e h1, ct_s1_e h2]
      · rw [e2, ct_L2_e i1, List.eq_nil_of_length_eq_zero i2]
    · cases h4
  · cases h
theorem wh_0 (f : Nat → Int32) : whB (dr0 f) = true := by
  unfold whB
  rw [dr0_m, Bool.and_eq_true]
  refine ⟨rfl, ?_⟩
  rw [alF_iff]
  intro v hv
  rw [Nat.zero_add, dr0_l f hv, show dr0 f 0 = 0 from rfl]
  decide
section S9992
variable {X : am_X} {L st : List Value} {h : am_H} {M : Nat → Nat → Int32}
theorem iX9_init_160 {x : Nat} : am_ev X kX9_init 160 (.ref x :: L) st h = am_ev X kX9_init 161 (.ref x :: L) (.ref x :: st) h := e_lda0 (show am_ins kX9_init 160 = some (.aload_n 0, 1) by decide +kernel) rfl (fun _ _ _ => rfl)
theorem iX9_init_161 {b : Nat} : am_ev X kX9_init 161 L (.ref b :: st) h = if am_rcv h 9 (some (.ref b)) = true ∧ am_cat st ≤ 8 then (am_ev X kX9_firstDraft 0 [.ref b, am_u] [] h).bind (am_kk X kX9_init 164 L st h) else none := e_cv (as := []) (show am_ins kX9_init 161 = some (.invokevirtual 62, 3) by decide +kernel) oc_X9_init ct_9_62 (by decide +kernel) oc_X9_firstDraft ml_X9_firstDraft rfl (Nat.le_of_ble_eq_true rfl) rfl
theorem iX9_init_164 {x : Nat} : am_ev X kX9_init 164 (.ref x :: L) st h = am_ev X kX9_init 165 (.ref x :: L) (.ref x :: st) h := e_lda0 (show am_ins kX9_init 164 = some (.aload_n 0, 1) by decide +kernel) rfl (fun _ _ _ => rfl)
theorem iX9_init_165 {b : Nat} : am_ev X kX9_init 165 L (.ref b :: st) h = if am_rcv h 9 (some (.ref b)) = true ∧ am_cat st ≤ 8 then (am_ev X kX9_keepDraft 0 [.ref b, am_u] [] h).bind (am_kk X kX9_init 168 L st h) else none := e_cv (as := []) (show am_ins kX9_init 165 = some (.invokevirtual 65, 3) by decide +kernel) oc_X9_init ct_9_65 (by decide +kernel) oc_X9_keepDraft ml_X9_keepDraft rfl (Nat.le_of_ble_eq_true rfl) rfl
theorem iX9_init_168 : am_ev X kX9_init 168 L [] h = some (none, h) := e_ret_v (show am_ins kX9_init 168 = some (.return_, 1) by decide +kernel) rt_X9_init
theorem ct_ret12 : am_ret kL_law 12 [.ref 82, .ref 82] = none := by decide +kernel
theorem ct_call12 : am_call kL_law 12 [.ref 82, .ref 82] h = some (kX9_init, [.ref 82], [.ref 82]) := by
  unfold am_call
  rw [show am_ins kL_law 12 = some (.invokespecial 12, 3) by decide +kernel]
  show am_cl1 kL_law (am_oc kL_law) 12 _ [.ref 82, .ref 82] h = _
  unfold am_cl1
  rw [oc_L_law, ct_10_12]
  dsimp only
  rw [if_pos ⟨by decide, by decide, by decide, by decide +kernel, by decide +kernel, fun z => absurd z (by decide), fun _ => rfl⟩]
  rfl
theorem ct_start : ∃ M, am_ev X kL_law 0 [.ref 3000, am_u, am_u, am_u] [] [] = am_ev X kL_law 18 [.ref 3000, .ref 0, .ref 82, .int 0] [] (hp M) ∧ RR M := by
  obtain ⟨h, h2, r1, hl, r2, ok, vals⟩ := ct_get
  have e1 := am_rn_X (X := X) r1
  have e2 := am_rn_X (X := X) r2
  have k1 : am_rk h := am_rn_rk (q := ([.ref 3000, .ref 0, am_u, am_u], [.ref 82, .ref 82], h)) r1 (fun c hc => by cases hc)
  have k2 : am_rk h2 := am_rn_rk (q := ([.ref 82, .int 4], [], h2)) r2 k1
  have eh := okH_hp ok k2
  generalize hM : MH h2 = M at eh vals
  rw [List.all_eq_true] at vals
  have vl : ∀ a j v, (a, j, v) ∈ ct_vals → M a j = v := fun a j v hm => of_decide_eq_true (vals (a, j, v) hm)
  dsimp only at e1 e2
  rw [eh] at e2
  obtain ⟨R, d1, d2, d3, d4, d5⟩ := @M_firstDraft X M
  have ek := @M_keepDraft X R
  generalize hR6 : up (up (ua R 83 (fil (R 83) (R 86) 86)) 85 0 0) 85 1 0 = R6 at ek
  have e3 : am_ev X kX9_init 160 [.ref 82, .int 4] [] (hp M) = some (none, hp R6) := by
    simp (disch := omega) only [iX9_init_160, iX9_init_161, iX9_init_164, iX9_init_165, iX9_init_168, true_or, or_true, Option.bind_some, Option.bind_none, kk_hp, kn_hp, el_i, el_b, el_z, am_cat_nil, am_cat_i, am_cat_r, am_cat_l, am_cat_n, gd_i, gd_r, gd_n, gd_u, List.length_cons, List.length_nil, true_and, and_true, ↓reduceIte, Nat.zero_le, Nat.reduceLeDiff, Nat.reduceAdd, e_10, e_01, e_00, e_11, Int32.reduceLE, Int32.reduceLT, Int32.reduceAdd, Int32.reduceSub, b01, if_true, if_false, ite_self, rc_82, gf_82_0, gf_82_1, gf_82_2, gf_82_3, gf_82_4, gf_82_5, gf_82_6, pf_82_6, gf_82_7, pf_82_7, gf_82_8, pf_82_8, gf_82_9, pf_82_9, gf_82_10, pf_82_10, gf_82_11, pf_82_11, gf_82_12, pf_82_12, gf_82_13, gf_82_14, gf_82_15, gf_82_16, pf_82_16, gf_82_17, gf_82_18, gf_82_19, gf_82_20, gf_82_21, gf_82_22, gf_82_23, gf_82_24, gf_82_25, pf_82_25, ga_83, wi_83, ga_84, wi_84, ga_85, wb_85, ga_86, wi_86, ga_87, wb_87, ga_88, wi_88, ga_89, wi_89, ga_90, wi_90, ga_91, wi_91, ga_92, wi_92, ga_93, wi_93, ga_94, wi_94, ga_95, wi_95, ga_96, wb_96, ga_97, wi_97, ga_98, wi_98, ga_99, wi_99, d1, ek]
  have e4 : am_ev X kL_law 12 [.ref 3000, .ref 0, am_u, am_u] [.ref 82, .ref 82] h = am_ev X kL_law 15 [.ref 3000, .ref 0, am_u, am_u] [.ref 82] (hp R6) := by
    rw [am_ev_call ct_ret12 ct_call12 (by decide +kernel), show am_ent kX9_init [.ref 82] = [.ref 82, am_u] by decide +kernel, e2, e3]
    show am_kk X kL_law 15 _ _ h (none, hp R6) = _
    unfold am_kk
    rw [if_pos (by unfold am_kp; rw [hl, hp_len]; rfl)]
    rfl
  have e5 : am_ev X kL_law 15 [.ref 3000, .ref 0, am_u, am_u] [.ref 82] (hp R6) = am_ev X kL_law 18 [.ref 3000, .ref 0, .ref 82, .int 0] [] (hp R6) := by
    simp (disch := omega) only [iL_law_15, iL_law_16, iL_law_17, true_or, or_true, Option.bind_some, Option.bind_none, kk_hp, kn_hp, el_i, el_b, el_z, am_cat_nil, am_cat_i, am_cat_r, am_cat_l, am_cat_n, gd_i, gd_r, gd_n, gd_u, List.length_cons, List.length_nil, true_and, and_true, ↓reduceIte, Nat.zero_le, Nat.reduceLeDiff, Nat.reduceAdd, e_10, e_01, e_00, e_11, Int32.reduceLE, Int32.reduceLT, Int32.reduceAdd, Int32.reduceSub, b01, if_true, if_false, ite_self]
  refine ⟨R6, by rw [e1, e4, e5], ?_⟩
  have x82 : R6 82 = M 82 := by rw [← hR6, up_n _ _ _ (by decide), up_n _ _ _ (by decide), ua_n _ _ (by decide), d3]
  have xs : ∀ a, a ≠ 82 → a ≠ 83 → a ≠ 85 → a ≠ 86 → a ≠ 87 → R6 a = M a := fun a i1 i2 i3 i4 i5 => by
    rw [← hR6, up_n _ _ _ i3, up_n _ _ _ i3, ua_n _ _ i2]; exact d2.1 a i1 i4 i5
  have k83 : ∀ j, j < 86 → R6 83 j = dr0 (M 86) j := fun j hj => by
    rw [← hR6, up_n _ _ _ (by decide), up_n _ _ _ (by decide), ua_s, fil_in hj, d4]
  have v85 : ∀ k, k < 2 → R6 85 k = 0 := fun k hk => by
    have : k = 0 ∨ k = 1 := by omega
    rcases this with rfl | rfl <;> rw [← hR6] <;> rfl
  have hn := dr0_n (M 86)
  have hm := dr0_m (M 86)
  have vv : ∀ a j v, a ≠ 82 → a ≠ 83 → a ≠ 85 → a ≠ 86 → a ≠ 87 → (a, j, v) ∈ ct_vals → R6 a j = v := fun a j v i1 i2 i3 i4 i5 hm => by rw [xs a i1 i2 i3 i4 i5]; exact vl a j v hm
  refine ⟨wf_86 (dW_wf (dr0_W _) (wh_0 _)) k83, ?_, Or.inl (vv 0 8 1 (by decide) (by decide) (by decide) (by decide) (by decide) (by decide)), ?_, ?_, ?_, ?_, ?_⟩
  · refine RG_86 ?_ (by rw [hn]; decide) (by rw [hm]; decide) k83
    refine ⟨⟨?_, ?_, ?_, ?_, ?_, ?_⟩, fun c hc => ?_, fun v hv => ?_, fun i hi => ?_⟩
    · exact vv 1 0 0 (by decide) (by decide) (by decide) (by decide) (by decide) (by decide)
    · exact vv 1 3 0 (by decide) (by decide) (by decide) (by decide) (by decide) (by decide)
    · exact vv 1 4 0 (by decide) (by decide) (by decide) (by decide) (by decide) (by decide)
    · exact vv 1 5 (-4) (by decide) (by decide) (by decide) (by decide) (by decide) (by decide)
    · exact vv 1 6 0 (by decide) (by decide) (by decide) (by decide) (by decide) (by decide)
    · exact vv 1 7 0 (by decide) (by decide) (by decide) (by decide) (by decide) (by decide)
    · rw [hn] at hc; omega
    · rw [dr0_l _ hv]
      have : v = 0 ∨ v = 1 ∨ v = 2 ∨ v = 3 ∨ v = 4 ∨ v = 5 ∨ v = 6 ∨ v = 7 := by omega
      rcases this with rfl | rfl | rfl | rfl | rfl | rfl | rfl | rfl <;> exact vv 11 _ (-4) (by decide) (by decide) (by decide) (by decide) (by decide) (by decide)
    · rw [hm] at hi; omega
  · intro k hk
    have : k = 0 ∨ k = 1 := by omega
    rcases this with rfl | rfl
    · exact ⟨(vv 27 1 0 (by decide) (by decide) (by decide) (by decide) (by decide) (by decide)).trans (v85 0 hk).symm, Or.inl (v85 0 hk)⟩
    · exact ⟨(vv 39 1 0 (by decide) (by decide) (by decide) (by decide) (by decide) (by decide)).trans (v85 1 hk).symm, Or.inl (v85 1 hk)⟩
  · exact ⟨0, by decide, by rw [x82]; exact vl 82 6 0 (by decide), vv 13 1 0 (by decide) (by decide) (by decide) (by decide) (by decide) (by decide), fun p hp2 => by omega⟩
  · intro k hk
    left
    have : k = 0 ∨ k = 1 ∨ k = 2 ∨ k = 3 := by omega
    rcases this with rfl | rfl | rfl | rfl
    · exact ⟨vv 97 0 (-4) (by decide) (by decide) (by decide) (by decide) (by decide) (by decide), vv 52 2 (-4) (by decide) (by decide) (by decide) (by decide) (by decide) (by decide)⟩
    · exact ⟨vv 97 1 (-4) (by decide) (by decide) (by decide) (by decide) (by decide) (by decide), vv 54 2 (-4) (by decide) (by decide) (by decide) (by decide) (by decide) (by decide)⟩
    · exact ⟨vv 97 2 (-4) (by decide) (by decide) (by decide) (by decide) (by decide) (by decide), vv 56 2 (-4) (by decide) (by decide) (by decide) (by decide) (by decide) (by decide)⟩
    · exact ⟨vv 97 3 (-4) (by decide) (by decide) (by decide) (by decide) (by decide) (by decide), vv 58 2 (-4) (by decide) (by decide) (by decide) (by decide) (by decide) (by decide)⟩
  · rw [x82, vl 82 11 0 (by decide)]
    exact (vv 12 2 0 (by decide) (by decide) (by decide) (by decide) (by decide) (by decide)).symm
  · rw [x82, vl 82 25 0 (by decide)]
    exact (vv 0 9 0 (by decide) (by decide) (by decide) (by decide) (by decide) (by decide)).symm
end S9992
theorem hl_sz (M : Nat → Nat → Int32) : ∀ (l : List am_LC) (i : Nat), am_sz (am_hl M i l) = (l.map fun c => if 1000 ≤ c.1 then c.2.2.length else c.2.1).sum
  | [], _ => rfl
  | c :: r, i => by
    rw [am_hl, List.map_cons, List.sum_cons, ← hl_sz M r (i + 1)]
    show (match am_cel c (M i) with
      | .inl (_, n, _) => n
      | .inr (_, fs) => fs.length) + am_sz (am_hl M (i + 1) r) = _
    congr 1
    by_cases h1 : 1000 ≤ c.1
    · rw [if_pos h1]
      unfold am_cel
      rw [if_pos h1]
      exact List.length_mapIdx
    · rw [if_neg h1]
      unfold am_cel
      rw [if_neg h1]
      by_cases h2 : c.1 < 3
      · rw [if_pos h2]
      · rw [if_neg h2]
theorem hp_sz (M : Nat → Nat → Int32) : am_sz (hp M) ≤ 100000 := by
  unfold hp
  rw [hl_sz]
  decide +kernel
theorem am_law : am_LAW := by
  intro X hL hX
  obtain ⟨M, e1, r⟩ := @ct_start X
  obtain ⟨M', e2⟩ := law_run hX hL X.1 0 M (by omega) (by omega) r
  rw [nI_0] at e2
  rw [e2] at e1
  obtain ⟨f, hf⟩ := am_ev_iff.mp e1
  exact ⟨f, hp M', hf, by rw [hp_len]; decide, hp_sz M'⟩
