/-! the class measures its columns -/
theorem dlX_n {kd gr : Nat → Int32} {a : Nat} {much many : Int32} {c : Nat} (h : kd c ≠ 1) (d : Nat) : (dlX kd gr a much many d).1 c = gr c := by
  induction d with
  | zero => rfl
  | succ d ih =>
    rw [dlX]
    split
    · rename_i hk
      dsimp only
      rw [pk_un (fun z => h (by rw [z]; exact hk))]; exact ih
    · exact ih
theorem gr1_n {kd sz : Nat → Int32} {gap : Int32} {v c : Nat} (h : kd c ≠ 1) (gr : Nat → Int32) (q : Nat × Nat × Int32) : gr1 kd sz gap v gr q c = gr c := by
  unfold gr1
  split
  · split
    · rfl
    · exact dlX_n h _
  · rfl
theorem gr1_f {kd sz : Nat → Int32} {gap : Int32} {v c : Nat} (h : kd c ≠ 1) (gl : List (Nat × Nat × Int32)) : ∀ gr : Nat → Int32, gl.foldl (gr1 kd sz gap v) gr c = gr c := by
  induction gl with
  | nil => intro gr; rfl
  | cons q gl ih => intro gr; rw [List.foldl_cons, ih, gr1_n h]
theorem szR_n {kd z : Nat → Int32} {gap : Int32} {gl : List (Nat × Nat × Int32)} {c : Nat} (h : kd c ≠ 1) (v : Nat) : szR kd gap gl z v c = z c := by
  induction v with
  | zero => rfl
  | succ v ih =>
    show szR kd gap gl z v c + gl.foldl (gr1 kd (szR kd gap gl z v) gap (v + 1)) (fun _ => 0) c = z c
    rw [gr1_f h, ih, Int32.add_zero]
/-- the guests of an axis -/
def RQ (M : Nat → Nat → Int32) (g n : Nat) (gl : List (Nat × Nat × Int32)) : Prop :=
  M g 6 = nI gl.length ∧ ∀ k (h : k < gl.length), M (g + 5) k = nI gl[k].1 ∧ M (g + 6) k = nI gl[k].2.1 ∧ M (g + 7) k = gl[k].2.2 ∧ gl[k].1 + gl[k].2.1 ≤ n
def szX (s C : Nat → Int32) : Nat → Int32 := fun c =>
  if s 3 = -4 then (if kdX s c = 2 then (glX s C (mI s)).foldl (sh1 (kdX s) (nbX s) (szR (kdX s) (s 1) (glX s C (mI s)) (z0 s) 6) (s 1)) 0 * nbX s c else szR (kdX s) (s 1) (glX s C (mI s)) (z0 s) 6 c)
  else fsz (kdX s) (nbX s) ((glX s C (mI s)).foldl ls1 (fun _ => 0)) (nC s) (lw (kdX s) (szR (kdX s) (s 1) (glX s C (mI s)) (z0 s) 6) (s 1) (nC s) (s 3)) (szR (kdX s) (s 1) (glX s C (mI s)) (z0 s) 6) (frR (kdX s) (nbX s) ((glX s C (mI s)).foldl ls1 (fun _ => 0)) (nC s) (lw (kdX s) (szR (kdX s) (s 1) (glX s C (mI s)) (z0 s) 6) (s 1) (nC s) (s 3)) (nC s + 1) (fun _ => false)) c
section S63
variable {X : am_X} {M : Nat → Nat → Int32}
theorem f1_0 {K : Value → Option am_Q} : am_ela (am_gq (hp M) 4) 0 K = K (.ref 5) := fG0 (g := 1) (Or.inl rfl)
theorem f1_1 {K : Value → Option am_Q} : am_ela (am_gq (hp M) 4) 1 K = K (.ref 6) := fG1 (g := 1) (Or.inl rfl)
theorem f1_2 {K : Value → Option am_Q} : am_ela (am_gq (hp M) 4) 2 K = K (.ref 7) := fG2 (g := 1) (Or.inl rfl)
theorem f1_3 {K : Value → Option am_Q} : am_ela (am_gq (hp M) 4) 3 K = K (.ref 8) := fG3 (g := 1) (Or.inl rfl)
theorem f1_4 {K : Value → Option am_Q} : am_ela (am_gq (hp M) 4) 4 K = K (.ref 9) := fG4 (g := 1) (Or.inl rfl)
theorem f1_5 {K : Value → Option am_Q} : am_ela (am_gq (hp M) 4) 5 K = K (.ref 10) := fG5 (g := 1) (Or.inl rfl)
theorem C_admit' {g n a w : Nat} {gl : List (Nat × Nat × Int32)} {need : Int32} (hg : isA g) (hA : RQ M g n gl) (hl : gl.length < 10) (h : a + w ≤ n) :
    ∃ M', am_ev X kX0_admit 0 [.ref g, .int (nI a), .int (nI w), .int need] [] (hp M) = some (none, hp M') ∧ (∀ b, b ≠ g → b ≠ g + 5 → b ≠ g + 6 → b ≠ g + 7 → M' b = M b) ∧ M' g 0 = M g 0 ∧ M' g 1 = M g 1 ∧ RQ M' g n (gl ++ [(a, w, need)]) := by
  obtain ⟨h6, hk⟩ := hA
  refine ⟨_, C_admit hg hl h6, fun b h0 h5 h6 h7 => by rw [up_n _ _ _ h0, up_n _ _ _ h7, up_n _ _ _ h6, up_n _ _ _ h5], ?_, ?_, ?_, fun k hkl => ?_⟩
  · rw [up_s, pk_un (by decide), up_n _ _ _ (by omega), up_n _ _ _ (by omega), up_n _ _ _ (by omega)]
  · rw [up_s, pk_un (by decide), up_n _ _ _ (by omega), up_n _ _ _ (by omega), up_n _ _ _ (by omega)]
  · rw [up_s, pk_us, List.length_append]; rfl
  · have e5 : ∀ x, up (up (up (up M (g + 5) gl.length (nI a)) (g + 6) gl.length (nI w)) (g + 7) gl.length need) g 6 x (g + 5) = upd (M (g + 5)) gl.length (nI a) := fun x => by
      rw [up_n _ _ _ (by omega), up_n _ _ _ (by omega), up_n _ _ _ (by omega), up_s]
    have e6 : ∀ x, up (up (up (up M (g + 5) gl.length (nI a)) (g + 6) gl.length (nI w)) (g + 7) gl.length need) g 6 x (g + 6) = upd (M (g + 6)) gl.length (nI w) := fun x => by
      rw [up_n _ _ _ (by omega), up_n _ _ _ (by omega), up_s, up_n _ _ _ (by omega)]
    have e7 : ∀ x, up (up (up (up M (g + 5) gl.length (nI a)) (g + 6) gl.length (nI w)) (g + 7) gl.length need) g 6 x (g + 7) = upd (M (g + 7)) gl.length need := fun x => by
      rw [up_n _ _ _ (by omega), up_s, up_n _ _ _ (by omega), up_n _ _ _ (by omega)]
    rw [e5, e6, e7]
    rw [List.length_append] at hkl
    by_cases hkk : k < gl.length
    · rw [List.getElem_append_left hkk, pk_un (by omega), pk_un (by omega), pk_un (by omega)]
      exact hk k hkk
    · have hkk' : k = gl.length := by simp only [List.length_cons, List.length_nil] at hkl; omega
      subst hkk'
      rw [List.getElem_append_right (Nat.le_refl _), pk_us, pk_us, pk_us]
      simp only [Nat.sub_self, List.getElem_cons_zero]
      exact ⟨trivial, trivial, trivial, h⟩
theorem C_measureColumns {s C : Nat → Int32} (hwf : wf s) (hR : RG M 1 s) (hC : stX s C) (hMC : ∀ i, i < mI s → M 61 i = C i) :
    ∃ M', am_ev X kX8_measureColumns 0 [.ref 0, am_u] [] (hp M) = some (none, hp M') ∧ (∀ a, ¬ (64 ≤ a ∧ a < 72) → a ≠ 80 → a ≠ 81 → M' a = M a) ∧ M' 64 1 = s 1 ∧ ∀ c, c < nC s → M' 67 c = szX s C c := by
  obtain ⟨⟨r0, r3, r4, r5, r6, r7⟩, rk, rl, rf⟩ := hR
  obtain ⟨⟨hn0, hn⟩, ⟨hm0, hm⟩, hit, hnb⟩ := hwf
  have hA : isA 64 := Or.inl rfl
  have q0 : M 1 0 = nI (nC s) := r0.trans hn0
  have q7 : M 1 7 = nI (mI s) := r7.trans hm0
  generalize hgx : szX s C = res
  unfold szX at hgx
  generalize hn' : nC s = n at *
  generalize hm' : mI s = m at *
  have eb := @C_begin X M 64 (nI n) (M 1 3) hA
  -- the tracks
  have hl1 := loop_inv (fun t M' => am_ev X kX8_measureColumns 23 [.ref 0, .int (nI t)] [] (hp M')) (fun t M' => (∀ a, ¬ (64 ≤ a ∧ a < 72) → M' a = M a) ∧ M' 64 0 = nI n ∧ M' 64 1 = s 1 ∧ M' 64 6 = 0 ∧ ∀ c, c < t → M' 65 c = kdX s c ∧ M' 66 c = nbX s c ∧ M' 67 c = z0 s c) 0 n (by omega) (up (up (up M 64 0 (nI n)) 64 1 (M 1 3)) 64 6 0) ⟨fun a ha => by rw [up_n _ _ _ (by omega), up_n _ _ _ (by omega), up_n _ _ _ (by omega)], rfl, r3, rfl, fun c hc => by omega⟩ ?_
  · obtain ⟨M1, e1, f1, a0, a1, a6, g1⟩ := hl1
    -- the guests
    have hl2 := loop_inv (fun i M' => am_ev X kX8_measureColumns 93 [.ref 0, .int (nI i)] [] (hp M')) (fun i M' => (∀ a, a ≠ 64 → a ≠ 69 → a ≠ 70 → a ≠ 71 → M' a = M1 a) ∧ M' 64 0 = nI n ∧ M' 64 1 = s 1 ∧ RQ M' 64 n (glX s C i)) 0 m (by omega) M1 ⟨fun _ _ _ _ _ => rfl, a0, a1, a6, fun k hk => absurd hk (Nat.not_lt_zero k)⟩ ?_
    · obtain ⟨M2, e2, f2, b0, b1, b6⟩ := hl2
      have hAx : RA M2 64 n (kdX s) (nbX s) (s 1) (glX s C m) := by
        refine ⟨b0, by omega, b1, fun c hc => ?_, hnb, b6.1, Nat.le_trans (gst_len _ _ _ _ _) hm, b6.2⟩
        rw [f2 65 (by decide) (by decide) (by decide) (by decide), f2 66 (by decide) (by decide) (by decide) (by decide)]
        exact ⟨(g1 c hc).1, (g1 c hc).2.1⟩
      have hs2 : ∀ c, c < n → M2 67 c = z0 s c := fun c hc => by rw [f2 67 (by decide) (by decide) (by decide) (by decide)]; exact (g1 c hc).2.2
      -- the growth
      have hl3 := loop_inv (fun v M' => am_ev X kX8_measureColumns 161 [.ref 0, .int (nI (v + 1))] [] (hp M')) (fun v M' => (∀ a, a ≠ 67 → a ≠ 68 → M' a = M2 a) ∧ ∀ c, c < n → M' 67 c = szR (kdX s) (s 1) (glX s C m) (z0 s) v c) 0 6 (by omega) M2 ⟨fun _ _ _ => rfl, hs2⟩ ?_
      · obtain ⟨M3, e3, f3, g3⟩ := hl3
        have hA3 : RA M3 64 n (kdX s) (nbX s) (s 1) (glX s C m) := by
          unfold RA
          rw [f3 64 (by decide) (by decide), f3 65 (by decide) (by decide), f3 66 (by decide) (by decide), f3 69 (by decide) (by decide), f3 70 (by decide) (by decide), f3 71 (by decide) (by decide)]
          exact hAx
        have F1 : ∀ a, ¬ (64 ≤ a ∧ a < 72) → M3 a = M a := fun a ha => by rw [f3 a (by omega) (by omega), f2 a (by omega) (by omega) (by omega) (by omega), f1 a ha]
        have w5 : M3 1 5 = s 3 := by rw [F1 1 (by omega)]; exact r5
        have hz : ∀ c, c < n → kdX s c = 2 → szR (kdX s) (s 1) (glX s C m) (z0 s) 6 c = 0 := fun c hc h2 => by
          rw [szR_n (by rw [h2]; decide)]
          unfold z0 kdX at *
          rw [h2]; rfl
        have c7 : M2 1 7 = nI m := by rw [f2 _ (by decide) (by decide) (by decide) (by decide), f1 _ (by decide)]; exact q7
        have c0 : M1 1 0 = nI n := by rw [f1 _ (by decide)]; exact q0
        have run : am_ev X kX8_measureColumns 0 [.ref 0, am_u] [] (hp M) = am_ev X kX8_measureColumns 181 [.ref 0, .int (nI 7)] [] (hp M3) := by
          simp (disch := omega) only [iX8_measureColumns_0, iX8_measureColumns_1, iX8_measureColumns_4, iX8_measureColumns_5, iX8_measureColumns_8, iX8_measureColumns_11, iX8_measureColumns_12, iX8_measureColumns_15, iX8_measureColumns_18, iX8_measureColumns_21, iX8_measureColumns_22, true_or, or_true, Option.bind_some, Option.bind_none, kk_hp, kn_hp, el_i, el_b, el_z, am_cat_nil, am_cat_i, am_cat_r, am_cat_l, am_cat_n, gd_i, gd_r, gd_n, gd_u, List.length_cons, List.length_nil, true_and, and_true, ↓reduceIte, Nat.zero_le, Nat.reduceLeDiff, Nat.reduceAdd, e_10, e_01, e_00, e_11, Int32.reduceLE, Int32.reduceLT, Int32.reduceAdd, Int32.reduceSub, b01, if_true, if_false, ite_self, nl_add, nl_add', nl_mul, nI_add, in_t, cl_n, le_nn, lt_nn, le_ln, le_nl, lt_nl, lt_ln, eq_nn, eq_nl, in_lit, cl_lit, Nat.le_refl, Nat.add_zero, rc_0, gf_0_0, gf_0_1, gf_0_2, gf_0_3, gf_0_4, gf_0_5, gf_0_6, gf_0_7, gf_0_8, pf_0_8, gf_0_9, pf_0_9, rc_1, gf_1_0, pf_1_0, gf_1_1, gf_1_2, gf_1_3, pf_1_3, gf_1_4, pf_1_4, gf_1_5, pf_1_5, gf_1_6, pf_1_6, gf_1_7, pf_1_7, gf_1_8, gf_1_9, rc_64, gf_64_0, pf_64_0, gf_64_1, pf_64_1, gf_64_2, gf_64_3, gf_64_4, gf_64_5, gf_64_6, pf_64_6, gf_64_7, gf_64_8, gf_64_9, q0, eb]
          rw [nI_0] at e1 e2
          rw [e1]
          simp (disch := omega) only [iX8_measureColumns_23, iX8_measureColumns_24, iX8_measureColumns_25, iX8_measureColumns_28, iX8_measureColumns_31, iX8_measureColumns_91, iX8_measureColumns_92, true_or, or_true, Option.bind_some, Option.bind_none, kk_hp, kn_hp, el_i, el_b, el_z, am_cat_nil, am_cat_i, am_cat_r, am_cat_l, am_cat_n, gd_i, gd_r, gd_n, gd_u, List.length_cons, List.length_nil, true_and, and_true, ↓reduceIte, Nat.zero_le, Nat.reduceLeDiff, Nat.reduceAdd, e_10, e_01, e_00, e_11, Int32.reduceLE, Int32.reduceLT, Int32.reduceAdd, Int32.reduceSub, b01, if_true, if_false, ite_self, nl_add, nl_add', nl_mul, nI_add, in_t, cl_n, le_nn, lt_nn, le_ln, le_nl, lt_nl, lt_ln, eq_nn, eq_nl, in_lit, cl_lit, Nat.le_refl, Nat.add_zero, rc_0, gf_0_0, gf_0_1, gf_0_2, gf_0_3, gf_0_4, gf_0_5, gf_0_6, gf_0_7, gf_0_8, pf_0_8, gf_0_9, pf_0_9, rc_1, gf_1_0, pf_1_0, gf_1_1, gf_1_2, gf_1_3, pf_1_3, gf_1_4, pf_1_4, gf_1_5, pf_1_5, gf_1_6, pf_1_6, gf_1_7, pf_1_7, gf_1_8, gf_1_9, rc_64, gf_64_0, pf_64_0, gf_64_1, pf_64_1, gf_64_2, gf_64_3, gf_64_4, gf_64_5, gf_64_6, pf_64_6, gf_64_7, gf_64_8, gf_64_9, c0]
          rw [e2]
          simp (disch := omega) only [iX8_measureColumns_93, iX8_measureColumns_94, iX8_measureColumns_95, iX8_measureColumns_98, iX8_measureColumns_101, iX8_measureColumns_159, iX8_measureColumns_160, true_or, or_true, Option.bind_some, Option.bind_none, kk_hp, kn_hp, el_i, el_b, el_z, am_cat_nil, am_cat_i, am_cat_r, am_cat_l, am_cat_n, gd_i, gd_r, gd_n, gd_u, List.length_cons, List.length_nil, true_and, and_true, ↓reduceIte, Nat.zero_le, Nat.reduceLeDiff, Nat.reduceAdd, e_10, e_01, e_00, e_11, Int32.reduceLE, Int32.reduceLT, Int32.reduceAdd, Int32.reduceSub, b01, if_true, if_false, ite_self, nl_add, nl_add', nl_mul, nI_add, in_t, cl_n, le_nn, lt_nn, le_ln, le_nl, lt_nl, lt_ln, eq_nn, eq_nl, in_lit, cl_lit, Nat.le_refl, Nat.add_zero, rc_0, gf_0_0, gf_0_1, gf_0_2, gf_0_3, gf_0_4, gf_0_5, gf_0_6, gf_0_7, gf_0_8, pf_0_8, gf_0_9, pf_0_9, rc_1, gf_1_0, pf_1_0, gf_1_1, gf_1_2, gf_1_3, pf_1_3, gf_1_4, pf_1_4, gf_1_5, pf_1_5, gf_1_6, pf_1_6, gf_1_7, pf_1_7, gf_1_8, gf_1_9, rc_64, gf_64_0, pf_64_0, gf_64_1, pf_64_1, gf_64_2, gf_64_3, gf_64_4, gf_64_5, gf_64_6, pf_64_6, gf_64_7, gf_64_8, gf_64_9, c7]
          rw [show (1 : Int32) = nI (0 + 1) from rfl, e3]
          simp (disch := omega) only [iX8_measureColumns_161, iX8_measureColumns_162, iX8_measureColumns_164, true_or, or_true, Option.bind_some, Option.bind_none, kk_hp, kn_hp, el_i, el_b, el_z, am_cat_nil, am_cat_i, am_cat_r, am_cat_l, am_cat_n, gd_i, gd_r, gd_n, gd_u, List.length_cons, List.length_nil, true_and, and_true, ↓reduceIte, Nat.zero_le, Nat.reduceLeDiff, Nat.reduceAdd, e_10, e_01, e_00, e_11, Int32.reduceLE, Int32.reduceLT, Int32.reduceAdd, Int32.reduceSub, b01, if_true, if_false, ite_self, nl_add, nl_add', nl_mul, nI_add, in_t, cl_n, le_nn, lt_nn, le_ln, le_nl, lt_nl, lt_ln, eq_nn, eq_nl, in_lit, cl_lit, Nat.le_refl, Nat.add_zero, show 6 < 6 + 1 by omega]
        by_cases hw : s 3 = -4
        · obtain ⟨M4, e4, f4, g4⟩ := @C_dealByNeed X M3 64 n (kdX s) (nbX s) _ (s 1) (glX s C m) hA hA3 g3 hz
          have w5' : M3 1 5 = -4 := w5.trans hw
          refine ⟨M4, ?_, fun a ha _ _ => by rw [f4 a (by omega), F1 a ha], ?_, fun c hc => ?_⟩
          · rw [run]
            simp (disch := omega) only [iX8_measureColumns_181, iX8_measureColumns_182, iX8_measureColumns_185, iX8_measureColumns_188, iX8_measureColumns_190, iX8_measureColumns_193, iX8_measureColumns_194, iX8_measureColumns_197, iX8_measureColumns_198, iX8_measureColumns_201, iX8_measureColumns_204, iX8_measureColumns_207, iX8_measureColumns_208, iX8_measureColumns_211, iX8_measureColumns_212, iX8_measureColumns_215, iX8_measureColumns_216, iX8_measureColumns_219, iX8_measureColumns_222, iX8_measureColumns_225, true_or, or_true, Option.bind_some, Option.bind_none, kk_hp, kn_hp, el_i, el_b, el_z, am_cat_nil, am_cat_i, am_cat_r, am_cat_l, am_cat_n, gd_i, gd_r, gd_n, gd_u, List.length_cons, List.length_nil, true_and, and_true, ↓reduceIte, Nat.zero_le, Nat.reduceLeDiff, Nat.reduceAdd, e_10, e_01, e_00, e_11, Int32.reduceLE, Int32.reduceLT, Int32.reduceAdd, Int32.reduceSub, b01, if_true, if_false, ite_self, nl_add, nl_add', nl_mul, nI_add, in_t, cl_n, le_nn, lt_nn, le_ln, le_nl, lt_nl, lt_ln, eq_nn, eq_nl, in_lit, cl_lit, Nat.le_refl, Nat.add_zero, rc_0, gf_0_0, gf_0_1, gf_0_2, gf_0_3, gf_0_4, gf_0_5, gf_0_6, gf_0_7, gf_0_8, pf_0_8, gf_0_9, pf_0_9, rc_1, gf_1_0, pf_1_0, gf_1_1, gf_1_2, gf_1_3, pf_1_3, gf_1_4, pf_1_4, gf_1_5, pf_1_5, gf_1_6, pf_1_6, gf_1_7, pf_1_7, gf_1_8, gf_1_9, rc_64, gf_64_0, pf_64_0, gf_64_1, pf_64_1, gf_64_2, gf_64_3, gf_64_4, gf_64_5, gf_64_6, pf_64_6, gf_64_7, gf_64_8, gf_64_9, rc_80, gf_80_0, gf_80_1, pf_80_1, w5', e4]
          · rw [f4 64 (by decide)]; exact hA3.2.2.1
          · rw [← hgx, g4 c hc]
            exact (if_pos hw).symm
        · obtain ⟨M4, e4, f4, g4⟩ := @C_dealByWidth X M3 64 n (kdX s) (nbX s) _ (s 1) (s 3) (glX s C m) hA hA3 hn g3 hz
          refine ⟨M4, ?_, fun a ha h1 h2 => by rw [f4 a (by omega) h1 h2, F1 a ha], ?_, fun c hc => ?_⟩
          · rw [run]
            simp (disch := omega) only [iX8_measureColumns_181, iX8_measureColumns_182, iX8_measureColumns_185, iX8_measureColumns_188, iX8_measureColumns_190, iX8_measureColumns_193, iX8_measureColumns_194, iX8_measureColumns_197, iX8_measureColumns_198, iX8_measureColumns_201, iX8_measureColumns_204, iX8_measureColumns_207, iX8_measureColumns_208, iX8_measureColumns_211, iX8_measureColumns_212, iX8_measureColumns_215, iX8_measureColumns_216, iX8_measureColumns_219, iX8_measureColumns_222, iX8_measureColumns_225, true_or, or_true, Option.bind_some, Option.bind_none, kk_hp, kn_hp, el_i, el_b, el_z, am_cat_nil, am_cat_i, am_cat_r, am_cat_l, am_cat_n, gd_i, gd_r, gd_n, gd_u, List.length_cons, List.length_nil, true_and, and_true, ↓reduceIte, Nat.zero_le, Nat.reduceLeDiff, Nat.reduceAdd, e_10, e_01, e_00, e_11, Int32.reduceLE, Int32.reduceLT, Int32.reduceAdd, Int32.reduceSub, b01, if_true, if_false, ite_self, nl_add, nl_add', nl_mul, nI_add, in_t, cl_n, le_nn, lt_nn, le_ln, le_nl, lt_nl, lt_ln, eq_nn, eq_nl, in_lit, cl_lit, Nat.le_refl, Nat.add_zero, rc_0, gf_0_0, gf_0_1, gf_0_2, gf_0_3, gf_0_4, gf_0_5, gf_0_6, gf_0_7, gf_0_8, pf_0_8, gf_0_9, pf_0_9, rc_1, gf_1_0, pf_1_0, gf_1_1, gf_1_2, gf_1_3, pf_1_3, gf_1_4, pf_1_4, gf_1_5, pf_1_5, gf_1_6, pf_1_6, gf_1_7, pf_1_7, gf_1_8, gf_1_9, rc_64, gf_64_0, pf_64_0, gf_64_1, pf_64_1, gf_64_2, gf_64_3, gf_64_4, gf_64_5, gf_64_6, pf_64_6, gf_64_7, gf_64_8, gf_64_9, rc_80, gf_80_0, gf_80_1, pf_80_1, w5, hw, e4]
          · rw [f4 64 (by decide) (by decide) (by decide)]; exact hA3.2.2.1
          · rw [← hgx, g4 c hc]
            exact (if_neg hw).symm
      intro v M' _ hv ⟨hf, hG⟩
      have hA' : RA M' 64 n (kdX s) (nbX s) (s 1) (glX s C m) := by
        unfold RA
        rw [hf 64 (by decide) (by decide), hf 65 (by decide) (by decide), hf 66 (by decide) (by decide), hf 69 (by decide) (by decide), hf 70 (by decide) (by decide), hf 71 (by decide) (by decide)]
        exact hAx
      obtain ⟨M4, e4, f4, g4⟩ := @C_growBy X M' 64 n (v + 1) (kdX s) (nbX s) _ (s 1) (glX s C m) hA hA' (by omega) hG
      refine ⟨M4, ?_, fun a h7 h8 => by rw [f4 a h7 h8]; exact hf a h7 h8, g4⟩
      conv => lhs; rw [iX8_measureColumns_161]
      simp (disch := omega) only [iX8_measureColumns_162, iX8_measureColumns_164, iX8_measureColumns_167, iX8_measureColumns_168, iX8_measureColumns_171, iX8_measureColumns_172, iX8_measureColumns_175, iX8_measureColumns_178, true_or, or_true, Option.bind_some, Option.bind_none, kk_hp, kn_hp, el_i, el_b, el_z, am_cat_nil, am_cat_i, am_cat_r, am_cat_l, am_cat_n, gd_i, gd_r, gd_n, gd_u, List.length_cons, List.length_nil, true_and, and_true, ↓reduceIte, Nat.zero_le, Nat.reduceLeDiff, Nat.reduceAdd, e_10, e_01, e_00, e_11, Int32.reduceLE, Int32.reduceLT, Int32.reduceAdd, Int32.reduceSub, b01, if_true, if_false, ite_self, nl_add, nl_add', nl_mul, nI_add, in_t, cl_n, le_nn, lt_nn, le_ln, le_nl, lt_nl, lt_ln, eq_nn, eq_nl, in_lit, cl_lit, Nat.le_refl, Nat.add_zero, rc_0, gf_0_0, gf_0_1, gf_0_2, gf_0_3, gf_0_4, gf_0_5, gf_0_6, gf_0_7, gf_0_8, pf_0_8, gf_0_9, pf_0_9, rc_64, gf_64_0, pf_64_0, gf_64_1, pf_64_1, gf_64_2, gf_64_3, gf_64_4, gf_64_5, gf_64_6, pf_64_6, gf_64_7, gf_64_8, gf_64_9, show ¬ 6 < v + 1 by omega, e4]
    intro i M' _ hi ⟨hf, b0, b1, b6⟩
    have hF : ∀ a, ¬ (64 ≤ a ∧ a < 72) → M' a = M a := fun a ha => by rw [hf a (by omega) (by omega) (by omega) (by omega), f1 a ha]
    have c7 : M' 1 7 = nI m := by rw [hF 1 (by omega)]; exact q7
    have c61 : M' 61 i = C i := by rw [hF 61 (by omega)]; exact hMC i hi
    have hli : ¬ m ≤ i := by omega
    have elo := @C_isLost X M' i (by omega)
    rw [c61] at elo
    rcases hC i (by omega) with hz | ⟨a, ha, haw⟩
    · rw [if_pos hz] at elo
      refine ⟨M', ?_, hf, b0, b1, ?_⟩
      · conv => lhs; rw [iX8_measureColumns_93]
        simp (disch := omega) only [iX8_measureColumns_94, iX8_measureColumns_95, iX8_measureColumns_98, iX8_measureColumns_101, iX8_measureColumns_104, iX8_measureColumns_105, iX8_measureColumns_108, iX8_measureColumns_109, iX8_measureColumns_112, iX8_measureColumns_115, iX8_measureColumns_116, iX8_measureColumns_119, iX8_measureColumns_120, iX8_measureColumns_123, iX8_measureColumns_126, iX8_measureColumns_127, iX8_measureColumns_128, iX8_measureColumns_129, iX8_measureColumns_132, iX8_measureColumns_135, iX8_measureColumns_136, iX8_measureColumns_137, iX8_measureColumns_138, iX8_measureColumns_139, iX8_measureColumns_140, iX8_measureColumns_143, iX8_measureColumns_146, iX8_measureColumns_147, iX8_measureColumns_148, iX8_measureColumns_149, iX8_measureColumns_150, iX8_measureColumns_153, iX8_measureColumns_156, true_or, or_true, Option.bind_some, Option.bind_none, kk_hp, kn_hp, el_i, el_b, el_z, am_cat_nil, am_cat_i, am_cat_r, am_cat_l, am_cat_n, gd_i, gd_r, gd_n, gd_u, List.length_cons, List.length_nil, true_and, and_true, ↓reduceIte, Nat.zero_le, Nat.reduceLeDiff, Nat.reduceAdd, e_10, e_01, e_00, e_11, Int32.reduceLE, Int32.reduceLT, Int32.reduceAdd, Int32.reduceSub, b01, if_true, if_false, ite_self, nl_add, nl_add', nl_mul, nI_add, in_t, cl_n, le_nn, lt_nn, le_ln, le_nl, lt_nl, lt_ln, eq_nn, eq_nl, in_lit, cl_lit, Nat.le_refl, Nat.add_zero, rc_0, gf_0_0, gf_0_1, gf_0_2, gf_0_3, gf_0_4, gf_0_5, gf_0_6, gf_0_7, gf_0_8, pf_0_8, gf_0_9, pf_0_9, rc_1, gf_1_0, pf_1_0, gf_1_1, gf_1_2, gf_1_3, pf_1_3, gf_1_4, pf_1_4, gf_1_5, pf_1_5, gf_1_6, pf_1_6, gf_1_7, pf_1_7, gf_1_8, gf_1_9, rc_60, gf_60_0, gf_60_1, gf_60_2, gf_60_3, pf_60_3, gf_60_4, pf_60_4, gf_60_5, pf_60_5, c7, hli, elo]
      · have eg : glX s C (i + 1) = glX s C i := by unfold glX; rw [gst, if_pos hz]
        rw [eg]; exact b6
    · have hne : ¬ C i = -4 := by rw [ha]; exact nI_ne (by omega)
      rw [if_neg hne] at elo
      have eg : glX s C (i + 1) = glX s C i ++ [(a, wI s i, s (26 + 6 * i + 2))] := by
        unfold glX
        rw [gst, if_neg hne, ha, nI_clamp (by omega)]
      have w0 : M' 5 i = nI (wI s i) := by rw [hF 5 (by omega)]; exact (rf i hi 0 (by decide)).trans (hit i hi).1.1
      have w2 : M' 7 i = s (26 + 6 * i + 2) := by rw [hF 7 (by omega)]; exact rf i hi 2 (by decide)
      have c61' : M' 61 i = nI a := c61.trans ha
      have hlen : (glX s C i).length < 10 := Nat.lt_of_le_of_lt (gst_len _ _ _ _ _) (by omega)
      obtain ⟨M4, e4, f4, k0, k1, k6⟩ := @C_admit' X M' 64 n a (wI s i) (glX s C i) (s (26 + 6 * i + 2)) hA b6 hlen (by omega)
      refine ⟨M4, ?_, fun b h0 h5 h6 h7 => by rw [f4 b h0 h5 h6 h7]; exact hf b h0 h5 h6 h7, k0.trans b0, k1.trans b1, by rw [eg]; exact k6⟩
      conv => lhs; rw [iX8_measureColumns_93]
      simp (disch := omega) only [iX8_measureColumns_94, iX8_measureColumns_95, iX8_measureColumns_98, iX8_measureColumns_101, iX8_measureColumns_104, iX8_measureColumns_105, iX8_measureColumns_108, iX8_measureColumns_109, iX8_measureColumns_112, iX8_measureColumns_115, iX8_measureColumns_116, iX8_measureColumns_119, iX8_measureColumns_120, iX8_measureColumns_123, iX8_measureColumns_126, iX8_measureColumns_127, iX8_measureColumns_128, iX8_measureColumns_129, iX8_measureColumns_132, iX8_measureColumns_135, iX8_measureColumns_136, iX8_measureColumns_137, iX8_measureColumns_138, iX8_measureColumns_139, iX8_measureColumns_140, iX8_measureColumns_143, iX8_measureColumns_146, iX8_measureColumns_147, iX8_measureColumns_148, iX8_measureColumns_149, iX8_measureColumns_150, iX8_measureColumns_153, iX8_measureColumns_156, true_or, or_true, Option.bind_some, Option.bind_none, kk_hp, kn_hp, el_i, el_b, el_z, am_cat_nil, am_cat_i, am_cat_r, am_cat_l, am_cat_n, gd_i, gd_r, gd_n, gd_u, List.length_cons, List.length_nil, true_and, and_true, ↓reduceIte, Nat.zero_le, Nat.reduceLeDiff, Nat.reduceAdd, e_10, e_01, e_00, e_11, Int32.reduceLE, Int32.reduceLT, Int32.reduceAdd, Int32.reduceSub, b01, if_true, if_false, ite_self, nl_add, nl_add', nl_mul, nI_add, in_t, cl_n, le_nn, lt_nn, le_ln, le_nl, lt_nl, lt_ln, eq_nn, eq_nl, in_lit, cl_lit, Nat.le_refl, Nat.add_zero, rc_0, gf_0_0, gf_0_1, gf_0_2, gf_0_3, gf_0_4, gf_0_5, gf_0_6, gf_0_7, gf_0_8, pf_0_8, gf_0_9, pf_0_9, rc_1, gf_1_0, pf_1_0, gf_1_1, gf_1_2, gf_1_3, pf_1_3, gf_1_4, pf_1_4, gf_1_5, pf_1_5, gf_1_6, pf_1_6, gf_1_7, pf_1_7, gf_1_8, gf_1_9, ga_5, wi_5, ga_7, wi_7, rc_60, gf_60_0, gf_60_1, gf_60_2, gf_60_3, pf_60_3, gf_60_4, pf_60_4, gf_60_5, pf_60_5, ga_61, wi_61, rc_64, gf_64_0, pf_64_0, gf_64_1, pf_64_1, gf_64_2, gf_64_3, gf_64_4, gf_64_5, gf_64_6, pf_64_6, gf_64_7, gf_64_8, gf_64_9, f1_0, f1_2, c7, hli, elo, c61', w0, w2, e4]
  intro t M' _ ht ⟨hf, a0, a1, a6, hG⟩
  have c0 : M' 1 0 = nI n := by rw [hf 1 (by omega)]; exact q0
  have w2 : M' 2 t = s (5 + t) := by rw [hf 2 (by omega)]; exact (rk t ht).1
  have w3 : M' 3 t = s (11 + t) := by rw [hf 3 (by omega)]; exact (rk t ht).2
  have ep := @C_put X M' 64 t (s (5 + t)) (s (11 + t)) (z0 s t) hA (by omega)
  refine ⟨up (up (up M' 65 t (s (5 + t))) 66 t (s (11 + t))) 67 t (z0 s t), ?_, fun a ha => by rw [up_n _ _ _ (by omega), up_n _ _ _ (by omega), up_n _ _ _ (by omega)]; exact hf a ha, a0, a1, a6, fun c hc => ?_⟩
  rotate_left
  · show upd (M' 65) t (s (5 + t)) c = _ ∧ upd (M' 66) t (s (11 + t)) c = _ ∧ upd (M' 67) t (z0 s t) c = _
    by_cases hct : c = t
    · rw [hct, pk_us, pk_us, pk_us]; exact ⟨rfl, rfl, rfl⟩
    · rw [pk_un hct, pk_un hct, pk_un hct]; exact hG c (by omega)
  · conv => lhs; rw [iX8_measureColumns_23]
    by_cases hk0 : s (5 + t) = 0
    · have ez : z0 s t = s (11 + t) := by unfold z0; rw [if_pos hk0]
      rw [hk0] at w2 ep ⊢
      rw [ez] at ep ⊢
      simp (disch := omega) only [iX8_measureColumns_24, iX8_measureColumns_25, iX8_measureColumns_28, iX8_measureColumns_31, iX8_measureColumns_34, iX8_measureColumns_35, iX8_measureColumns_38, iX8_measureColumns_39, iX8_measureColumns_40, iX8_measureColumns_43, iX8_measureColumns_46, iX8_measureColumns_47, iX8_measureColumns_48, iX8_measureColumns_49, iX8_measureColumns_52, iX8_measureColumns_55, iX8_measureColumns_56, iX8_measureColumns_57, iX8_measureColumns_58, iX8_measureColumns_61, iX8_measureColumns_64, iX8_measureColumns_65, iX8_measureColumns_66, iX8_measureColumns_69, iX8_measureColumns_70, iX8_measureColumns_73, iX8_measureColumns_76, iX8_measureColumns_77, iX8_measureColumns_78, iX8_measureColumns_81, iX8_measureColumns_82, iX8_measureColumns_85, iX8_measureColumns_88, true_or, or_true, Option.bind_some, Option.bind_none, kk_hp, kn_hp, el_i, el_b, el_z, am_cat_nil, am_cat_i, am_cat_r, am_cat_l, am_cat_n, gd_i, gd_r, gd_n, gd_u, List.length_cons, List.length_nil, true_and, and_true, ↓reduceIte, Nat.zero_le, Nat.reduceLeDiff, Nat.reduceAdd, e_10, e_01, e_00, e_11, Int32.reduceLE, Int32.reduceLT, Int32.reduceAdd, Int32.reduceSub, b01, if_true, if_false, ite_self, nl_add, nl_add', nl_mul, nI_add, in_t, cl_n, le_nn, lt_nn, le_ln, le_nl, lt_nl, lt_ln, eq_nn, eq_nl, in_lit, cl_lit, Nat.le_refl, Nat.add_zero, rc_0, gf_0_0, gf_0_1, gf_0_2, gf_0_3, gf_0_4, gf_0_5, gf_0_6, gf_0_7, gf_0_8, pf_0_8, gf_0_9, pf_0_9, rc_1, gf_1_0, pf_1_0, gf_1_1, gf_1_2, gf_1_3, pf_1_3, gf_1_4, pf_1_4, gf_1_5, pf_1_5, gf_1_6, pf_1_6, gf_1_7, pf_1_7, gf_1_8, gf_1_9, ga_2, wi_2, ga_3, wi_3, rc_64, gf_64_0, pf_64_0, gf_64_1, pf_64_1, gf_64_2, gf_64_3, gf_64_4, gf_64_5, gf_64_6, pf_64_6, gf_64_7, gf_64_8, gf_64_9, c0, show ¬ n ≤ t by omega, w2, w3, ep]
    · have ez : z0 s t = 0 := by unfold z0; rw [if_neg hk0]
      rw [ez] at ep ⊢
      simp (disch := omega) only [iX8_measureColumns_24, iX8_measureColumns_25, iX8_measureColumns_28, iX8_measureColumns_31, iX8_measureColumns_34, iX8_measureColumns_35, iX8_measureColumns_38, iX8_measureColumns_39, iX8_measureColumns_40, iX8_measureColumns_43, iX8_measureColumns_46, iX8_measureColumns_47, iX8_measureColumns_48, iX8_measureColumns_49, iX8_measureColumns_52, iX8_measureColumns_55, iX8_measureColumns_56, iX8_measureColumns_57, iX8_measureColumns_58, iX8_measureColumns_61, iX8_measureColumns_64, iX8_measureColumns_65, iX8_measureColumns_66, iX8_measureColumns_69, iX8_measureColumns_70, iX8_measureColumns_73, iX8_measureColumns_76, iX8_measureColumns_77, iX8_measureColumns_78, iX8_measureColumns_81, iX8_measureColumns_82, iX8_measureColumns_85, iX8_measureColumns_88, true_or, or_true, Option.bind_some, Option.bind_none, kk_hp, kn_hp, el_i, el_b, el_z, am_cat_nil, am_cat_i, am_cat_r, am_cat_l, am_cat_n, gd_i, gd_r, gd_n, gd_u, List.length_cons, List.length_nil, true_and, and_true, ↓reduceIte, Nat.zero_le, Nat.reduceLeDiff, Nat.reduceAdd, e_10, e_01, e_00, e_11, Int32.reduceLE, Int32.reduceLT, Int32.reduceAdd, Int32.reduceSub, b01, if_true, if_false, ite_self, nl_add, nl_add', nl_mul, nI_add, in_t, cl_n, le_nn, lt_nn, le_ln, le_nl, lt_nl, lt_ln, eq_nn, eq_nl, in_lit, cl_lit, Nat.le_refl, Nat.add_zero, rc_0, gf_0_0, gf_0_1, gf_0_2, gf_0_3, gf_0_4, gf_0_5, gf_0_6, gf_0_7, gf_0_8, pf_0_8, gf_0_9, pf_0_9, rc_1, gf_1_0, pf_1_0, gf_1_1, gf_1_2, gf_1_3, pf_1_3, gf_1_4, pf_1_4, gf_1_5, pf_1_5, gf_1_6, pf_1_6, gf_1_7, pf_1_7, gf_1_8, gf_1_9, ga_2, wi_2, ga_3, wi_3, rc_64, gf_64_0, pf_64_0, gf_64_1, pf_64_1, gf_64_2, gf_64_3, gf_64_4, gf_64_5, gf_64_6, pf_64_6, gf_64_7, gf_64_8, gf_64_9, c0, show ¬ n ≤ t by omega, w2, w3, hk0, ep]
end S63
