/-- what is to be shown of the machine of numbers: on every script the law's run ends with 1 -/
def am_LAW : Prop := ∀ X : am_X, X.1 ≤ 2560 → (X.2.2 = .null ∨ X.2.2 = .ref 1200) → ∃ (f : Nat) (h' : am_H), am_ex X f kL_law 0 (am_ent kL_law [.ref 3000]) [] [] = some (some (.int 1), h') ∧ h'.length ≤ 1000 ∧ am_sz h' ≤ 100000
theorem am_law_row : am_c kL_law = code ∧ am_ml kL_law = 4 ∧ am_rt kL_law = ret ∧ am_R (am_oc kL_law) = R_law ∧ (am_y kL_law).name ≠ "<init>" ∧ am_fr kL_law = room_1.frames ∧ am_lc kL_law = room_1.locals ∧ am_fit kL_law [.ref 3000] = true := ⟨rfl, rfl, rfl, rfl, by decide, rfl, rfl, by decide⟩
theorem am_start (hlaw : am_LAW) {p : Program} {e : Env} {s : State} {m : MethodId} {below : List Frame} {meth : Method} {c : Code} (l : Launch) {b L : Nat} {xs : Nat → Int32} (hL : L ≤ 2560) (C0 : lw_At p s m meth c b L xs) : W p l e room_1 s m #[Value.ref b] below meth c s.heap [] 0 0 (lw_Z below #[Value.ref b] s) (entryFrame m ([Value.ref b] : List Value).toArray 4) := by
  obtain ⟨hx, hb, hr, hml, hown, hts, hX, hbl, hlocks, hgv⟩ := C0
  obtain ⟨D, tid, σ, fz, hfz, hσ, hK, hSX⟩ := am_entry hts hX hbl hgv
  obtain ⟨f, h', hex, hl1, hl2⟩ := hlaw (L, xs, fz) hL hfz
  obtain ⟨r1, r2, r3, r4, r5, r6, r7, r8⟩ := am_law_row
  have hl := lv_entry [Value.ref b] (n := 4) (Nat.le_of_ble_eq_true rfl)
  rw [lg_entry_eq]
  have hlm : lv_has ((lg_sl [Value.ref b] ++ List.replicate (4 - (lg_sl [Value.ref b]).length) Slot.unset).toArray) (am_ml kL_law) (lv_args 0 ([Value.ref 3000].map (am_vR σ (fun _ => 0)))) := by
    show lv_has _ _ (lv_args 0 [Value.ref (am_ad σ (fun _ => 0) 3000)])
    rw [am_ad_ge (by omega), hσ, r2]
    exact hl
  obtain ⟨hLR, hlen⟩ := am_ent_LR r8 hlm
  refine am_sound (L, xs, fz) D tid σ l f (b := 0) (z := 0) (A := fun q => s.heap.size ≤ q) (ρ := fun _ => 0) hex ⟨⟨hx, by rw [r1]; exact hb, by rw [r2]; exact hml, by rw [r3]; exact hr, by rw [r4]; exact hown, fun w h => hts w (am_G_tbl w h), hlocks, fun q => absurd q r5⟩, fun _ h => h, hK, hSX, r6.symm, r7.symm⟩ ⟨Nat.zero_le _, (fun k q h => by cases h), ⟨(fun i j x y h => by cases h), (fun k q h => by cases h)⟩, va_S.rf, hLR, hlen⟩ ⟨rfl, rfl⟩ ⟨Nat.le_trans hl1 (by decide), Nat.le_trans hl2 (by decide)⟩ ?_
  intro pc' L' st' ρ' H' locs' ls' cells' slots' hret hag hJ hN
  unfold am_ret at hret
  split at hret
  · rename_i hi
    have hdg := am_ins_ok hi
    rw [r1] at hdg
    split at hret
    · split at hret
      · cases hret
        have n1 := hN.1
        have n2 := hN.2
        refine va_forget (fun q hq => hJ.2.2.2.1.2.2 q hq) ?_
        refine W.widen (k := 600000) (n := 7302250) (by omega) (by omega) ?_
        exact lw_ret hx hb hr hlocks hdg
      · cases hret
    · cases hret
  · split at hret <;> cases hret
  · split at hret <;> cases hret
  · cases hret
