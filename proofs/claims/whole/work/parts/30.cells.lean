/-! cells of the class's parts, by the place of the object: Grids (1, 15, 28, 40), Axes (64, 72), Sheets (52, 54, 56, 58) -/
def isG (g : Nat) : Prop := g = 1 ∨ g = 15 ∨ g = 28 ∨ g = 40
def isA (g : Nat) : Prop := g = 64 ∨ g = 72
def isH (g : Nat) : Prop := g = 52 ∨ g = 54 ∨ g = 56 ∨ g = 58
section S30
variable {X : am_X} {M : Nat → Nat → Int32} {g : Nat} {i x : Int32}
theorem layG (hg : isG g) : am_lay[g]? = some (1000 + 1, 10, [none, some (g + 1), some (g + 2), none, none, none, none, none, some (g + 3), some (g + 10)]) := by rcases hg with rfl | rfl | rfl | rfl <;> rfl
theorem layGk (hg : isG g) : am_lay[g + 1]? = some (0, 6, []) := by rcases hg with rfl | rfl | rfl | rfl <;> rfl
theorem layGn (hg : isG g) : am_lay[g + 2]? = some (0, 6, []) := by rcases hg with rfl | rfl | rfl | rfl <;> rfl
theorem layGf (hg : isG g) : am_lay[g + 3]? = some (5, 6, [some (g + 4), some (g + 4 + 1), some (g + 4 + 2), some (g + 4 + 3), some (g + 4 + 4), some (g + 4 + 5)]) := by rcases hg with rfl | rfl | rfl | rfl <;> rfl
theorem layGr (hg : isG g) {w : Nat} (hw : w < 6) : am_lay[g + 4 + w]? = some (0, 10, []) := by
  rcases hg with rfl | rfl | rfl | rfl <;> (match w, hw with
    | 0, _ => rfl
    | 1, _ => rfl
    | 2, _ => rfl
    | 3, _ => rfl
    | 4, _ => rfl
    | 5, _ => rfl)
theorem layGl (hg : isG g) : am_lay[g + 10]? = some (0, 8, []) := by rcases hg with rfl | rfl | rfl | rfl <;> rfl
theorem rcG (hg : isG g) : am_rcv (hp M) 1 (some (.ref g)) = true := rcv_hp (layG hg)
theorem gG0 (hg : isG g) : am_gf (hp M) g 1 0 = some (.int (M g 0)) := gfi_hp (layG hg) rfl
theorem gG1 (hg : isG g) : am_gf (hp M) g 1 1 = some (.ref (g + 1)) := gfr_hp (layG hg) rfl
theorem gG2 (hg : isG g) : am_gf (hp M) g 1 2 = some (.ref (g + 2)) := gfr_hp (layG hg) rfl
theorem gG3 (hg : isG g) : am_gf (hp M) g 1 3 = some (.int (M g 3)) := gfi_hp (layG hg) rfl
theorem gG4 (hg : isG g) : am_gf (hp M) g 1 4 = some (.int (M g 4)) := gfi_hp (layG hg) rfl
theorem gG5 (hg : isG g) : am_gf (hp M) g 1 5 = some (.int (M g 5)) := gfi_hp (layG hg) rfl
theorem gG6 (hg : isG g) : am_gf (hp M) g 1 6 = some (.int (M g 6)) := gfi_hp (layG hg) rfl
theorem gG7 (hg : isG g) : am_gf (hp M) g 1 7 = some (.int (M g 7)) := gfi_hp (layG hg) rfl
theorem gG8 (hg : isG g) : am_gf (hp M) g 1 8 = some (.ref (g + 3)) := gfr_hp (layG hg) rfl
theorem gG9 (hg : isG g) : am_gf (hp M) g 1 9 = some (.ref (g + 10)) := gfr_hp (layG hg) rfl
theorem pG0 (hg : isG g) : am_pf (hp M) g 1 0 (.int x) = some (hp (up M g 0 x)) := pf_hp (layG hg) rfl (by decide +kernel)
theorem pG3 (hg : isG g) : am_pf (hp M) g 1 3 (.int x) = some (hp (up M g 3 x)) := pf_hp (layG hg) rfl (by decide +kernel)
theorem pG4 (hg : isG g) : am_pf (hp M) g 1 4 (.int x) = some (hp (up M g 4 x)) := pf_hp (layG hg) rfl (by decide +kernel)
theorem pG5 (hg : isG g) : am_pf (hp M) g 1 5 (.int x) = some (hp (up M g 5 x)) := pf_hp (layG hg) rfl (by decide +kernel)
theorem pG6 (hg : isG g) : am_pf (hp M) g 1 6 (.int x) = some (hp (up M g 6 x)) := pf_hp (layG hg) rfl (by decide +kernel)
theorem pG7 (hg : isG g) : am_pf (hp M) g 1 7 (.int x) = some (hp (up M g 7 x)) := pf_hp (layG hg) rfl (by decide +kernel)
theorem aGk (hg : isG g) : am_ga X (hp M) (g + 1) = some (0, 6, M (g + 1)) := ga_hp (layGk hg) (by decide)
theorem aGn (hg : isG g) : am_ga X (hp M) (g + 2) = some (0, 6, M (g + 2)) := ga_hp (layGn hg) (by decide)
theorem aGl (hg : isG g) : am_ga X (hp M) (g + 10) = some (0, 8, M (g + 10)) := ga_hp (layGl hg) (by decide)
theorem aGr (hg : isG g) {w : Nat} (hw : w < 6) : am_ga X (hp M) (g + 4 + w) = some (0, 10, M (g + 4 + w)) := ga_hp (layGr hg hw) (by decide)
theorem aGr0 (hg : isG g) : am_ga X (hp M) (g + 4) = some (0, 10, M (g + 4)) := aGr (w := 0) hg (by decide)
theorem wGk (hg : isG g) : am_wi (hp M) (g + 1) i x = if am_in i 6 = true then some (hp (up M (g + 1) i.toNatClampNeg x)) else none := wi_hp (layGk hg)
theorem wGn (hg : isG g) : am_wi (hp M) (g + 2) i x = if am_in i 6 = true then some (hp (up M (g + 2) i.toNatClampNeg x)) else none := wi_hp (layGn hg)
theorem wGl (hg : isG g) : am_wi (hp M) (g + 10) i x = if am_in i 8 = true then some (hp (up M (g + 10) i.toNatClampNeg x)) else none := wi_hp (layGl hg)
theorem wGr (hg : isG g) {w : Nat} (hw : w < 6) : am_wi (hp M) (g + 4 + w) i x = if am_in i 10 = true then some (hp (up M (g + 4 + w) i.toNatClampNeg x)) else none := wi_hp (layGr hg hw)
theorem wGr0 (hg : isG g) : am_wi (hp M) (g + 4) i x = if am_in i 10 = true then some (hp (up M (g + 4) i.toNatClampNeg x)) else none := wGr (w := 0) hg (by decide)
/-- a row of the facts -/
theorem fG (hg : isG g) {w : Nat} (hw : w < 6) {K : Value → Option am_Q} : am_ela (am_gq (hp M) (g + 3)) (nI w) K = K (.ref (g + 4 + w)) := by
  rw [gq_hp (layGf hg) (by decide)]
  unfold am_ela
  dsimp only
  rw [if_pos ⟨by decide, in_t hw (by decide)⟩, cl_n (by omega), if_pos hw]
  match w, hw with
  | 0, _ => rfl
  | 1, _ => rfl
  | 2, _ => rfl
  | 3, _ => rfl
  | 4, _ => rfl
  | 5, _ => rfl
theorem fG0 (hg : isG g) {K : Value → Option am_Q} : am_ela (am_gq (hp M) (g + 3)) 0 K = K (.ref (g + 4)) := fG (w := 0) hg (by decide)
theorem fG1 (hg : isG g) {K : Value → Option am_Q} : am_ela (am_gq (hp M) (g + 3)) 1 K = K (.ref (g + 4 + 1)) := fG (w := 1) hg (by decide)
theorem fG2 (hg : isG g) {K : Value → Option am_Q} : am_ela (am_gq (hp M) (g + 3)) 2 K = K (.ref (g + 4 + 2)) := fG (w := 2) hg (by decide)
theorem fG3 (hg : isG g) {K : Value → Option am_Q} : am_ela (am_gq (hp M) (g + 3)) 3 K = K (.ref (g + 4 + 3)) := fG (w := 3) hg (by decide)
theorem fG4 (hg : isG g) {K : Value → Option am_Q} : am_ela (am_gq (hp M) (g + 3)) 4 K = K (.ref (g + 4 + 4)) := fG (w := 4) hg (by decide)
theorem fG5 (hg : isG g) {K : Value → Option am_Q} : am_ela (am_gq (hp M) (g + 3)) 5 K = K (.ref (g + 4 + 5)) := fG (w := 5) hg (by decide)
theorem aGr1 (hg : isG g) : am_ga X (hp M) (g + 4 + 1) = some (0, 10, M (g + 4 + 1)) := aGr (w := 1) hg (by decide)
theorem aGr2 (hg : isG g) : am_ga X (hp M) (g + 4 + 2) = some (0, 10, M (g + 4 + 2)) := aGr (w := 2) hg (by decide)
theorem aGr3 (hg : isG g) : am_ga X (hp M) (g + 4 + 3) = some (0, 10, M (g + 4 + 3)) := aGr (w := 3) hg (by decide)
theorem aGr4 (hg : isG g) : am_ga X (hp M) (g + 4 + 4) = some (0, 10, M (g + 4 + 4)) := aGr (w := 4) hg (by decide)
theorem aGr5 (hg : isG g) : am_ga X (hp M) (g + 4 + 5) = some (0, 10, M (g + 4 + 5)) := aGr (w := 5) hg (by decide)
theorem wGr1 (hg : isG g) : am_wi (hp M) (g + 4 + 1) i x = if am_in i 10 = true then some (hp (up M (g + 4 + 1) i.toNatClampNeg x)) else none := wGr (w := 1) hg (by decide)
theorem wGr2 (hg : isG g) : am_wi (hp M) (g + 4 + 2) i x = if am_in i 10 = true then some (hp (up M (g + 4 + 2) i.toNatClampNeg x)) else none := wGr (w := 2) hg (by decide)
theorem wGr3 (hg : isG g) : am_wi (hp M) (g + 4 + 3) i x = if am_in i 10 = true then some (hp (up M (g + 4 + 3) i.toNatClampNeg x)) else none := wGr (w := 3) hg (by decide)
theorem wGr4 (hg : isG g) : am_wi (hp M) (g + 4 + 4) i x = if am_in i 10 = true then some (hp (up M (g + 4 + 4) i.toNatClampNeg x)) else none := wGr (w := 4) hg (by decide)
theorem wGr5 (hg : isG g) : am_wi (hp M) (g + 4 + 5) i x = if am_in i 10 = true then some (hp (up M (g + 4 + 5) i.toNatClampNeg x)) else none := wGr (w := 5) hg (by decide)
theorem layA (hg : isA g) : am_lay[g]? = some (1000 + 0, 10, [none, none, some (g + 1), some (g + 2), some (g + 3), some (g + 4), none, some (g + 5), some (g + 6), some (g + 7)]) := by rcases hg with rfl | rfl <;> rfl
theorem layA1 (hg : isA g) : am_lay[g + 1]? = some (0, 12, []) := by rcases hg with rfl | rfl <;> rfl
theorem layA2 (hg : isA g) : am_lay[g + 2]? = some (0, 12, []) := by rcases hg with rfl | rfl <;> rfl
theorem layA3 (hg : isA g) : am_lay[g + 3]? = some (0, 12, []) := by rcases hg with rfl | rfl <;> rfl
theorem layA4 (hg : isA g) : am_lay[g + 4]? = some (0, 12, []) := by rcases hg with rfl | rfl <;> rfl
theorem layA5 (hg : isA g) : am_lay[g + 5]? = some (0, 10, []) := by rcases hg with rfl | rfl <;> rfl
theorem layA6 (hg : isA g) : am_lay[g + 6]? = some (0, 10, []) := by rcases hg with rfl | rfl <;> rfl
theorem layA7 (hg : isA g) : am_lay[g + 7]? = some (0, 10, []) := by rcases hg with rfl | rfl <;> rfl
theorem rcA (hg : isA g) : am_rcv (hp M) 0 (some (.ref g)) = true := rcv_hp (layA hg)
theorem gA0 (hg : isA g) : am_gf (hp M) g 0 0 = some (.int (M g 0)) := gfi_hp (layA hg) rfl
theorem gA1 (hg : isA g) : am_gf (hp M) g 0 1 = some (.int (M g 1)) := gfi_hp (layA hg) rfl
theorem gA2 (hg : isA g) : am_gf (hp M) g 0 2 = some (.ref (g + 1)) := gfr_hp (layA hg) rfl
theorem gA3 (hg : isA g) : am_gf (hp M) g 0 3 = some (.ref (g + 2)) := gfr_hp (layA hg) rfl
theorem gA4 (hg : isA g) : am_gf (hp M) g 0 4 = some (.ref (g + 3)) := gfr_hp (layA hg) rfl
theorem gA5 (hg : isA g) : am_gf (hp M) g 0 5 = some (.ref (g + 4)) := gfr_hp (layA hg) rfl
theorem gA6 (hg : isA g) : am_gf (hp M) g 0 6 = some (.int (M g 6)) := gfi_hp (layA hg) rfl
theorem gA7 (hg : isA g) : am_gf (hp M) g 0 7 = some (.ref (g + 5)) := gfr_hp (layA hg) rfl
theorem gA8 (hg : isA g) : am_gf (hp M) g 0 8 = some (.ref (g + 6)) := gfr_hp (layA hg) rfl
theorem gA9 (hg : isA g) : am_gf (hp M) g 0 9 = some (.ref (g + 7)) := gfr_hp (layA hg) rfl
theorem pA0 (hg : isA g) : am_pf (hp M) g 0 0 (.int x) = some (hp (up M g 0 x)) := pf_hp (layA hg) rfl (by decide +kernel)
theorem pA1 (hg : isA g) : am_pf (hp M) g 0 1 (.int x) = some (hp (up M g 1 x)) := pf_hp (layA hg) rfl (by decide +kernel)
theorem pA6 (hg : isA g) : am_pf (hp M) g 0 6 (.int x) = some (hp (up M g 6 x)) := pf_hp (layA hg) rfl (by decide +kernel)
theorem aA1 (hg : isA g) : am_ga X (hp M) (g + 1) = some (0, 12, M (g + 1)) := ga_hp (layA1 hg) (by decide)
theorem aA2 (hg : isA g) : am_ga X (hp M) (g + 2) = some (0, 12, M (g + 2)) := ga_hp (layA2 hg) (by decide)
theorem aA3 (hg : isA g) : am_ga X (hp M) (g + 3) = some (0, 12, M (g + 3)) := ga_hp (layA3 hg) (by decide)
theorem aA4 (hg : isA g) : am_ga X (hp M) (g + 4) = some (0, 12, M (g + 4)) := ga_hp (layA4 hg) (by decide)
theorem aA5 (hg : isA g) : am_ga X (hp M) (g + 5) = some (0, 10, M (g + 5)) := ga_hp (layA5 hg) (by decide)
theorem aA6 (hg : isA g) : am_ga X (hp M) (g + 6) = some (0, 10, M (g + 6)) := ga_hp (layA6 hg) (by decide)
theorem aA7 (hg : isA g) : am_ga X (hp M) (g + 7) = some (0, 10, M (g + 7)) := ga_hp (layA7 hg) (by decide)
theorem wA1 (hg : isA g) : am_wi (hp M) (g + 1) i x = if am_in i 12 = true then some (hp (up M (g + 1) i.toNatClampNeg x)) else none := wi_hp (layA1 hg)
theorem wA2 (hg : isA g) : am_wi (hp M) (g + 2) i x = if am_in i 12 = true then some (hp (up M (g + 2) i.toNatClampNeg x)) else none := wi_hp (layA2 hg)
theorem wA3 (hg : isA g) : am_wi (hp M) (g + 3) i x = if am_in i 12 = true then some (hp (up M (g + 3) i.toNatClampNeg x)) else none := wi_hp (layA3 hg)
theorem wA4 (hg : isA g) : am_wi (hp M) (g + 4) i x = if am_in i 12 = true then some (hp (up M (g + 4) i.toNatClampNeg x)) else none := wi_hp (layA4 hg)
theorem wA5 (hg : isA g) : am_wi (hp M) (g + 5) i x = if am_in i 10 = true then some (hp (up M (g + 5) i.toNatClampNeg x)) else none := wi_hp (layA5 hg)
theorem wA6 (hg : isA g) : am_wi (hp M) (g + 6) i x = if am_in i 10 = true then some (hp (up M (g + 6) i.toNatClampNeg x)) else none := wi_hp (layA6 hg)
theorem wA7 (hg : isA g) : am_wi (hp M) (g + 7) i x = if am_in i 10 = true then some (hp (up M (g + 7) i.toNatClampNeg x)) else none := wi_hp (layA7 hg)
theorem layH (hg : isH g) : am_lay[g]? = some (1000 + 5, 3, [some (g + 1), none, none]) := by rcases hg with rfl | rfl | rfl | rfl <;> rfl
theorem layH1 (hg : isH g) : am_lay[g + 1]? = some (0, 40, []) := by rcases hg with rfl | rfl | rfl | rfl <;> rfl
theorem rcH (hg : isH g) : am_rcv (hp M) 5 (some (.ref g)) = true := rcv_hp (layH hg)
theorem gH0 (hg : isH g) : am_gf (hp M) g 5 0 = some (.ref (g + 1)) := gfr_hp (layH hg) rfl
theorem gH1 (hg : isH g) : am_gf (hp M) g 5 1 = some (.int (M g 1)) := gfi_hp (layH hg) rfl
theorem gH2 (hg : isH g) : am_gf (hp M) g 5 2 = some (.int (M g 2)) := gfi_hp (layH hg) rfl
theorem pH1 (hg : isH g) : am_pf (hp M) g 5 1 (.int x) = some (hp (up M g 1 x)) := pf_hp (layH hg) rfl (by decide +kernel)
theorem pH2 (hg : isH g) : am_pf (hp M) g 5 2 (.int x) = some (hp (up M g 2 x)) := pf_hp (layH hg) rfl (by decide +kernel)
theorem aH1 (hg : isH g) : am_ga X (hp M) (g + 1) = some (0, 40, M (g + 1)) := ga_hp (layH1 hg) (by decide)
theorem wH1 (hg : isH g) : am_wi (hp M) (g + 1) i x = if am_in i 40 = true then some (hp (up M (g + 1) i.toNatClampNeg x)) else none := wi_hp (layH1 hg)
end S30
