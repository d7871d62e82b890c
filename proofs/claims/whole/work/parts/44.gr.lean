/-! growing, purely: guests are (first, span, need) -/
def fc (kd : Nat → Int32) (a : Nat) : Nat → Nat
  | 0 => 0
  | d + 1 => fc kd a d + if kd (a + d) = 2 then 1 else 0
theorem fc_sm (kd : Nat → Int32) (a w : Nat) : sm (fun d => if kd (a + d) = 2 then 1 else 0) w = nI (fc kd a w) := by
  induction w with
  | zero => rfl
  | succ w ih =>
    rw [sm_s, ih, fc, ← nI_add]
    by_cases h : kd (a + w) = 2 <;> simp only [h, if_true, if_false] <;> rfl
theorem fc_le (kd : Nat → Int32) (a w : Nat) : fc kd a w ≤ w := by
  induction w with
  | zero => exact Nat.le_refl 0
  | succ w ih => rw [fc]; split <;> omega
theorem fc_0 {kd : Nat → Int32} {a w : Nat} : fc kd a w = 0 ↔ ∀ d, d < w → kd (a + d) ≠ 2 := by
  induction w with
  | zero => exact ⟨fun _ d hd => by omega, fun _ => rfl⟩
  | succ w ih =>
    rw [fc]
    constructor
    · intro h d hd z
      by_cases hdw : d = w
      · rw [← hdw, if_pos z] at h; omega
      · exact ih.mp (by omega) d (by omega) z
    · intro h
      rw [if_neg (h w (by omega)), ih.mpr (fun d hd => h d (by omega))]
/-- what a guest lacks beyond the tracks that are not flex -/
def lk (kd sz : Nat → Int32) (gap : Int32) (q : Nat × Nat × Int32) : Int32 := (q.2.2 - if q.2.1 ≤ 0 then 0 else (nI q.2.1 - 1) * gap) - sm (fun d => if kd (q.1 + d) = 2 then 0 else sz (q.1 + d)) q.2.1
theorem lk_C {kd sz : Nat → Int32} {gap : Int32} {q : Nat × Nat × Int32} (h : ∀ d, d < q.2.1 → kd (q.1 + d) = 2 → sz (q.1 + d) = 0) : q.2.2 - ((if q.2.1 ≤ 1 then 0 else gap * (nI q.2.1 - 1)) + sm (fun d => sz (q.1 + d)) q.2.1) = lk kd sz gap q := by
  unfold lk
  have e : sm (fun d => sz (q.1 + d)) q.2.1 = sm (fun d => if kd (q.1 + d) = 2 then 0 else sz (q.1 + d)) q.2.1 := by
    refine sm_ext (fun d hd => ?_)
    by_cases hk : kd (q.1 + d) = 2
    · rw [if_pos hk, h d hd hk]
    · rw [if_neg hk]
  have e2 : (if q.2.1 ≤ 1 then (0 : Int32) else gap * (nI q.2.1 - 1)) = if q.2.1 ≤ 0 then 0 else (nI q.2.1 - 1) * gap := by
    by_cases h0 : q.2.1 ≤ 0
    · rw [if_pos (by omega), if_pos h0]
    · rw [if_neg h0]
      by_cases h1 : q.2.1 ≤ 1
      · rw [if_pos h1, show q.2.1 = 1 by omega, show nI 1 - 1 = 0 from rfl, Int32.zero_mul]
      · rw [if_neg h1, Int32.mul_comm]
  rw [e2, ← e, Int32.sub_sub]
theorem sm_ext' {f g : Nat → Int32} {n : Nat} (h : ∀ j, j < n → f j = g j) : sm f n = sm g n := sm_ext h
/-- the growth of one round, guest by guest -/
def gr1 (kd sz : Nat → Int32) (gap : Int32) (v : Nat) (gr : Nat → Int32) (q : Nat × Nat × Int32) : Nat → Int32 :=
  if q.2.1 = v ∧ fc kd q.1 q.2.1 = 0 then (if ac kd q.1 q.2.1 = 0 ∨ lk kd sz gap q ≤ 0 then gr else (dlX kd gr q.1 (lk kd sz gap q) (nI (ac kd q.1 q.2.1)) q.2.1).1) else gr
theorem ac_ext {kd kd' : Nat → Int32} {a w : Nat} (h : ∀ d, d < w → kd (a + d) = kd' (a + d)) : ac kd a w = ac kd' a w := by
  induction w with
  | zero => rfl
  | succ w ih => rw [ac, ac, ih (fun d hd => h d (by omega)), h w (by omega)]
theorem fc_ext {kd kd' : Nat → Int32} {a w : Nat} (h : ∀ d, d < w → kd (a + d) = kd' (a + d)) : fc kd a w = fc kd' a w := by
  induction w with
  | zero => rfl
  | succ w ih => rw [fc, fc, ih (fun d hd => h d (by omega)), h w (by omega)]
theorem dlX_ext {kd kd' gr gr' : Nat → Int32} {a w : Nat} {much many : Int32} (haw : a + w ≤ 12) (hk : ∀ d, d < w → kd (a + d) = kd' (a + d)) (hg : ∀ c, c < 12 → gr c = gr' c) : (dlX kd gr a much many w).2 = (dlX kd' gr' a much many w).2 ∧ ∀ c, c < 12 → (dlX kd gr a much many w).1 c = (dlX kd' gr' a much many w).1 c := by
  induction w with
  | zero => exact ⟨rfl, hg⟩
  | succ w ih =>
    obtain ⟨h1, h2⟩ := ih (by omega) (fun d hd => hk d (by omega))
    rw [dlX, dlX, ← hk w (by omega)]
    by_cases h : kd (a + w) = 1
    · rw [if_pos h, if_pos h]
      dsimp only
      rw [h1, h2 (a + w) (by omega)]
      refine ⟨rfl, fun c hc => ?_⟩
      by_cases hca : c = a + w
      · rw [hca, pk_us, pk_us]
      · rw [pk_un hca, pk_un hca]; exact h2 c hc
    · rw [if_neg h, if_neg h]; exact ⟨h1, h2⟩
theorem gr1_ext {kd kd' sz sz' gr gr' : Nat → Int32} {gap : Int32} {v : Nat} {q : Nat × Nat × Int32} (haw : q.1 + q.2.1 ≤ 12) (hk : ∀ d, d < q.2.1 → kd (q.1 + d) = kd' (q.1 + d)) (hs : ∀ d, d < q.2.1 → sz (q.1 + d) = sz' (q.1 + d)) (hg : ∀ c, c < 12 → gr c = gr' c) : ∀ c, c < 12 → gr1 kd sz gap v gr q c = gr1 kd' sz' gap v gr' q c := by
  intro c hc
  have el : lk kd sz gap q = lk kd' sz' gap q := by
    unfold lk
    rw [sm_ext (fun d hd => by rw [hk d hd, hs d hd])]
  unfold gr1
  rw [fc_ext hk, ac_ext hk, el]
  by_cases h1 : q.2.1 = v ∧ fc kd' q.1 q.2.1 = 0
  · rw [if_pos h1, if_pos h1]
    by_cases h2 : ac kd' q.1 q.2.1 = 0 ∨ lk kd' sz' gap q ≤ 0
    · rw [if_pos h2, if_pos h2]; exact hg c hc
    · rw [if_neg h2, if_neg h2]
      exact (dlX_ext haw hk hg).2 c hc
  · rw [if_neg h1, if_neg h1]; exact hg c hc
/-- the guests: items that stand somewhere, in order; R their firsts, W their spans, N their needs -/
def gst (C : Nat → Int32) (F : Nat → Int32) (W : Nat → Nat) (N : Nat → Int32) : Nat → List (Nat × Nat × Int32)
  | 0 => []
  | i + 1 => if C i = -4 then gst C F W N i else gst C F W N i ++ [((F i).toNatClampNeg, W i, N i)]
theorem gst_len (C F : Nat → Int32) (W : Nat → Nat) (N : Nat → Int32) (m : Nat) : (gst C F W N m).length ≤ m := by
  induction m with
  | zero => exact Nat.le_refl 0
  | succ m ih =>
    rw [gst]
    split
    · omega
    · rw [List.length_append]; simp only [List.length_cons, List.length_nil]; omega
