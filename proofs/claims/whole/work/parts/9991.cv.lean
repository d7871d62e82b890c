/-! the two constructors, run -/
def ct_chk : Bool := match ct_run1 with
  | some (L, st, h) => ct_L1 L && (ct_s1 st && (decide (h.length = 83) && (match am_rn 300 160 200 kX9_init 0 [.ref 82, am_u] [] h with
    | some (L2, st2, h2) => ct_L2 L2 && (decide (st2.length = 0) && (okH am_lay h2 && ct_vals.all fun p => decide (MH h2 p.1 p.2.1 = p.2.2)))
    | none => false)))
  | none => false
theorem ct_ok : ct_chk = true := by decide +kernel
