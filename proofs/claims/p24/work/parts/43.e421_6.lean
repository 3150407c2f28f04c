/-! a large certificate: cuts one by one (wip/gencert.py) -/
set_option maxRecDepth 1000000 in
theorem cq_421_48 : cy_421_48.all (cok stp_421 (csOf ct_421) 3 47) = true := by decide +kernel
set_option maxRecDepth 1000000 in
theorem cn_421 : (match eA (mkT vV Lc_421) 347 [.inr (some 94), .inl ((-2147483648), 2147483647), .inl ((-2147483648), 2147483647), .inl ((-2147483648), 2147483647)] [] [] with | some A => expl stp_421 (csOf ct_421) (rk0 3) 47 A | none => false) = true := by decide +kernel
