/-! a large certificate: cuts one by one (wip/gencert.py) -/
set_option maxRecDepth 1000000 in
theorem cq_397_0 : cy_397_0.all (cok stp_397 (csOf ct_397) 3 81) = true := by decide +kernel
set_option maxRecDepth 1000000 in
theorem cq_397_1 : cy_397_1.all (cok stp_397 (csOf ct_397) 3 81) = true := by decide +kernel
set_option maxRecDepth 1000000 in
theorem cq_397_2 : cy_397_2.all (cok stp_397 (csOf ct_397) 3 81) = true := by decide +kernel
set_option maxRecDepth 1000000 in
theorem cq_397_3 : cy_397_3.all (cok stp_397 (csOf ct_397) 3 81) = true := by decide +kernel
set_option maxRecDepth 1000000 in
theorem cq_397_4 : cy_397_4.all (cok stp_397 (csOf ct_397) 3 81) = true := by decide +kernel
set_option maxRecDepth 1000000 in
theorem cq_397_5 : cy_397_5.all (cok stp_397 (csOf ct_397) 3 81) = true := by decide +kernel
set_option maxRecDepth 1000000 in
theorem cq_397_6 : cy_397_6.all (cok stp_397 (csOf ct_397) 3 81) = true := by decide +kernel
set_option maxRecDepth 1000000 in
theorem cq_397_7 : cy_397_7.all (cok stp_397 (csOf ct_397) 3 81) = true := by decide +kernel
set_option maxRecDepth 1000000 in
theorem cq_397_8 : cy_397_8.all (cok stp_397 (csOf ct_397) 3 81) = true := by decide +kernel
set_option maxRecDepth 1000000 in
theorem cq_397_9 : cy_397_9.all (cok stp_397 (csOf ct_397) 3 81) = true := by decide +kernel
set_option maxRecDepth 1000000 in
theorem cq_397_10 : cy_397_10.all (cok stp_397 (csOf ct_397) 3 81) = true := by decide +kernel
set_option maxRecDepth 1000000 in
theorem cq_397_11 : cy_397_11.all (cok stp_397 (csOf ct_397) 3 81) = true := by decide +kernel
set_option maxRecDepth 1000000 in
theorem cn_397 : (match eA (mkT vV Lc_397) 335 [.inr (some 94), .inl (1, 200), .inl (5, 5), .inl ((-2147483648), 2147483647)] [((-5), [((1, 152, 0), 1), ((1, 152, 1), 1), ((1, 152, 2), 1), ((1, 153, 0), 1), ((1, 153, 1), 1), ((1, 153, 2), 1)])] [(152, 0), (152, 1), (152, 2), (153, 0), (153, 1), (153, 2)] with | some A => expl stp_397 (csOf ct_397) (rk0 3) 81 A | none => false) = true := by decide +kernel
