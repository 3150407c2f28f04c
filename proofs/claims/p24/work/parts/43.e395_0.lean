/-! a large certificate: cuts one by one (wip/gencert.py) -/
set_option maxRecDepth 1000000 in
theorem cq_395_0 : cy_395_0.all (cok stp_395 (csOf ct_395) 3 81) = true := by decide +kernel
set_option maxRecDepth 1000000 in
theorem cq_395_1 : cy_395_1.all (cok stp_395 (csOf ct_395) 3 81) = true := by decide +kernel
set_option maxRecDepth 1000000 in
theorem cq_395_2 : cy_395_2.all (cok stp_395 (csOf ct_395) 3 81) = true := by decide +kernel
set_option maxRecDepth 1000000 in
theorem cq_395_3 : cy_395_3.all (cok stp_395 (csOf ct_395) 3 81) = true := by decide +kernel
set_option maxRecDepth 1000000 in
theorem cq_395_4 : cy_395_4.all (cok stp_395 (csOf ct_395) 3 81) = true := by decide +kernel
set_option maxRecDepth 1000000 in
theorem cq_395_5 : cy_395_5.all (cok stp_395 (csOf ct_395) 3 81) = true := by decide +kernel
set_option maxRecDepth 1000000 in
theorem cq_395_6 : cy_395_6.all (cok stp_395 (csOf ct_395) 3 81) = true := by decide +kernel
set_option maxRecDepth 1000000 in
theorem cq_395_7 : cy_395_7.all (cok stp_395 (csOf ct_395) 3 81) = true := by decide +kernel
set_option maxRecDepth 1000000 in
theorem cq_395_8 : cy_395_8.all (cok stp_395 (csOf ct_395) 3 81) = true := by decide +kernel
set_option maxRecDepth 1000000 in
theorem cq_395_9 : cy_395_9.all (cok stp_395 (csOf ct_395) 3 81) = true := by decide +kernel
set_option maxRecDepth 1000000 in
theorem cq_395_10 : cy_395_10.all (cok stp_395 (csOf ct_395) 3 81) = true := by decide +kernel
set_option maxRecDepth 1000000 in
theorem cq_395_11 : cy_395_11.all (cok stp_395 (csOf ct_395) 3 81) = true := by decide +kernel
set_option maxRecDepth 1000000 in
theorem cn_395 : (match eA (mkT vV Lc_395) 335 [.inr (some 94), .inl (1, 200), .inl (7, 7), .inl ((-2147483648), 2147483647)] [((-7), [((1, 152, 0), 1), ((1, 152, 1), 1), ((1, 152, 2), 1), ((1, 153, 0), 1), ((1, 153, 1), 1), ((1, 153, 2), 1)])] [(152, 0), (152, 1), (152, 2), (153, 0), (153, 1), (153, 2)] with | some A => expl stp_395 (csOf ct_395) (rk0 3) 81 A | none => false) = true := by decide +kernel
