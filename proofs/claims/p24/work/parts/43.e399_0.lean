/-! a large certificate: cuts one by one (wip/gencert.py) -/
set_option maxRecDepth 1000000 in
theorem cq_399_0 : cy_399_0.all (cok stp_399 (csOf ct_399) 3 81) = true := by decide +kernel
set_option maxRecDepth 1000000 in
theorem cq_399_1 : cy_399_1.all (cok stp_399 (csOf ct_399) 3 81) = true := by decide +kernel
set_option maxRecDepth 1000000 in
theorem cq_399_2 : cy_399_2.all (cok stp_399 (csOf ct_399) 3 81) = true := by decide +kernel
set_option maxRecDepth 1000000 in
theorem cq_399_3 : cy_399_3.all (cok stp_399 (csOf ct_399) 3 81) = true := by decide +kernel
set_option maxRecDepth 1000000 in
theorem cq_399_4 : cy_399_4.all (cok stp_399 (csOf ct_399) 3 81) = true := by decide +kernel
set_option maxRecDepth 1000000 in
theorem cq_399_5 : cy_399_5.all (cok stp_399 (csOf ct_399) 3 81) = true := by decide +kernel
set_option maxRecDepth 1000000 in
theorem cq_399_6 : cy_399_6.all (cok stp_399 (csOf ct_399) 3 81) = true := by decide +kernel
set_option maxRecDepth 1000000 in
theorem cq_399_7 : cy_399_7.all (cok stp_399 (csOf ct_399) 3 81) = true := by decide +kernel
set_option maxRecDepth 1000000 in
theorem cq_399_8 : cy_399_8.all (cok stp_399 (csOf ct_399) 3 81) = true := by decide +kernel
set_option maxRecDepth 1000000 in
theorem cq_399_9 : cy_399_9.all (cok stp_399 (csOf ct_399) 3 81) = true := by decide +kernel
set_option maxRecDepth 1000000 in
theorem cq_399_10 : cy_399_10.all (cok stp_399 (csOf ct_399) 3 81) = true := by decide +kernel
set_option maxRecDepth 1000000 in
theorem cq_399_11 : cy_399_11.all (cok stp_399 (csOf ct_399) 3 81) = true := by decide +kernel
set_option maxRecDepth 1000000 in
theorem cn_399 : (match eA (mkT vV Lc_399) 335 [.inr (some 94), .inl (1, 200), .inl (3, 3), .inl ((-2147483648), 2147483647)] [((-3), [((1, 152, 0), 1), ((1, 152, 1), 1), ((1, 152, 2), 1), ((1, 153, 0), 1), ((1, 153, 1), 1), ((1, 153, 2), 1)])] [(152, 0), (152, 1), (152, 2), (153, 0), (153, 1), (153, 2)] with | some A => expl stp_399 (csOf ct_399) (rk0 3) 81 A | none => false) = true := by decide +kernel
