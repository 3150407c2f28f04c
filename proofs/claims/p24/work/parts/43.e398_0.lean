/-! a large certificate: cuts one by one (wip/gencert.py) -/
set_option maxRecDepth 1000000 in
theorem cq_398_0 : cy_398_0.all (cok stp_398 (csOf ct_398) 3 81) = true := by decide +kernel
set_option maxRecDepth 1000000 in
theorem cq_398_1 : cy_398_1.all (cok stp_398 (csOf ct_398) 3 81) = true := by decide +kernel
set_option maxRecDepth 1000000 in
theorem cq_398_2 : cy_398_2.all (cok stp_398 (csOf ct_398) 3 81) = true := by decide +kernel
set_option maxRecDepth 1000000 in
theorem cq_398_3 : cy_398_3.all (cok stp_398 (csOf ct_398) 3 81) = true := by decide +kernel
set_option maxRecDepth 1000000 in
theorem cq_398_4 : cy_398_4.all (cok stp_398 (csOf ct_398) 3 81) = true := by decide +kernel
set_option maxRecDepth 1000000 in
theorem cq_398_5 : cy_398_5.all (cok stp_398 (csOf ct_398) 3 81) = true := by decide +kernel
set_option maxRecDepth 1000000 in
theorem cq_398_6 : cy_398_6.all (cok stp_398 (csOf ct_398) 3 81) = true := by decide +kernel
set_option maxRecDepth 1000000 in
theorem cq_398_7 : cy_398_7.all (cok stp_398 (csOf ct_398) 3 81) = true := by decide +kernel
set_option maxRecDepth 1000000 in
theorem cq_398_8 : cy_398_8.all (cok stp_398 (csOf ct_398) 3 81) = true := by decide +kernel
set_option maxRecDepth 1000000 in
theorem cq_398_9 : cy_398_9.all (cok stp_398 (csOf ct_398) 3 81) = true := by decide +kernel
set_option maxRecDepth 1000000 in
theorem cq_398_10 : cy_398_10.all (cok stp_398 (csOf ct_398) 3 81) = true := by decide +kernel
set_option maxRecDepth 1000000 in
theorem cq_398_11 : cy_398_11.all (cok stp_398 (csOf ct_398) 3 81) = true := by decide +kernel
set_option maxRecDepth 1000000 in
theorem cn_398 : (match eA (mkT vV Lc_398) 335 [.inr (some 94), .inl (1, 200), .inl (4, 4), .inl ((-2147483648), 2147483647)] [((-4), [((1, 152, 0), 1), ((1, 152, 1), 1), ((1, 152, 2), 1), ((1, 153, 0), 1), ((1, 153, 1), 1), ((1, 153, 2), 1)])] [(152, 0), (152, 1), (152, 2), (153, 0), (153, 1), (153, 2)] with | some A => expl stp_398 (csOf ct_398) (rk0 3) 81 A | none => false) = true := by decide +kernel
