/-! a large certificate: cuts one by one (wip/gencert.py) -/
set_option maxRecDepth 1000000 in
theorem cq_402_0 : cy_402_0.all (cok stp_402 (csOf ct_402) 3 81) = true := by decide +kernel
set_option maxRecDepth 1000000 in
theorem cq_402_1 : cy_402_1.all (cok stp_402 (csOf ct_402) 3 81) = true := by decide +kernel
set_option maxRecDepth 1000000 in
theorem cq_402_2 : cy_402_2.all (cok stp_402 (csOf ct_402) 3 81) = true := by decide +kernel
set_option maxRecDepth 1000000 in
theorem cq_402_3 : cy_402_3.all (cok stp_402 (csOf ct_402) 3 81) = true := by decide +kernel
set_option maxRecDepth 1000000 in
theorem cq_402_4 : cy_402_4.all (cok stp_402 (csOf ct_402) 3 81) = true := by decide +kernel
set_option maxRecDepth 1000000 in
theorem cq_402_5 : cy_402_5.all (cok stp_402 (csOf ct_402) 3 81) = true := by decide +kernel
set_option maxRecDepth 1000000 in
theorem cq_402_6 : cy_402_6.all (cok stp_402 (csOf ct_402) 3 81) = true := by decide +kernel
set_option maxRecDepth 1000000 in
theorem cq_402_7 : cy_402_7.all (cok stp_402 (csOf ct_402) 3 81) = true := by decide +kernel
set_option maxRecDepth 1000000 in
theorem cq_402_8 : cy_402_8.all (cok stp_402 (csOf ct_402) 3 81) = true := by decide +kernel
set_option maxRecDepth 1000000 in
theorem cq_402_9 : cy_402_9.all (cok stp_402 (csOf ct_402) 3 81) = true := by decide +kernel
set_option maxRecDepth 1000000 in
theorem cq_402_10 : cy_402_10.all (cok stp_402 (csOf ct_402) 3 81) = true := by decide +kernel
set_option maxRecDepth 1000000 in
theorem cq_402_11 : cy_402_11.all (cok stp_402 (csOf ct_402) 3 81) = true := by decide +kernel
set_option maxRecDepth 1000000 in
theorem cn_402 : (match eA (mkT vV Lc_402) 335 [.inr (some 94), .inl (1, 200), .inl (0, 0), .inl (0, 0)] [(0, [((1, 152, 0), 1), ((1, 152, 1), 1), ((1, 152, 2), 1), ((1, 153, 0), 1), ((1, 153, 1), 1), ((1, 153, 2), 1)])] [(152, 0), (152, 1), (152, 2), (153, 0), (153, 1), (153, 2)] with | some A => expl stp_402 (csOf ct_402) (rk0 3) 81 A | none => false) = true := by decide +kernel
