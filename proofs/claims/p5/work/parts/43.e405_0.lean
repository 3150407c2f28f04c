/-! a large certificate: cuts one by one (wip/gencert.py) -/
set_option maxRecDepth 1000000 in
theorem cq_405_0 : cy_405_0.all (cok stp_405 (csOf ct_405) 3 81) = true := by decide +kernel
set_option maxRecDepth 1000000 in
theorem cq_405_1 : cy_405_1.all (cok stp_405 (csOf ct_405) 3 81) = true := by decide +kernel
set_option maxRecDepth 1000000 in
theorem cq_405_2 : cy_405_2.all (cok stp_405 (csOf ct_405) 3 81) = true := by decide +kernel
set_option maxRecDepth 1000000 in
theorem cq_405_3 : cy_405_3.all (cok stp_405 (csOf ct_405) 3 81) = true := by decide +kernel
set_option maxRecDepth 1000000 in
theorem cq_405_4 : cy_405_4.all (cok stp_405 (csOf ct_405) 3 81) = true := by decide +kernel
set_option maxRecDepth 1000000 in
theorem cq_405_5 : cy_405_5.all (cok stp_405 (csOf ct_405) 3 81) = true := by decide +kernel
set_option maxRecDepth 1000000 in
theorem cq_405_6 : cy_405_6.all (cok stp_405 (csOf ct_405) 3 81) = true := by decide +kernel
set_option maxRecDepth 1000000 in
theorem cq_405_7 : cy_405_7.all (cok stp_405 (csOf ct_405) 3 81) = true := by decide +kernel
set_option maxRecDepth 1000000 in
theorem cq_405_8 : cy_405_8.all (cok stp_405 (csOf ct_405) 3 81) = true := by decide +kernel
set_option maxRecDepth 1000000 in
theorem cq_405_9 : cy_405_9.all (cok stp_405 (csOf ct_405) 3 81) = true := by decide +kernel
set_option maxRecDepth 1000000 in
theorem cq_405_10 : cy_405_10.all (cok stp_405 (csOf ct_405) 3 81) = true := by decide +kernel
set_option maxRecDepth 1000000 in
theorem cq_405_11 : cy_405_11.all (cok stp_405 (csOf ct_405) 3 81) = true := by decide +kernel
set_option maxRecDepth 1000000 in
theorem cn_405 : (match eA (mkT vV Lc_405) 335 [.inr (some 94), .inl (1, 200), .inl (0, 0), .inl (0, 0)] [(0, [((1, 152, 0), 1), ((1, 152, 1), 1), ((1, 152, 2), 1), ((1, 153, 0), 1), ((1, 153, 1), 1), ((1, 153, 2), 1)])] [(152, 0), (152, 1), (152, 2), (153, 0), (153, 1), (153, 2)] with | some A => expl stp_405 (csOf ct_405) (rk0 3) 81 A | none => false) = true := by decide +kernel
