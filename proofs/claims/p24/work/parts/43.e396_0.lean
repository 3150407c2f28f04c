/-! a large certificate: cuts one by one (wip/gencert.py) -/
set_option maxRecDepth 1000000 in
theorem cq_396_0 : cy_396_0.all (cok stp_396 (csOf ct_396) 3 81) = true := by decide +kernel
set_option maxRecDepth 1000000 in
theorem cq_396_1 : cy_396_1.all (cok stp_396 (csOf ct_396) 3 81) = true := by decide +kernel
set_option maxRecDepth 1000000 in
theorem cq_396_2 : cy_396_2.all (cok stp_396 (csOf ct_396) 3 81) = true := by decide +kernel
set_option maxRecDepth 1000000 in
theorem cq_396_3 : cy_396_3.all (cok stp_396 (csOf ct_396) 3 81) = true := by decide +kernel
set_option maxRecDepth 1000000 in
theorem cq_396_4 : cy_396_4.all (cok stp_396 (csOf ct_396) 3 81) = true := by decide +kernel
set_option maxRecDepth 1000000 in
theorem cq_396_5 : cy_396_5.all (cok stp_396 (csOf ct_396) 3 81) = true := by decide +kernel
set_option maxRecDepth 1000000 in
theorem cq_396_6 : cy_396_6.all (cok stp_396 (csOf ct_396) 3 81) = true := by decide +kernel
set_option maxRecDepth 1000000 in
theorem cq_396_7 : cy_396_7.all (cok stp_396 (csOf ct_396) 3 81) = true := by decide +kernel
set_option maxRecDepth 1000000 in
theorem cq_396_8 : cy_396_8.all (cok stp_396 (csOf ct_396) 3 81) = true := by decide +kernel
set_option maxRecDepth 1000000 in
theorem cq_396_9 : cy_396_9.all (cok stp_396 (csOf ct_396) 3 81) = true := by decide +kernel
set_option maxRecDepth 1000000 in
theorem cq_396_10 : cy_396_10.all (cok stp_396 (csOf ct_396) 3 81) = true := by decide +kernel
set_option maxRecDepth 1000000 in
theorem cq_396_11 : cy_396_11.all (cok stp_396 (csOf ct_396) 3 81) = true := by decide +kernel
set_option maxRecDepth 1000000 in
theorem cn_396 : (match eA (mkT vV Lc_396) 335 [.inr (some 94), .inl (1, 200), .inl (6, 6), .inl ((-2147483648), 2147483647)] [((-6), [((1, 152, 0), 1), ((1, 152, 1), 1), ((1, 152, 2), 1), ((1, 153, 0), 1), ((1, 153, 1), 1), ((1, 153, 2), 1)])] [(152, 0), (152, 1), (152, 2), (153, 0), (153, 1), (153, 2)] with | some A => expl stp_396 (csOf ct_396) (rk0 3) 81 A | none => false) = true := by decide +kernel
