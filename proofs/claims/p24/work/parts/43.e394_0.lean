/-! a large certificate: cuts one by one (wip/gencert.py) -/
set_option maxRecDepth 1000000 in
theorem cq_394_0 : cy_394_0.all (cok stp_394 (csOf ct_394) 3 81) = true := by decide +kernel
set_option maxRecDepth 1000000 in
theorem cq_394_1 : cy_394_1.all (cok stp_394 (csOf ct_394) 3 81) = true := by decide +kernel
set_option maxRecDepth 1000000 in
theorem cq_394_2 : cy_394_2.all (cok stp_394 (csOf ct_394) 3 81) = true := by decide +kernel
set_option maxRecDepth 1000000 in
theorem cq_394_3 : cy_394_3.all (cok stp_394 (csOf ct_394) 3 81) = true := by decide +kernel
set_option maxRecDepth 1000000 in
theorem cq_394_4 : cy_394_4.all (cok stp_394 (csOf ct_394) 3 81) = true := by decide +kernel
set_option maxRecDepth 1000000 in
theorem cq_394_5 : cy_394_5.all (cok stp_394 (csOf ct_394) 3 81) = true := by decide +kernel
set_option maxRecDepth 1000000 in
theorem cq_394_6 : cy_394_6.all (cok stp_394 (csOf ct_394) 3 81) = true := by decide +kernel
set_option maxRecDepth 1000000 in
theorem cq_394_7 : cy_394_7.all (cok stp_394 (csOf ct_394) 3 81) = true := by decide +kernel
set_option maxRecDepth 1000000 in
theorem cq_394_8 : cy_394_8.all (cok stp_394 (csOf ct_394) 3 81) = true := by decide +kernel
set_option maxRecDepth 1000000 in
theorem cq_394_9 : cy_394_9.all (cok stp_394 (csOf ct_394) 3 81) = true := by decide +kernel
set_option maxRecDepth 1000000 in
theorem cq_394_10 : cy_394_10.all (cok stp_394 (csOf ct_394) 3 81) = true := by decide +kernel
set_option maxRecDepth 1000000 in
theorem cq_394_11 : cy_394_11.all (cok stp_394 (csOf ct_394) 3 81) = true := by decide +kernel
set_option maxRecDepth 1000000 in
theorem cn_394 : (match eA (mkT vV Lc_394) 335 [.inr (some 94), .inl (1, 200), .inl (8, 8), .inl ((-2147483648), 2147483647)] [((-8), [((1, 152, 0), 1), ((1, 152, 1), 1), ((1, 152, 2), 1), ((1, 153, 0), 1), ((1, 153, 1), 1), ((1, 153, 2), 1)])] [(152, 0), (152, 1), (152, 2), (153, 0), (153, 1), (153, 2)] with | some A => expl stp_394 (csOf ct_394) (rk0 3) 81 A | none => false) = true := by decide +kernel
