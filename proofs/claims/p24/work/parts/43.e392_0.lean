/-! a large certificate: cuts one by one (wip/gencert.py) -/
set_option maxRecDepth 1000000 in
theorem cq_392_0 : cy_392_0.all (cok stp_392 (csOf ct_392) 3 81) = true := by decide +kernel
set_option maxRecDepth 1000000 in
theorem cq_392_1 : cy_392_1.all (cok stp_392 (csOf ct_392) 3 81) = true := by decide +kernel
set_option maxRecDepth 1000000 in
theorem cq_392_2 : cy_392_2.all (cok stp_392 (csOf ct_392) 3 81) = true := by decide +kernel
set_option maxRecDepth 1000000 in
theorem cq_392_3 : cy_392_3.all (cok stp_392 (csOf ct_392) 3 81) = true := by decide +kernel
set_option maxRecDepth 1000000 in
theorem cq_392_4 : cy_392_4.all (cok stp_392 (csOf ct_392) 3 81) = true := by decide +kernel
set_option maxRecDepth 1000000 in
theorem cq_392_5 : cy_392_5.all (cok stp_392 (csOf ct_392) 3 81) = true := by decide +kernel
set_option maxRecDepth 1000000 in
theorem cq_392_6 : cy_392_6.all (cok stp_392 (csOf ct_392) 3 81) = true := by decide +kernel
set_option maxRecDepth 1000000 in
theorem cq_392_7 : cy_392_7.all (cok stp_392 (csOf ct_392) 3 81) = true := by decide +kernel
set_option maxRecDepth 1000000 in
theorem cq_392_8 : cy_392_8.all (cok stp_392 (csOf ct_392) 3 81) = true := by decide +kernel
set_option maxRecDepth 1000000 in
theorem cq_392_9 : cy_392_9.all (cok stp_392 (csOf ct_392) 3 81) = true := by decide +kernel
set_option maxRecDepth 1000000 in
theorem cq_392_10 : cy_392_10.all (cok stp_392 (csOf ct_392) 3 81) = true := by decide +kernel
set_option maxRecDepth 1000000 in
theorem cq_392_11 : cy_392_11.all (cok stp_392 (csOf ct_392) 3 81) = true := by decide +kernel
set_option maxRecDepth 1000000 in
theorem cn_392 : (match eA (mkT vV Lc_392) 335 [.inr (some 94), .inl (1, 200), .inl (10, 10), .inl ((-2147483648), 2147483647)] [((-10), [((1, 152, 0), 1), ((1, 152, 1), 1), ((1, 152, 2), 1), ((1, 153, 0), 1), ((1, 153, 1), 1), ((1, 153, 2), 1)])] [(152, 0), (152, 1), (152, 2), (153, 0), (153, 1), (153, 2)] with | some A => expl stp_392 (csOf ct_392) (rk0 3) 81 A | none => false) = true := by decide +kernel
