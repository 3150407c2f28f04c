/-! a large certificate: cuts one by one (wip/gencert.py) -/
set_option maxRecDepth 1000000 in
theorem cq_400_0 : cy_400_0.all (cok stp_400 (csOf ct_400) 3 81) = true := by decide +kernel
set_option maxRecDepth 1000000 in
theorem cq_400_1 : cy_400_1.all (cok stp_400 (csOf ct_400) 3 81) = true := by decide +kernel
set_option maxRecDepth 1000000 in
theorem cq_400_2 : cy_400_2.all (cok stp_400 (csOf ct_400) 3 81) = true := by decide +kernel
set_option maxRecDepth 1000000 in
theorem cq_400_3 : cy_400_3.all (cok stp_400 (csOf ct_400) 3 81) = true := by decide +kernel
set_option maxRecDepth 1000000 in
theorem cq_400_4 : cy_400_4.all (cok stp_400 (csOf ct_400) 3 81) = true := by decide +kernel
set_option maxRecDepth 1000000 in
theorem cq_400_5 : cy_400_5.all (cok stp_400 (csOf ct_400) 3 81) = true := by decide +kernel
set_option maxRecDepth 1000000 in
theorem cq_400_6 : cy_400_6.all (cok stp_400 (csOf ct_400) 3 81) = true := by decide +kernel
set_option maxRecDepth 1000000 in
theorem cq_400_7 : cy_400_7.all (cok stp_400 (csOf ct_400) 3 81) = true := by decide +kernel
set_option maxRecDepth 1000000 in
theorem cq_400_8 : cy_400_8.all (cok stp_400 (csOf ct_400) 3 81) = true := by decide +kernel
set_option maxRecDepth 1000000 in
theorem cq_400_9 : cy_400_9.all (cok stp_400 (csOf ct_400) 3 81) = true := by decide +kernel
set_option maxRecDepth 1000000 in
theorem cq_400_10 : cy_400_10.all (cok stp_400 (csOf ct_400) 3 81) = true := by decide +kernel
set_option maxRecDepth 1000000 in
theorem cq_400_11 : cy_400_11.all (cok stp_400 (csOf ct_400) 3 81) = true := by decide +kernel
set_option maxRecDepth 1000000 in
theorem cn_400 : (match eA (mkT vV Lc_400) 335 [.inr (some 94), .inl (1, 200), .inl (2, 2), .inl ((-2147483648), 2147483647)] [((-2), [((1, 152, 0), 1), ((1, 152, 1), 1), ((1, 152, 2), 1), ((1, 153, 0), 1), ((1, 153, 1), 1), ((1, 153, 2), 1)])] [(152, 0), (152, 1), (152, 2), (153, 0), (153, 1), (153, 2)] with | some A => expl stp_400 (csOf ct_400) (rk0 3) 81 A | none => false) = true := by decide +kernel
