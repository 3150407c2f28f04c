/-! a large certificate: cuts one by one (wip/gencert.py) -/
set_option maxRecDepth 1000000 in
theorem cq_404_0 : cy_404_0.all (cok stp_404 (csOf ct_404) 3 81) = true := by decide +kernel
set_option maxRecDepth 1000000 in
theorem cq_404_1 : cy_404_1.all (cok stp_404 (csOf ct_404) 3 81) = true := by decide +kernel
set_option maxRecDepth 1000000 in
theorem cq_404_2 : cy_404_2.all (cok stp_404 (csOf ct_404) 3 81) = true := by decide +kernel
set_option maxRecDepth 1000000 in
theorem cq_404_3 : cy_404_3.all (cok stp_404 (csOf ct_404) 3 81) = true := by decide +kernel
set_option maxRecDepth 1000000 in
theorem cq_404_4 : cy_404_4.all (cok stp_404 (csOf ct_404) 3 81) = true := by decide +kernel
set_option maxRecDepth 1000000 in
theorem cq_404_5 : cy_404_5.all (cok stp_404 (csOf ct_404) 3 81) = true := by decide +kernel
set_option maxRecDepth 1000000 in
theorem cq_404_6 : cy_404_6.all (cok stp_404 (csOf ct_404) 3 81) = true := by decide +kernel
set_option maxRecDepth 1000000 in
theorem cq_404_7 : cy_404_7.all (cok stp_404 (csOf ct_404) 3 81) = true := by decide +kernel
set_option maxRecDepth 1000000 in
theorem cq_404_8 : cy_404_8.all (cok stp_404 (csOf ct_404) 3 81) = true := by decide +kernel
set_option maxRecDepth 1000000 in
theorem cq_404_9 : cy_404_9.all (cok stp_404 (csOf ct_404) 3 81) = true := by decide +kernel
set_option maxRecDepth 1000000 in
theorem cq_404_10 : cy_404_10.all (cok stp_404 (csOf ct_404) 3 81) = true := by decide +kernel
set_option maxRecDepth 1000000 in
theorem cq_404_11 : cy_404_11.all (cok stp_404 (csOf ct_404) 3 81) = true := by decide +kernel
set_option maxRecDepth 1000000 in
theorem cn_404 : (match eA (mkT vV Lc_404) 335 [.inr (some 94), .inl (1, 200), .inl (1, 1), .inl ((-2147483648), 60)] [((-1), [((1, 152, 0), 1), ((1, 152, 1), 1), ((1, 152, 2), 1), ((1, 153, 0), 1), ((1, 153, 1), 1), ((1, 153, 2), 1)])] [(152, 0), (152, 1), (152, 2), (153, 0), (153, 1), (153, 2)] with | some A => expl stp_404 (csOf ct_404) (rk0 3) 81 A | none => false) = true := by decide +kernel
