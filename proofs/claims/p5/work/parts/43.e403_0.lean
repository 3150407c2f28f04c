/-! a large certificate: cuts one by one (wip/gencert.py) -/
set_option maxRecDepth 1000000 in
theorem cq_403_0 : cy_403_0.all (cok stp_403 (csOf ct_403) 3 81) = true := by decide +kernel
set_option maxRecDepth 1000000 in
theorem cq_403_1 : cy_403_1.all (cok stp_403 (csOf ct_403) 3 81) = true := by decide +kernel
set_option maxRecDepth 1000000 in
theorem cq_403_2 : cy_403_2.all (cok stp_403 (csOf ct_403) 3 81) = true := by decide +kernel
set_option maxRecDepth 1000000 in
theorem cq_403_3 : cy_403_3.all (cok stp_403 (csOf ct_403) 3 81) = true := by decide +kernel
set_option maxRecDepth 1000000 in
theorem cq_403_4 : cy_403_4.all (cok stp_403 (csOf ct_403) 3 81) = true := by decide +kernel
set_option maxRecDepth 1000000 in
theorem cq_403_5 : cy_403_5.all (cok stp_403 (csOf ct_403) 3 81) = true := by decide +kernel
set_option maxRecDepth 1000000 in
theorem cq_403_6 : cy_403_6.all (cok stp_403 (csOf ct_403) 3 81) = true := by decide +kernel
set_option maxRecDepth 1000000 in
theorem cq_403_7 : cy_403_7.all (cok stp_403 (csOf ct_403) 3 81) = true := by decide +kernel
set_option maxRecDepth 1000000 in
theorem cq_403_8 : cy_403_8.all (cok stp_403 (csOf ct_403) 3 81) = true := by decide +kernel
set_option maxRecDepth 1000000 in
theorem cq_403_9 : cy_403_9.all (cok stp_403 (csOf ct_403) 3 81) = true := by decide +kernel
set_option maxRecDepth 1000000 in
theorem cq_403_10 : cy_403_10.all (cok stp_403 (csOf ct_403) 3 81) = true := by decide +kernel
set_option maxRecDepth 1000000 in
theorem cq_403_11 : cy_403_11.all (cok stp_403 (csOf ct_403) 3 81) = true := by decide +kernel
set_option maxRecDepth 1000000 in
theorem cn_403 : (match eA (mkT vV Lc_403) 335 [.inr (some 94), .inl (1, 200), .inl (2, 2), .inl ((-2147483648), 2147483647)] [((-2), [((1, 152, 0), 1), ((1, 152, 1), 1), ((1, 152, 2), 1), ((1, 153, 0), 1), ((1, 153, 1), 1), ((1, 153, 2), 1)])] [(152, 0), (152, 1), (152, 2), (153, 0), (153, 1), (153, 2)] with | some A => expl stp_403 (csOf ct_403) (rk0 3) 81 A | none => false) = true := by decide +kernel
