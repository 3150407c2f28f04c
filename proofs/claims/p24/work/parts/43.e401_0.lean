/-! a large certificate: cuts one by one (wip/gencert.py) -/
set_option maxRecDepth 1000000 in
theorem cq_401_0 : cy_401_0.all (cok stp_401 (csOf ct_401) 3 81) = true := by decide +kernel
set_option maxRecDepth 1000000 in
theorem cq_401_1 : cy_401_1.all (cok stp_401 (csOf ct_401) 3 81) = true := by decide +kernel
set_option maxRecDepth 1000000 in
theorem cq_401_2 : cy_401_2.all (cok stp_401 (csOf ct_401) 3 81) = true := by decide +kernel
set_option maxRecDepth 1000000 in
theorem cq_401_3 : cy_401_3.all (cok stp_401 (csOf ct_401) 3 81) = true := by decide +kernel
set_option maxRecDepth 1000000 in
theorem cq_401_4 : cy_401_4.all (cok stp_401 (csOf ct_401) 3 81) = true := by decide +kernel
set_option maxRecDepth 1000000 in
theorem cq_401_5 : cy_401_5.all (cok stp_401 (csOf ct_401) 3 81) = true := by decide +kernel
set_option maxRecDepth 1000000 in
theorem cq_401_6 : cy_401_6.all (cok stp_401 (csOf ct_401) 3 81) = true := by decide +kernel
set_option maxRecDepth 1000000 in
theorem cq_401_7 : cy_401_7.all (cok stp_401 (csOf ct_401) 3 81) = true := by decide +kernel
set_option maxRecDepth 1000000 in
theorem cq_401_8 : cy_401_8.all (cok stp_401 (csOf ct_401) 3 81) = true := by decide +kernel
set_option maxRecDepth 1000000 in
theorem cq_401_9 : cy_401_9.all (cok stp_401 (csOf ct_401) 3 81) = true := by decide +kernel
set_option maxRecDepth 1000000 in
theorem cq_401_10 : cy_401_10.all (cok stp_401 (csOf ct_401) 3 81) = true := by decide +kernel
set_option maxRecDepth 1000000 in
theorem cq_401_11 : cy_401_11.all (cok stp_401 (csOf ct_401) 3 81) = true := by decide +kernel
set_option maxRecDepth 1000000 in
theorem cn_401 : (match eA (mkT vV Lc_401) 335 [.inr (some 94), .inl (1, 200), .inl (1, 1), .inl ((-2147483648), 60)] [((-1), [((1, 152, 0), 1), ((1, 152, 1), 1), ((1, 152, 2), 1), ((1, 153, 0), 1), ((1, 153, 1), 1), ((1, 153, 2), 1)])] [(152, 0), (152, 1), (152, 2), (153, 0), (153, 1), (153, 2)] with | some A => expl stp_401 (csOf ct_401) (rk0 3) 81 A | none => false) = true := by decide +kernel
