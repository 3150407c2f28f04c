/-! a large certificate: cuts one by one (wip/gencert.py) -/
set_option maxRecDepth 1000000 in
theorem cq_393_0 : cy_393_0.all (cok stp_393 (csOf ct_393) 3 81) = true := by decide +kernel
set_option maxRecDepth 1000000 in
theorem cq_393_1 : cy_393_1.all (cok stp_393 (csOf ct_393) 3 81) = true := by decide +kernel
set_option maxRecDepth 1000000 in
theorem cq_393_2 : cy_393_2.all (cok stp_393 (csOf ct_393) 3 81) = true := by decide +kernel
set_option maxRecDepth 1000000 in
theorem cq_393_3 : cy_393_3.all (cok stp_393 (csOf ct_393) 3 81) = true := by decide +kernel
set_option maxRecDepth 1000000 in
theorem cq_393_4 : cy_393_4.all (cok stp_393 (csOf ct_393) 3 81) = true := by decide +kernel
set_option maxRecDepth 1000000 in
theorem cq_393_5 : cy_393_5.all (cok stp_393 (csOf ct_393) 3 81) = true := by decide +kernel
set_option maxRecDepth 1000000 in
theorem cq_393_6 : cy_393_6.all (cok stp_393 (csOf ct_393) 3 81) = true := by decide +kernel
set_option maxRecDepth 1000000 in
theorem cq_393_7 : cy_393_7.all (cok stp_393 (csOf ct_393) 3 81) = true := by decide +kernel
set_option maxRecDepth 1000000 in
theorem cq_393_8 : cy_393_8.all (cok stp_393 (csOf ct_393) 3 81) = true := by decide +kernel
set_option maxRecDepth 1000000 in
theorem cq_393_9 : cy_393_9.all (cok stp_393 (csOf ct_393) 3 81) = true := by decide +kernel
set_option maxRecDepth 1000000 in
theorem cq_393_10 : cy_393_10.all (cok stp_393 (csOf ct_393) 3 81) = true := by decide +kernel
set_option maxRecDepth 1000000 in
theorem cq_393_11 : cy_393_11.all (cok stp_393 (csOf ct_393) 3 81) = true := by decide +kernel
set_option maxRecDepth 1000000 in
theorem cn_393 : (match eA (mkT vV Lc_393) 335 [.inr (some 94), .inl (1, 200), .inl (9, 9), .inl ((-2147483648), 2147483647)] [((-9), [((1, 152, 0), 1), ((1, 152, 1), 1), ((1, 152, 2), 1), ((1, 153, 0), 1), ((1, 153, 1), 1), ((1, 153, 2), 1)])] [(152, 0), (152, 1), (152, 2), (153, 0), (153, 1), (153, 2)] with | some A => expl stp_393 (csOf ct_393) (rk0 3) 81 A | none => false) = true := by decide +kernel
