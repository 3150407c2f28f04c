/-! a large certificate: cuts one by one (wip/gencert.py) -/
set_option maxRecDepth 1000000 in
theorem cq_332_0 : cy_332_0.all (cok stp_332 (csOf ct_332) 7 43) = true := by decide +kernel
set_option maxRecDepth 1000000 in
theorem cq_332_1 : cy_332_1.all (cok stp_332 (csOf ct_332) 7 43) = true := by decide +kernel
set_option maxRecDepth 1000000 in
theorem cq_332_2 : cy_332_2.all (cok stp_332 (csOf ct_332) 7 43) = true := by decide +kernel
set_option maxRecDepth 1000000 in
theorem cq_332_3 : cy_332_3.all (cok stp_332 (csOf ct_332) 7 43) = true := by decide +kernel
set_option maxRecDepth 1000000 in
theorem cq_332_4 : cy_332_4.all (cok stp_332 (csOf ct_332) 7 43) = true := by decide +kernel
set_option maxRecDepth 1000000 in
theorem cq_332_5 : cy_332_5.all (cok stp_332 (csOf ct_332) 7 43) = true := by decide +kernel
set_option maxRecDepth 1000000 in
theorem cq_332_6 : cy_332_6.all (cok stp_332 (csOf ct_332) 7 43) = true := by decide +kernel
set_option maxRecDepth 1000000 in
theorem cq_332_7 : cy_332_7.all (cok stp_332 (csOf ct_332) 7 43) = true := by decide +kernel
set_option maxRecDepth 1000000 in
theorem cq_332_8 : cy_332_8.all (cok stp_332 (csOf ct_332) 7 43) = true := by decide +kernel
set_option maxRecDepth 1000000 in
theorem cq_332_9 : cy_332_9.all (cok stp_332 (csOf ct_332) 7 43) = true := by decide +kernel
set_option maxRecDepth 1000000 in
theorem cq_332_10 : cy_332_10.all (cok stp_332 (csOf ct_332) 7 43) = true := by decide +kernel
set_option maxRecDepth 1000000 in
theorem cq_332_11 : cy_332_11.all (cok stp_332 (csOf ct_332) 7 43) = true := by decide +kernel
set_option maxRecDepth 1000000 in
theorem cq_332_12 : cy_332_12.all (cok stp_332 (csOf ct_332) 7 43) = true := by decide +kernel
set_option maxRecDepth 1000000 in
theorem cq_332_13 : cy_332_13.all (cok stp_332 (csOf ct_332) 7 43) = true := by decide +kernel
set_option maxRecDepth 1000000 in
theorem cq_332_14 : cy_332_14.all (cok stp_332 (csOf ct_332) 7 43) = true := by decide +kernel
set_option maxRecDepth 1000000 in
theorem cq_332_15 : cy_332_15.all (cok stp_332 (csOf ct_332) 7 43) = true := by decide +kernel
set_option maxRecDepth 1000000 in
theorem cq_332_16 : cy_332_16.all (cok stp_332 (csOf ct_332) 7 43) = true := by decide +kernel
set_option maxRecDepth 1000000 in
theorem cn_332 : (match eA (mkT (cV vV) Lc_332) 320 [.inr (some 94), .inl ((-2147483648), 2147483647)] [(2147483647, [((1, 94, 208), 1)])] [] with | some A => expl stp_332 (csOf ct_332) (rk0 7) 43 A | none => false) = true := by decide +kernel
