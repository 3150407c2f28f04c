/-! a large certificate: cuts one by one (wip/gencert.py) -/
set_option maxRecDepth 1000000 in
theorem cq_329_0 : cy_329_0.all (cok stp_329 (csOf ct_329) 7 43) = true := by decide +kernel
set_option maxRecDepth 1000000 in
theorem cq_329_1 : cy_329_1.all (cok stp_329 (csOf ct_329) 7 43) = true := by decide +kernel
set_option maxRecDepth 1000000 in
theorem cq_329_2 : cy_329_2.all (cok stp_329 (csOf ct_329) 7 43) = true := by decide +kernel
set_option maxRecDepth 1000000 in
theorem cq_329_3 : cy_329_3.all (cok stp_329 (csOf ct_329) 7 43) = true := by decide +kernel
set_option maxRecDepth 1000000 in
theorem cq_329_4 : cy_329_4.all (cok stp_329 (csOf ct_329) 7 43) = true := by decide +kernel
set_option maxRecDepth 1000000 in
theorem cq_329_5 : cy_329_5.all (cok stp_329 (csOf ct_329) 7 43) = true := by decide +kernel
set_option maxRecDepth 1000000 in
theorem cq_329_6 : cy_329_6.all (cok stp_329 (csOf ct_329) 7 43) = true := by decide +kernel
set_option maxRecDepth 1000000 in
theorem cq_329_7 : cy_329_7.all (cok stp_329 (csOf ct_329) 7 43) = true := by decide +kernel
set_option maxRecDepth 1000000 in
theorem cq_329_8 : cy_329_8.all (cok stp_329 (csOf ct_329) 7 43) = true := by decide +kernel
set_option maxRecDepth 1000000 in
theorem cq_329_9 : cy_329_9.all (cok stp_329 (csOf ct_329) 7 43) = true := by decide +kernel
set_option maxRecDepth 1000000 in
theorem cq_329_10 : cy_329_10.all (cok stp_329 (csOf ct_329) 7 43) = true := by decide +kernel
set_option maxRecDepth 1000000 in
theorem cq_329_11 : cy_329_11.all (cok stp_329 (csOf ct_329) 7 43) = true := by decide +kernel
set_option maxRecDepth 1000000 in
theorem cq_329_12 : cy_329_12.all (cok stp_329 (csOf ct_329) 7 43) = true := by decide +kernel
set_option maxRecDepth 1000000 in
theorem cq_329_13 : cy_329_13.all (cok stp_329 (csOf ct_329) 7 43) = true := by decide +kernel
set_option maxRecDepth 1000000 in
theorem cq_329_14 : cy_329_14.all (cok stp_329 (csOf ct_329) 7 43) = true := by decide +kernel
set_option maxRecDepth 1000000 in
theorem cq_329_15 : cy_329_15.all (cok stp_329 (csOf ct_329) 7 43) = true := by decide +kernel
set_option maxRecDepth 1000000 in
theorem cq_329_16 : cy_329_16.all (cok stp_329 (csOf ct_329) 7 43) = true := by decide +kernel
set_option maxRecDepth 1000000 in
theorem cn_329 : (match eA (mkT (cV vV) Lc_329) 320 [.inr (some 94), .inl ((-2147483648), 2147483647)] [(2147483647, [((1, 94, 208), 1)])] [] with | some A => expl stp_329 (csOf ct_329) (rk0 7) 43 A | none => false) = true := by decide +kernel
