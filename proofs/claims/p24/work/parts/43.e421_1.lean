/-! a large certificate: cuts one by one (wip/gencert.py) -/
set_option maxRecDepth 1000000 in
theorem cq_421_8 : cy_421_8.all (cok stp_421 (csOf ct_421) 3 47) = true := by decide +kernel
set_option maxRecDepth 1000000 in
theorem cq_421_9 : cy_421_9.all (cok stp_421 (csOf ct_421) 3 47) = true := by decide +kernel
set_option maxRecDepth 1000000 in
theorem cq_421_10 : cy_421_10.all (cok stp_421 (csOf ct_421) 3 47) = true := by decide +kernel
set_option maxRecDepth 1000000 in
theorem cq_421_11 : cy_421_11.all (cok stp_421 (csOf ct_421) 3 47) = true := by decide +kernel
set_option maxRecDepth 1000000 in
theorem cq_421_12 : cy_421_12.all (cok stp_421 (csOf ct_421) 3 47) = true := by decide +kernel
set_option maxRecDepth 1000000 in
theorem cq_421_13 : cy_421_13.all (cok stp_421 (csOf ct_421) 3 47) = true := by decide +kernel
set_option maxRecDepth 1000000 in
theorem cq_421_14 : cy_421_14.all (cok stp_421 (csOf ct_421) 3 47) = true := by decide +kernel
set_option maxRecDepth 1000000 in
theorem cq_421_15 : cy_421_15.all (cok stp_421 (csOf ct_421) 3 47) = true := by decide +kernel
