/-! a large certificate: cuts one by one (wip/gencert.py) -/
set_option maxRecDepth 1000000 in
theorem cq_421_16 : cy_421_16.all (cok stp_421 (csOf ct_421) 3 47) = true := by decide +kernel
set_option maxRecDepth 1000000 in
theorem cq_421_17 : cy_421_17.all (cok stp_421 (csOf ct_421) 3 47) = true := by decide +kernel
set_option maxRecDepth 1000000 in
theorem cq_421_18 : cy_421_18.all (cok stp_421 (csOf ct_421) 3 47) = true := by decide +kernel
set_option maxRecDepth 1000000 in
theorem cq_421_19 : cy_421_19.all (cok stp_421 (csOf ct_421) 3 47) = true := by decide +kernel
set_option maxRecDepth 1000000 in
theorem cq_421_20 : cy_421_20.all (cok stp_421 (csOf ct_421) 3 47) = true := by decide +kernel
set_option maxRecDepth 1000000 in
theorem cq_421_21 : cy_421_21.all (cok stp_421 (csOf ct_421) 3 47) = true := by decide +kernel
set_option maxRecDepth 1000000 in
theorem cq_421_22 : cy_421_22.all (cok stp_421 (csOf ct_421) 3 47) = true := by decide +kernel
set_option maxRecDepth 1000000 in
theorem cq_421_23 : cy_421_23.all (cok stp_421 (csOf ct_421) 3 47) = true := by decide +kernel
