/-! a large certificate: cuts one by one (wip/gencert.py) -/
set_option maxRecDepth 1000000 in
theorem cq_421_32 : cy_421_32.all (cok stp_421 (csOf ct_421) 3 47) = true := by decide +kernel
set_option maxRecDepth 1000000 in
theorem cq_421_33 : cy_421_33.all (cok stp_421 (csOf ct_421) 3 47) = true := by decide +kernel
set_option maxRecDepth 1000000 in
theorem cq_421_34 : cy_421_34.all (cok stp_421 (csOf ct_421) 3 47) = true := by decide +kernel
set_option maxRecDepth 1000000 in
theorem cq_421_35 : cy_421_35.all (cok stp_421 (csOf ct_421) 3 47) = true := by decide +kernel
set_option maxRecDepth 1000000 in
theorem cq_421_36 : cy_421_36.all (cok stp_421 (csOf ct_421) 3 47) = true := by decide +kernel
set_option maxRecDepth 1000000 in
theorem cq_421_37 : cy_421_37.all (cok stp_421 (csOf ct_421) 3 47) = true := by decide +kernel
set_option maxRecDepth 1000000 in
theorem cq_421_38 : cy_421_38.all (cok stp_421 (csOf ct_421) 3 47) = true := by decide +kernel
set_option maxRecDepth 1000000 in
theorem cq_421_39 : cy_421_39.all (cok stp_421 (csOf ct_421) 3 47) = true := by decide +kernel
