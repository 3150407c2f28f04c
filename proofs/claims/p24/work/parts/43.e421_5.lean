/-! a large certificate: cuts one by one (wip/gencert.py) -/
set_option maxRecDepth 1000000 in
theorem cq_421_40 : cy_421_40.all (cok stp_421 (csOf ct_421) 3 47) = true := by decide +kernel
set_option maxRecDepth 1000000 in
theorem cq_421_41 : cy_421_41.all (cok stp_421 (csOf ct_421) 3 47) = true := by decide +kernel
set_option maxRecDepth 1000000 in
theorem cq_421_42 : cy_421_42.all (cok stp_421 (csOf ct_421) 3 47) = true := by decide +kernel
set_option maxRecDepth 1000000 in
theorem cq_421_43 : cy_421_43.all (cok stp_421 (csOf ct_421) 3 47) = true := by decide +kernel
set_option maxRecDepth 1000000 in
theorem cq_421_44 : cy_421_44.all (cok stp_421 (csOf ct_421) 3 47) = true := by decide +kernel
set_option maxRecDepth 1000000 in
theorem cq_421_45 : cy_421_45.all (cok stp_421 (csOf ct_421) 3 47) = true := by decide +kernel
set_option maxRecDepth 1000000 in
theorem cq_421_46 : cy_421_46.all (cok stp_421 (csOf ct_421) 3 47) = true := by decide +kernel
set_option maxRecDepth 1000000 in
theorem cq_421_47 : cy_421_47.all (cok stp_421 (csOf ct_421) 3 47) = true := by decide +kernel
