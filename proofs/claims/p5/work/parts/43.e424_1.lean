/-! a large certificate: cuts one by one (wip/gencert.py) -/
set_option maxRecDepth 1000000 in
theorem cq_424_8 : cy_424_8.all (cok stp_424 (csOf ct_424) 3 47) = true := by decide +kernel
set_option maxRecDepth 1000000 in
theorem cq_424_9 : cy_424_9.all (cok stp_424 (csOf ct_424) 3 47) = true := by decide +kernel
set_option maxRecDepth 1000000 in
theorem cq_424_10 : cy_424_10.all (cok stp_424 (csOf ct_424) 3 47) = true := by decide +kernel
set_option maxRecDepth 1000000 in
theorem cq_424_11 : cy_424_11.all (cok stp_424 (csOf ct_424) 3 47) = true := by decide +kernel
set_option maxRecDepth 1000000 in
theorem cq_424_12 : cy_424_12.all (cok stp_424 (csOf ct_424) 3 47) = true := by decide +kernel
set_option maxRecDepth 1000000 in
theorem cq_424_13 : cy_424_13.all (cok stp_424 (csOf ct_424) 3 47) = true := by decide +kernel
set_option maxRecDepth 1000000 in
theorem cq_424_14 : cy_424_14.all (cok stp_424 (csOf ct_424) 3 47) = true := by decide +kernel
set_option maxRecDepth 1000000 in
theorem cq_424_15 : cy_424_15.all (cok stp_424 (csOf ct_424) 3 47) = true := by decide +kernel
