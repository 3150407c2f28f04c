/-! a large certificate: cuts one by one (wip/gencert.py) -/
set_option maxRecDepth 1000000 in
theorem cq_424_24 : cy_424_24.all (cok stp_424 (csOf ct_424) 3 47) = true := by decide +kernel
set_option maxRecDepth 1000000 in
theorem cq_424_25 : cy_424_25.all (cok stp_424 (csOf ct_424) 3 47) = true := by decide +kernel
set_option maxRecDepth 1000000 in
theorem cq_424_26 : cy_424_26.all (cok stp_424 (csOf ct_424) 3 47) = true := by decide +kernel
set_option maxRecDepth 1000000 in
theorem cq_424_27 : cy_424_27.all (cok stp_424 (csOf ct_424) 3 47) = true := by decide +kernel
set_option maxRecDepth 1000000 in
theorem cq_424_28 : cy_424_28.all (cok stp_424 (csOf ct_424) 3 47) = true := by decide +kernel
set_option maxRecDepth 1000000 in
theorem cq_424_29 : cy_424_29.all (cok stp_424 (csOf ct_424) 3 47) = true := by decide +kernel
set_option maxRecDepth 1000000 in
theorem cq_424_30 : cy_424_30.all (cok stp_424 (csOf ct_424) 3 47) = true := by decide +kernel
set_option maxRecDepth 1000000 in
theorem cq_424_31 : cy_424_31.all (cok stp_424 (csOf ct_424) 3 47) = true := by decide +kernel
