/-! a large certificate: cuts one by one (wip/gencert.py) -/
set_option maxRecDepth 1000000 in
theorem cq_424_32 : cy_424_32.all (cok stp_424 (csOf ct_424) 3 47) = true := by decide +kernel
set_option maxRecDepth 1000000 in
theorem cq_424_33 : cy_424_33.all (cok stp_424 (csOf ct_424) 3 47) = true := by decide +kernel
set_option maxRecDepth 1000000 in
theorem cq_424_34 : cy_424_34.all (cok stp_424 (csOf ct_424) 3 47) = true := by decide +kernel
set_option maxRecDepth 1000000 in
theorem cq_424_35 : cy_424_35.all (cok stp_424 (csOf ct_424) 3 47) = true := by decide +kernel
set_option maxRecDepth 1000000 in
theorem cq_424_36 : cy_424_36.all (cok stp_424 (csOf ct_424) 3 47) = true := by decide +kernel
set_option maxRecDepth 1000000 in
theorem cq_424_37 : cy_424_37.all (cok stp_424 (csOf ct_424) 3 47) = true := by decide +kernel
set_option maxRecDepth 1000000 in
theorem cq_424_38 : cy_424_38.all (cok stp_424 (csOf ct_424) 3 47) = true := by decide +kernel
set_option maxRecDepth 1000000 in
theorem cq_424_39 : cy_424_39.all (cok stp_424 (csOf ct_424) 3 47) = true := by decide +kernel
