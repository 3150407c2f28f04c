/-! a large certificate: cuts one by one (wip/gencert.py) -/
set_option maxRecDepth 1000000 in
theorem cq_424_40 : cy_424_40.all (cok stp_424 (csOf ct_424) 3 47) = true := by decide +kernel
set_option maxRecDepth 1000000 in
theorem cq_424_41 : cy_424_41.all (cok stp_424 (csOf ct_424) 3 47) = true := by decide +kernel
set_option maxRecDepth 1000000 in
theorem cq_424_42 : cy_424_42.all (cok stp_424 (csOf ct_424) 3 47) = true := by decide +kernel
set_option maxRecDepth 1000000 in
theorem cq_424_43 : cy_424_43.all (cok stp_424 (csOf ct_424) 3 47) = true := by decide +kernel
set_option maxRecDepth 1000000 in
theorem cq_424_44 : cy_424_44.all (cok stp_424 (csOf ct_424) 3 47) = true := by decide +kernel
set_option maxRecDepth 1000000 in
theorem cq_424_45 : cy_424_45.all (cok stp_424 (csOf ct_424) 3 47) = true := by decide +kernel
set_option maxRecDepth 1000000 in
theorem cq_424_46 : cy_424_46.all (cok stp_424 (csOf ct_424) 3 47) = true := by decide +kernel
set_option maxRecDepth 1000000 in
theorem cq_424_47 : cy_424_47.all (cok stp_424 (csOf ct_424) 3 47) = true := by decide +kernel
