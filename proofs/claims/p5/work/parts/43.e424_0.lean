/-! a large certificate: cuts one by one (wip/gencert.py) -/
set_option maxRecDepth 1000000 in
theorem cq_424_0 : cy_424_0.all (cok stp_424 (csOf ct_424) 3 47) = true := by decide +kernel
set_option maxRecDepth 1000000 in
theorem cq_424_1 : cy_424_1.all (cok stp_424 (csOf ct_424) 3 47) = true := by decide +kernel
set_option maxRecDepth 1000000 in
theorem cq_424_2 : cy_424_2.all (cok stp_424 (csOf ct_424) 3 47) = true := by decide +kernel
set_option maxRecDepth 1000000 in
theorem cq_424_3 : cy_424_3.all (cok stp_424 (csOf ct_424) 3 47) = true := by decide +kernel
set_option maxRecDepth 1000000 in
theorem cq_424_4 : cy_424_4.all (cok stp_424 (csOf ct_424) 3 47) = true := by decide +kernel
set_option maxRecDepth 1000000 in
theorem cq_424_5 : cy_424_5.all (cok stp_424 (csOf ct_424) 3 47) = true := by decide +kernel
set_option maxRecDepth 1000000 in
theorem cq_424_6 : cy_424_6.all (cok stp_424 (csOf ct_424) 3 47) = true := by decide +kernel
set_option maxRecDepth 1000000 in
theorem cq_424_7 : cy_424_7.all (cok stp_424 (csOf ct_424) 3 47) = true := by decide +kernel
