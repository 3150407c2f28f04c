/-! a large certificate: cuts one by one (wip/gencert.py) -/
set_option maxRecDepth 1000000 in
theorem cq_212_0 : cy_212_0.all (cok stp_212 (csOf ct_212) 1 654) = true := by decide +kernel
set_option maxRecDepth 1000000 in
theorem cq_212_1 : cy_212_1.all (cok stp_212 (csOf ct_212) 1 654) = true := by decide +kernel
set_option maxRecDepth 1000000 in
theorem cq_212_2 : cy_212_2.all (cok stp_212 (csOf ct_212) 1 654) = true := by decide +kernel
set_option maxRecDepth 1000000 in
theorem cq_212_3 : cy_212_3.all (cok stp_212 (csOf ct_212) 1 654) = true := by decide +kernel
set_option maxRecDepth 1000000 in
theorem cq_212_4 : cy_212_4.all (cok stp_212 (csOf ct_212) 1 654) = true := by decide +kernel
set_option maxRecDepth 1000000 in
theorem cq_212_5 : cy_212_5.all (cok stp_212 (csOf ct_212) 1 654) = true := by decide +kernel
set_option maxRecDepth 1000000 in
theorem cq_212_6 : cy_212_6.all (cok stp_212 (csOf ct_212) 1 654) = true := by decide +kernel
set_option maxRecDepth 1000000 in
theorem cq_212_7 : cy_212_7.all (cok stp_212 (csOf ct_212) 1 654) = true := by decide +kernel
set_option maxRecDepth 1000000 in
theorem cq_212_8 : cy_212_8.all (cok stp_212 (csOf ct_212) 1 654) = true := by decide +kernel
set_option maxRecDepth 1000000 in
theorem cq_212_9 : cy_212_9.all (cok stp_212 (csOf ct_212) 1 654) = true := by decide +kernel
set_option maxRecDepth 1000000 in
theorem cq_212_10 : cy_212_10.all (cok stp_212 (csOf ct_212) 1 654) = true := by decide +kernel
set_option maxRecDepth 1000000 in
theorem cq_212_11 : cy_212_11.all (cok stp_212 (csOf ct_212) 1 654) = true := by decide +kernel
set_option maxRecDepth 1000000 in
theorem cq_212_12 : cy_212_12.all (cok stp_212 (csOf ct_212) 1 654) = true := by decide +kernel
set_option maxRecDepth 1000000 in
theorem cq_212_13 : cy_212_13.all (cok stp_212 (csOf ct_212) 1 654) = true := by decide +kernel
set_option maxRecDepth 1000000 in
theorem cq_212_14 : cy_212_14.all (cok stp_212 (csOf ct_212) 1 654) = true := by decide +kernel
set_option maxRecDepth 1000000 in
theorem cq_212_15 : cy_212_15.all (cok stp_212 (csOf ct_212) 1 654) = true := by decide +kernel
set_option maxRecDepth 1000000 in
theorem cq_212_16 : cy_212_16.all (cok stp_212 (csOf ct_212) 1 654) = true := by decide +kernel
set_option maxRecDepth 1000000 in
theorem cq_212_17 : cy_212_17.all (cok stp_212 (csOf ct_212) 1 654) = true := by decide +kernel
set_option maxRecDepth 1000000 in
theorem cq_212_18 : cy_212_18.all (cok stp_212 (csOf ct_212) 1 654) = true := by decide +kernel
set_option maxRecDepth 1000000 in
theorem cq_212_19 : cy_212_19.all (cok stp_212 (csOf ct_212) 1 654) = true := by decide +kernel
set_option maxRecDepth 1000000 in
theorem cq_212_20 : cy_212_20.all (cok stp_212 (csOf ct_212) 1 654) = true := by decide +kernel
set_option maxRecDepth 1000000 in
theorem cq_212_21 : cy_212_21.all (cok stp_212 (csOf ct_212) 1 654) = true := by decide +kernel
set_option maxRecDepth 1000000 in
theorem cq_212_22 : cy_212_22.all (cok stp_212 (csOf ct_212) 1 654) = true := by decide +kernel
set_option maxRecDepth 1000000 in
theorem cq_212_23 : cy_212_23.all (cok stp_212 (csOf ct_212) 1 654) = true := by decide +kernel
set_option maxRecDepth 1000000 in
theorem cq_212_24 : cy_212_24.all (cok stp_212 (csOf ct_212) 1 654) = true := by decide +kernel
set_option maxRecDepth 1000000 in
theorem cq_212_25 : cy_212_25.all (cok stp_212 (csOf ct_212) 1 654) = true := by decide +kernel
set_option maxRecDepth 1000000 in
theorem cq_212_26 : cy_212_26.all (cok stp_212 (csOf ct_212) 1 654) = true := by decide +kernel
set_option maxRecDepth 1000000 in
theorem cq_212_27 : cy_212_27.all (cok stp_212 (csOf ct_212) 1 654) = true := by decide +kernel
set_option maxRecDepth 1000000 in
theorem cq_212_28 : cy_212_28.all (cok stp_212 (csOf ct_212) 1 654) = true := by decide +kernel
set_option maxRecDepth 1000000 in
theorem cq_212_29 : cy_212_29.all (cok stp_212 (csOf ct_212) 1 654) = true := by decide +kernel
set_option maxRecDepth 1000000 in
theorem cq_212_30 : cy_212_30.all (cok stp_212 (csOf ct_212) 1 654) = true := by decide +kernel
set_option maxRecDepth 1000000 in
theorem cq_212_31 : cy_212_31.all (cok stp_212 (csOf ct_212) 1 654) = true := by decide +kernel
set_option maxRecDepth 1000000 in
theorem cq_212_32 : cy_212_32.all (cok stp_212 (csOf ct_212) 1 654) = true := by decide +kernel
set_option maxRecDepth 1000000 in
theorem cq_212_33 : cy_212_33.all (cok stp_212 (csOf ct_212) 1 654) = true := by decide +kernel
set_option maxRecDepth 1000000 in
theorem cq_212_34 : cy_212_34.all (cok stp_212 (csOf ct_212) 1 654) = true := by decide +kernel
set_option maxRecDepth 1000000 in
theorem cq_212_35 : cy_212_35.all (cok stp_212 (csOf ct_212) 1 654) = true := by decide +kernel
set_option maxRecDepth 1000000 in
theorem cq_212_36 : cy_212_36.all (cok stp_212 (csOf ct_212) 1 654) = true := by decide +kernel
set_option maxRecDepth 1000000 in
theorem cq_212_37 : cy_212_37.all (cok stp_212 (csOf ct_212) 1 654) = true := by decide +kernel
set_option maxRecDepth 1000000 in
theorem cq_212_38 : cy_212_38.all (cok stp_212 (csOf ct_212) 1 654) = true := by decide +kernel
set_option maxRecDepth 1000000 in
theorem cq_212_39 : cy_212_39.all (cok stp_212 (csOf ct_212) 1 654) = true := by decide +kernel
set_option maxRecDepth 1000000 in
theorem cq_212_40 : cy_212_40.all (cok stp_212 (csOf ct_212) 1 654) = true := by decide +kernel
set_option maxRecDepth 1000000 in
theorem cq_212_41 : cy_212_41.all (cok stp_212 (csOf ct_212) 1 654) = true := by decide +kernel
set_option maxRecDepth 1000000 in
theorem cq_212_42 : cy_212_42.all (cok stp_212 (csOf ct_212) 1 654) = true := by decide +kernel
set_option maxRecDepth 1000000 in
theorem cq_212_43 : cy_212_43.all (cok stp_212 (csOf ct_212) 1 654) = true := by decide +kernel
set_option maxRecDepth 1000000 in
theorem cq_212_44 : cy_212_44.all (cok stp_212 (csOf ct_212) 1 654) = true := by decide +kernel
set_option maxRecDepth 1000000 in
theorem cq_212_45 : cy_212_45.all (cok stp_212 (csOf ct_212) 1 654) = true := by decide +kernel
set_option maxRecDepth 1000000 in
theorem cq_212_46 : cy_212_46.all (cok stp_212 (csOf ct_212) 1 654) = true := by decide +kernel
set_option maxRecDepth 1000000 in
theorem cq_212_47 : cy_212_47.all (cok stp_212 (csOf ct_212) 1 654) = true := by decide +kernel
set_option maxRecDepth 1000000 in
theorem cq_212_48 : cy_212_48.all (cok stp_212 (csOf ct_212) 1 654) = true := by decide +kernel
set_option maxRecDepth 1000000 in
theorem cq_212_49 : cy_212_49.all (cok stp_212 (csOf ct_212) 1 654) = true := by decide +kernel
set_option maxRecDepth 1000000 in
theorem cq_212_50 : cy_212_50.all (cok stp_212 (csOf ct_212) 1 654) = true := by decide +kernel
set_option maxRecDepth 1000000 in
theorem cq_212_51 : cy_212_51.all (cok stp_212 (csOf ct_212) 1 654) = true := by decide +kernel
set_option maxRecDepth 1000000 in
theorem cq_212_52 : cy_212_52.all (cok stp_212 (csOf ct_212) 1 654) = true := by decide +kernel
set_option maxRecDepth 1000000 in
theorem cq_212_53 : cy_212_53.all (cok stp_212 (csOf ct_212) 1 654) = true := by decide +kernel
set_option maxRecDepth 1000000 in
theorem cq_212_54 : cy_212_54.all (cok stp_212 (csOf ct_212) 1 654) = true := by decide +kernel
set_option maxRecDepth 1000000 in
theorem cq_212_55 : cy_212_55.all (cok stp_212 (csOf ct_212) 1 654) = true := by decide +kernel
set_option maxRecDepth 1000000 in
theorem cq_212_56 : cy_212_56.all (cok stp_212 (csOf ct_212) 1 654) = true := by decide +kernel
set_option maxRecDepth 1000000 in
theorem cq_212_57 : cy_212_57.all (cok stp_212 (csOf ct_212) 1 654) = true := by decide +kernel
set_option maxRecDepth 1000000 in
theorem cq_212_58 : cy_212_58.all (cok stp_212 (csOf ct_212) 1 654) = true := by decide +kernel
set_option maxRecDepth 1000000 in
theorem cq_212_59 : cy_212_59.all (cok stp_212 (csOf ct_212) 1 654) = true := by decide +kernel
set_option maxRecDepth 1000000 in
theorem cq_212_60 : cy_212_60.all (cok stp_212 (csOf ct_212) 1 654) = true := by decide +kernel
set_option maxRecDepth 1000000 in
theorem cq_212_61 : cy_212_61.all (cok stp_212 (csOf ct_212) 1 654) = true := by decide +kernel
set_option maxRecDepth 1000000 in
theorem cq_212_62 : cy_212_62.all (cok stp_212 (csOf ct_212) 1 654) = true := by decide +kernel
set_option maxRecDepth 1000000 in
theorem cq_212_63 : cy_212_63.all (cok stp_212 (csOf ct_212) 1 654) = true := by decide +kernel
set_option maxRecDepth 1000000 in
theorem cq_212_64 : cy_212_64.all (cok stp_212 (csOf ct_212) 1 654) = true := by decide +kernel
set_option maxRecDepth 1000000 in
theorem cq_212_65 : cy_212_65.all (cok stp_212 (csOf ct_212) 1 654) = true := by decide +kernel
set_option maxRecDepth 1000000 in
theorem cq_212_66 : cy_212_66.all (cok stp_212 (csOf ct_212) 1 654) = true := by decide +kernel
set_option maxRecDepth 1000000 in
theorem cq_212_67 : cy_212_67.all (cok stp_212 (csOf ct_212) 1 654) = true := by decide +kernel
set_option maxRecDepth 1000000 in
theorem cq_212_68 : cy_212_68.all (cok stp_212 (csOf ct_212) 1 654) = true := by decide +kernel
set_option maxRecDepth 1000000 in
theorem cq_212_69 : cy_212_69.all (cok stp_212 (csOf ct_212) 1 654) = true := by decide +kernel
set_option maxRecDepth 1000000 in
theorem cq_212_70 : cy_212_70.all (cok stp_212 (csOf ct_212) 1 654) = true := by decide +kernel
set_option maxRecDepth 1000000 in
theorem cq_212_71 : cy_212_71.all (cok stp_212 (csOf ct_212) 1 654) = true := by decide +kernel
set_option maxRecDepth 1000000 in
theorem cq_212_72 : cy_212_72.all (cok stp_212 (csOf ct_212) 1 654) = true := by decide +kernel
