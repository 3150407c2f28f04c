/-! a large certificate: cuts one by one (wip/gencert.py) -/
set_option maxRecDepth 1000000 in
theorem cq_215_0 : cy_215_0.all (cok stp_215 (csOf ct_215) 1 654) = true := by decide +kernel
set_option maxRecDepth 1000000 in
theorem cq_215_1 : cy_215_1.all (cok stp_215 (csOf ct_215) 1 654) = true := by decide +kernel
set_option maxRecDepth 1000000 in
theorem cq_215_2 : cy_215_2.all (cok stp_215 (csOf ct_215) 1 654) = true := by decide +kernel
set_option maxRecDepth 1000000 in
theorem cq_215_3 : cy_215_3.all (cok stp_215 (csOf ct_215) 1 654) = true := by decide +kernel
set_option maxRecDepth 1000000 in
theorem cq_215_4 : cy_215_4.all (cok stp_215 (csOf ct_215) 1 654) = true := by decide +kernel
set_option maxRecDepth 1000000 in
theorem cq_215_5 : cy_215_5.all (cok stp_215 (csOf ct_215) 1 654) = true := by decide +kernel
set_option maxRecDepth 1000000 in
theorem cq_215_6 : cy_215_6.all (cok stp_215 (csOf ct_215) 1 654) = true := by decide +kernel
set_option maxRecDepth 1000000 in
theorem cq_215_7 : cy_215_7.all (cok stp_215 (csOf ct_215) 1 654) = true := by decide +kernel
set_option maxRecDepth 1000000 in
theorem cq_215_8 : cy_215_8.all (cok stp_215 (csOf ct_215) 1 654) = true := by decide +kernel
set_option maxRecDepth 1000000 in
theorem cq_215_9 : cy_215_9.all (cok stp_215 (csOf ct_215) 1 654) = true := by decide +kernel
set_option maxRecDepth 1000000 in
theorem cq_215_10 : cy_215_10.all (cok stp_215 (csOf ct_215) 1 654) = true := by decide +kernel
set_option maxRecDepth 1000000 in
theorem cq_215_11 : cy_215_11.all (cok stp_215 (csOf ct_215) 1 654) = true := by decide +kernel
set_option maxRecDepth 1000000 in
theorem cq_215_12 : cy_215_12.all (cok stp_215 (csOf ct_215) 1 654) = true := by decide +kernel
set_option maxRecDepth 1000000 in
theorem cq_215_13 : cy_215_13.all (cok stp_215 (csOf ct_215) 1 654) = true := by decide +kernel
set_option maxRecDepth 1000000 in
theorem cq_215_14 : cy_215_14.all (cok stp_215 (csOf ct_215) 1 654) = true := by decide +kernel
set_option maxRecDepth 1000000 in
theorem cq_215_15 : cy_215_15.all (cok stp_215 (csOf ct_215) 1 654) = true := by decide +kernel
set_option maxRecDepth 1000000 in
theorem cq_215_16 : cy_215_16.all (cok stp_215 (csOf ct_215) 1 654) = true := by decide +kernel
set_option maxRecDepth 1000000 in
theorem cq_215_17 : cy_215_17.all (cok stp_215 (csOf ct_215) 1 654) = true := by decide +kernel
set_option maxRecDepth 1000000 in
theorem cq_215_18 : cy_215_18.all (cok stp_215 (csOf ct_215) 1 654) = true := by decide +kernel
set_option maxRecDepth 1000000 in
theorem cq_215_19 : cy_215_19.all (cok stp_215 (csOf ct_215) 1 654) = true := by decide +kernel
set_option maxRecDepth 1000000 in
theorem cq_215_20 : cy_215_20.all (cok stp_215 (csOf ct_215) 1 654) = true := by decide +kernel
set_option maxRecDepth 1000000 in
theorem cq_215_21 : cy_215_21.all (cok stp_215 (csOf ct_215) 1 654) = true := by decide +kernel
set_option maxRecDepth 1000000 in
theorem cq_215_22 : cy_215_22.all (cok stp_215 (csOf ct_215) 1 654) = true := by decide +kernel
set_option maxRecDepth 1000000 in
theorem cq_215_23 : cy_215_23.all (cok stp_215 (csOf ct_215) 1 654) = true := by decide +kernel
set_option maxRecDepth 1000000 in
theorem cq_215_24 : cy_215_24.all (cok stp_215 (csOf ct_215) 1 654) = true := by decide +kernel
set_option maxRecDepth 1000000 in
theorem cq_215_25 : cy_215_25.all (cok stp_215 (csOf ct_215) 1 654) = true := by decide +kernel
set_option maxRecDepth 1000000 in
theorem cq_215_26 : cy_215_26.all (cok stp_215 (csOf ct_215) 1 654) = true := by decide +kernel
set_option maxRecDepth 1000000 in
theorem cq_215_27 : cy_215_27.all (cok stp_215 (csOf ct_215) 1 654) = true := by decide +kernel
set_option maxRecDepth 1000000 in
theorem cq_215_28 : cy_215_28.all (cok stp_215 (csOf ct_215) 1 654) = true := by decide +kernel
set_option maxRecDepth 1000000 in
theorem cq_215_29 : cy_215_29.all (cok stp_215 (csOf ct_215) 1 654) = true := by decide +kernel
set_option maxRecDepth 1000000 in
theorem cq_215_30 : cy_215_30.all (cok stp_215 (csOf ct_215) 1 654) = true := by decide +kernel
set_option maxRecDepth 1000000 in
theorem cq_215_31 : cy_215_31.all (cok stp_215 (csOf ct_215) 1 654) = true := by decide +kernel
set_option maxRecDepth 1000000 in
theorem cq_215_32 : cy_215_32.all (cok stp_215 (csOf ct_215) 1 654) = true := by decide +kernel
set_option maxRecDepth 1000000 in
theorem cq_215_33 : cy_215_33.all (cok stp_215 (csOf ct_215) 1 654) = true := by decide +kernel
set_option maxRecDepth 1000000 in
theorem cq_215_34 : cy_215_34.all (cok stp_215 (csOf ct_215) 1 654) = true := by decide +kernel
set_option maxRecDepth 1000000 in
theorem cq_215_35 : cy_215_35.all (cok stp_215 (csOf ct_215) 1 654) = true := by decide +kernel
set_option maxRecDepth 1000000 in
theorem cq_215_36 : cy_215_36.all (cok stp_215 (csOf ct_215) 1 654) = true := by decide +kernel
set_option maxRecDepth 1000000 in
theorem cq_215_37 : cy_215_37.all (cok stp_215 (csOf ct_215) 1 654) = true := by decide +kernel
set_option maxRecDepth 1000000 in
theorem cq_215_38 : cy_215_38.all (cok stp_215 (csOf ct_215) 1 654) = true := by decide +kernel
set_option maxRecDepth 1000000 in
theorem cq_215_39 : cy_215_39.all (cok stp_215 (csOf ct_215) 1 654) = true := by decide +kernel
set_option maxRecDepth 1000000 in
theorem cq_215_40 : cy_215_40.all (cok stp_215 (csOf ct_215) 1 654) = true := by decide +kernel
set_option maxRecDepth 1000000 in
theorem cq_215_41 : cy_215_41.all (cok stp_215 (csOf ct_215) 1 654) = true := by decide +kernel
set_option maxRecDepth 1000000 in
theorem cq_215_42 : cy_215_42.all (cok stp_215 (csOf ct_215) 1 654) = true := by decide +kernel
set_option maxRecDepth 1000000 in
theorem cq_215_43 : cy_215_43.all (cok stp_215 (csOf ct_215) 1 654) = true := by decide +kernel
set_option maxRecDepth 1000000 in
theorem cq_215_44 : cy_215_44.all (cok stp_215 (csOf ct_215) 1 654) = true := by decide +kernel
set_option maxRecDepth 1000000 in
theorem cq_215_45 : cy_215_45.all (cok stp_215 (csOf ct_215) 1 654) = true := by decide +kernel
set_option maxRecDepth 1000000 in
theorem cq_215_46 : cy_215_46.all (cok stp_215 (csOf ct_215) 1 654) = true := by decide +kernel
set_option maxRecDepth 1000000 in
theorem cq_215_47 : cy_215_47.all (cok stp_215 (csOf ct_215) 1 654) = true := by decide +kernel
set_option maxRecDepth 1000000 in
theorem cq_215_48 : cy_215_48.all (cok stp_215 (csOf ct_215) 1 654) = true := by decide +kernel
set_option maxRecDepth 1000000 in
theorem cq_215_49 : cy_215_49.all (cok stp_215 (csOf ct_215) 1 654) = true := by decide +kernel
set_option maxRecDepth 1000000 in
theorem cq_215_50 : cy_215_50.all (cok stp_215 (csOf ct_215) 1 654) = true := by decide +kernel
set_option maxRecDepth 1000000 in
theorem cq_215_51 : cy_215_51.all (cok stp_215 (csOf ct_215) 1 654) = true := by decide +kernel
set_option maxRecDepth 1000000 in
theorem cq_215_52 : cy_215_52.all (cok stp_215 (csOf ct_215) 1 654) = true := by decide +kernel
set_option maxRecDepth 1000000 in
theorem cq_215_53 : cy_215_53.all (cok stp_215 (csOf ct_215) 1 654) = true := by decide +kernel
set_option maxRecDepth 1000000 in
theorem cq_215_54 : cy_215_54.all (cok stp_215 (csOf ct_215) 1 654) = true := by decide +kernel
set_option maxRecDepth 1000000 in
theorem cq_215_55 : cy_215_55.all (cok stp_215 (csOf ct_215) 1 654) = true := by decide +kernel
set_option maxRecDepth 1000000 in
theorem cq_215_56 : cy_215_56.all (cok stp_215 (csOf ct_215) 1 654) = true := by decide +kernel
set_option maxRecDepth 1000000 in
theorem cq_215_57 : cy_215_57.all (cok stp_215 (csOf ct_215) 1 654) = true := by decide +kernel
set_option maxRecDepth 1000000 in
theorem cq_215_58 : cy_215_58.all (cok stp_215 (csOf ct_215) 1 654) = true := by decide +kernel
set_option maxRecDepth 1000000 in
theorem cq_215_59 : cy_215_59.all (cok stp_215 (csOf ct_215) 1 654) = true := by decide +kernel
set_option maxRecDepth 1000000 in
theorem cq_215_60 : cy_215_60.all (cok stp_215 (csOf ct_215) 1 654) = true := by decide +kernel
set_option maxRecDepth 1000000 in
theorem cq_215_61 : cy_215_61.all (cok stp_215 (csOf ct_215) 1 654) = true := by decide +kernel
set_option maxRecDepth 1000000 in
theorem cq_215_62 : cy_215_62.all (cok stp_215 (csOf ct_215) 1 654) = true := by decide +kernel
set_option maxRecDepth 1000000 in
theorem cq_215_63 : cy_215_63.all (cok stp_215 (csOf ct_215) 1 654) = true := by decide +kernel
set_option maxRecDepth 1000000 in
theorem cq_215_64 : cy_215_64.all (cok stp_215 (csOf ct_215) 1 654) = true := by decide +kernel
set_option maxRecDepth 1000000 in
theorem cq_215_65 : cy_215_65.all (cok stp_215 (csOf ct_215) 1 654) = true := by decide +kernel
set_option maxRecDepth 1000000 in
theorem cq_215_66 : cy_215_66.all (cok stp_215 (csOf ct_215) 1 654) = true := by decide +kernel
set_option maxRecDepth 1000000 in
theorem cq_215_67 : cy_215_67.all (cok stp_215 (csOf ct_215) 1 654) = true := by decide +kernel
set_option maxRecDepth 1000000 in
theorem cq_215_68 : cy_215_68.all (cok stp_215 (csOf ct_215) 1 654) = true := by decide +kernel
set_option maxRecDepth 1000000 in
theorem cq_215_69 : cy_215_69.all (cok stp_215 (csOf ct_215) 1 654) = true := by decide +kernel
set_option maxRecDepth 1000000 in
theorem cq_215_70 : cy_215_70.all (cok stp_215 (csOf ct_215) 1 654) = true := by decide +kernel
set_option maxRecDepth 1000000 in
theorem cq_215_71 : cy_215_71.all (cok stp_215 (csOf ct_215) 1 654) = true := by decide +kernel
set_option maxRecDepth 1000000 in
theorem cq_215_72 : cy_215_72.all (cok stp_215 (csOf ct_215) 1 654) = true := by decide +kernel
