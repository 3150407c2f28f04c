/-! the code tables hold, by the kernel -/
set_option maxRecDepth 100000 in
theorem ck_64_0 : mk_64_0.all (okE 0 prog_1_method_17_code) = true := by decide +kernel
set_option maxRecDepth 100000 in
theorem ck_64 : mk_64.all (fun l => l.all (okE 0 prog_1_method_17_code)) = true := all_c ck_64_0 (rfl)
set_option maxRecDepth 100000 in
theorem ck_65_0 : mk_65_0.all (okE 4 prog_3_method_2_code) = true := by decide +kernel
set_option maxRecDepth 100000 in
theorem ck_65_1 : mk_65_1.all (okE 4 prog_3_method_2_code) = true := by decide +kernel
set_option maxRecDepth 100000 in
theorem ck_65_2 : mk_65_2.all (okE 4 prog_3_method_2_code) = true := by decide +kernel
set_option maxRecDepth 100000 in
theorem ck_65 : mk_65.all (fun l => l.all (okE 4 prog_3_method_2_code)) = true := all_c ck_65_0 (all_c ck_65_1 (all_c ck_65_2 (rfl)))
set_option maxRecDepth 100000 in
theorem ck_66_0 : mk_66_0.all (okE 4 prog_3_method_4_code) = true := by decide +kernel
set_option maxRecDepth 100000 in
theorem ck_66_1 : mk_66_1.all (okE 4 prog_3_method_4_code) = true := by decide +kernel
set_option maxRecDepth 100000 in
theorem ck_66_2 : mk_66_2.all (okE 4 prog_3_method_4_code) = true := by decide +kernel
set_option maxRecDepth 100000 in
theorem ck_66 : mk_66.all (fun l => l.all (okE 4 prog_3_method_4_code)) = true := all_c ck_66_0 (all_c ck_66_1 (all_c ck_66_2 (rfl)))
set_option maxRecDepth 100000 in
theorem ck_67_0 : mk_67_0.all (okE 4 prog_3_method_3_code) = true := by decide +kernel
set_option maxRecDepth 100000 in
theorem ck_67_1 : mk_67_1.all (okE 4 prog_3_method_3_code) = true := by decide +kernel
set_option maxRecDepth 100000 in
theorem ck_67_2 : mk_67_2.all (okE 4 prog_3_method_3_code) = true := by decide +kernel
set_option maxRecDepth 100000 in
theorem ck_67_3 : mk_67_3.all (okE 4 prog_3_method_3_code) = true := by decide +kernel
set_option maxRecDepth 100000 in
theorem ck_67 : mk_67.all (fun l => l.all (okE 4 prog_3_method_3_code)) = true := all_c ck_67_0 (all_c ck_67_1 (all_c ck_67_2 (all_c ck_67_3 (rfl))))
set_option maxRecDepth 100000 in
theorem ck_68_0 : mk_68_0.all (okE 0 prog_1_method_18_code) = true := by decide +kernel
set_option maxRecDepth 100000 in
theorem ck_68 : mk_68.all (fun l => l.all (okE 0 prog_1_method_18_code)) = true := all_c ck_68_0 (rfl)
set_option maxRecDepth 100000 in
theorem ck_69_0 : mk_69_0.all (okE 4 prog_3_method_6_code) = true := by decide +kernel
set_option maxRecDepth 100000 in
theorem ck_69_1 : mk_69_1.all (okE 4 prog_3_method_6_code) = true := by decide +kernel
set_option maxRecDepth 100000 in
theorem ck_69 : mk_69.all (fun l => l.all (okE 4 prog_3_method_6_code)) = true := all_c ck_69_0 (all_c ck_69_1 (rfl))
set_option maxRecDepth 100000 in
theorem ck_70_0 : mk_70_0.all (okE 0 prog_1_method_19_code) = true := by decide +kernel
set_option maxRecDepth 100000 in
theorem ck_70_1 : mk_70_1.all (okE 0 prog_1_method_19_code) = true := by decide +kernel
set_option maxRecDepth 100000 in
theorem ck_70_2 : mk_70_2.all (okE 0 prog_1_method_19_code) = true := by decide +kernel
set_option maxRecDepth 100000 in
theorem ck_70 : mk_70.all (fun l => l.all (okE 0 prog_1_method_19_code)) = true := all_c ck_70_0 (all_c ck_70_1 (all_c ck_70_2 (rfl)))
set_option maxRecDepth 100000 in
theorem ck_71_0 : mk_71_0.all (okE 0 prog_1_method_3_code) = true := by decide +kernel
set_option maxRecDepth 100000 in
theorem ck_71 : mk_71.all (fun l => l.all (okE 0 prog_1_method_3_code)) = true := all_c ck_71_0 (rfl)
set_option maxRecDepth 100000 in
theorem ck_72_0 : mk_72_0.all (okE 4 prog_3_method_7_code) = true := by decide +kernel
set_option maxRecDepth 100000 in
theorem ck_72_1 : mk_72_1.all (okE 4 prog_3_method_7_code) = true := by decide +kernel
set_option maxRecDepth 100000 in
theorem ck_72_2 : mk_72_2.all (okE 4 prog_3_method_7_code) = true := by decide +kernel
set_option maxRecDepth 100000 in
theorem ck_72_3 : mk_72_3.all (okE 4 prog_3_method_7_code) = true := by decide +kernel
set_option maxRecDepth 100000 in
theorem ck_72_4 : mk_72_4.all (okE 4 prog_3_method_7_code) = true := by decide +kernel
set_option maxRecDepth 100000 in
theorem ck_72_5 : mk_72_5.all (okE 4 prog_3_method_7_code) = true := by decide +kernel
set_option maxRecDepth 100000 in
theorem ck_72 : mk_72.all (fun l => l.all (okE 4 prog_3_method_7_code)) = true := all_c ck_72_0 (all_c ck_72_1 (all_c ck_72_2 (all_c ck_72_3 (all_c ck_72_4 (all_c ck_72_5 (rfl))))))
set_option maxRecDepth 100000 in
theorem ck_73_0 : mk_73_0.all (okE 0 prog_1_method_20_code) = true := by decide +kernel
set_option maxRecDepth 100000 in
theorem ck_73 : mk_73.all (fun l => l.all (okE 0 prog_1_method_20_code)) = true := all_c ck_73_0 (rfl)
set_option maxRecDepth 100000 in
theorem ck_74_0 : mk_74_0.all (okE 4 prog_3_method_5_code) = true := by decide +kernel
set_option maxRecDepth 100000 in
theorem ck_74_1 : mk_74_1.all (okE 4 prog_3_method_5_code) = true := by decide +kernel
set_option maxRecDepth 100000 in
theorem ck_74_2 : mk_74_2.all (okE 4 prog_3_method_5_code) = true := by decide +kernel
set_option maxRecDepth 100000 in
theorem ck_74 : mk_74.all (fun l => l.all (okE 4 prog_3_method_5_code)) = true := all_c ck_74_0 (all_c ck_74_1 (all_c ck_74_2 (rfl)))
set_option maxRecDepth 100000 in
theorem ck_75_0 : mk_75_0.all (okE 0 prog_1_method_21_code) = true := by decide +kernel
set_option maxRecDepth 100000 in
theorem ck_75_1 : mk_75_1.all (okE 0 prog_1_method_21_code) = true := by decide +kernel
set_option maxRecDepth 100000 in
theorem ck_75_2 : mk_75_2.all (okE 0 prog_1_method_21_code) = true := by decide +kernel
set_option maxRecDepth 100000 in
theorem ck_75 : mk_75.all (fun l => l.all (okE 0 prog_1_method_21_code)) = true := all_c ck_75_0 (all_c ck_75_1 (all_c ck_75_2 (rfl)))
set_option maxRecDepth 100000 in
theorem ck_76_0 : mk_76_0.all (okE 3 prog_9_method_2_code) = true := by decide +kernel
set_option maxRecDepth 100000 in
theorem ck_76 : mk_76.all (fun l => l.all (okE 3 prog_9_method_2_code)) = true := all_c ck_76_0 (rfl)
set_option maxRecDepth 100000 in
theorem ck_77_0 : mk_77_0.all (okE 4 prog_3_method_8_code) = true := by decide +kernel
set_option maxRecDepth 100000 in
theorem ck_77_1 : mk_77_1.all (okE 4 prog_3_method_8_code) = true := by decide +kernel
set_option maxRecDepth 100000 in
theorem ck_77_2 : mk_77_2.all (okE 4 prog_3_method_8_code) = true := by decide +kernel
set_option maxRecDepth 100000 in
theorem ck_77_3 : mk_77_3.all (okE 4 prog_3_method_8_code) = true := by decide +kernel
set_option maxRecDepth 100000 in
theorem ck_77_4 : mk_77_4.all (okE 4 prog_3_method_8_code) = true := by decide +kernel
set_option maxRecDepth 100000 in
theorem ck_77_5 : mk_77_5.all (okE 4 prog_3_method_8_code) = true := by decide +kernel
set_option maxRecDepth 100000 in
theorem ck_77_6 : mk_77_6.all (okE 4 prog_3_method_8_code) = true := by decide +kernel
set_option maxRecDepth 100000 in
theorem ck_77 : mk_77.all (fun l => l.all (okE 4 prog_3_method_8_code)) = true := all_c ck_77_0 (all_c ck_77_1 (all_c ck_77_2 (all_c ck_77_3 (all_c ck_77_4 (all_c ck_77_5 (all_c ck_77_6 (rfl)))))))
set_option maxRecDepth 100000 in
theorem ck_78_0 : mk_78_0.all (okE 3 prog_9_method_5_code) = true := by decide +kernel
set_option maxRecDepth 100000 in
theorem ck_78 : mk_78.all (fun l => l.all (okE 3 prog_9_method_5_code)) = true := all_c ck_78_0 (rfl)
set_option maxRecDepth 100000 in
theorem ck_79_0 : mk_79_0.all (okE 4 prog_3_method_9_code) = true := by decide +kernel
set_option maxRecDepth 100000 in
theorem ck_79 : mk_79.all (fun l => l.all (okE 4 prog_3_method_9_code)) = true := all_c ck_79_0 (rfl)
set_option maxRecDepth 100000 in
theorem ck_80_0 : mk_80_0.all (okE 3 prog_9_method_8_code) = true := by decide +kernel
set_option maxRecDepth 100000 in
theorem ck_80 : mk_80.all (fun l => l.all (okE 3 prog_9_method_8_code)) = true := all_c ck_80_0 (rfl)
set_option maxRecDepth 100000 in
theorem ck_81_0 : mk_81_0.all (okE 3 prog_9_method_7_code) = true := by decide +kernel
set_option maxRecDepth 100000 in
theorem ck_81_1 : mk_81_1.all (okE 3 prog_9_method_7_code) = true := by decide +kernel
set_option maxRecDepth 100000 in
theorem ck_81 : mk_81.all (fun l => l.all (okE 3 prog_9_method_7_code)) = true := all_c ck_81_0 (all_c ck_81_1 (rfl))
set_option maxRecDepth 100000 in
theorem ck_82_0 : mk_82_0.all (okE 3 prog_9_method_6_code) = true := by decide +kernel
set_option maxRecDepth 100000 in
theorem ck_82 : mk_82.all (fun l => l.all (okE 3 prog_9_method_6_code)) = true := all_c ck_82_0 (rfl)
set_option maxRecDepth 100000 in
theorem ck_83_0 : mk_83_0.all (okE 4 prog_3_method_10_code) = true := by decide +kernel
set_option maxRecDepth 100000 in
theorem ck_83 : mk_83.all (fun l => l.all (okE 4 prog_3_method_10_code)) = true := all_c ck_83_0 (rfl)
set_option maxRecDepth 100000 in
theorem ck_84_0 : mk_84_0.all (okE 4 prog_3_method_11_code) = true := by decide +kernel
set_option maxRecDepth 100000 in
theorem ck_84 : mk_84.all (fun l => l.all (okE 4 prog_3_method_11_code)) = true := all_c ck_84_0 (rfl)
set_option maxRecDepth 100000 in
theorem ck_85_0 : mk_85_0.all (okE 4 prog_3_method_12_code) = true := by decide +kernel
set_option maxRecDepth 100000 in
theorem ck_85_1 : mk_85_1.all (okE 4 prog_3_method_12_code) = true := by decide +kernel
set_option maxRecDepth 100000 in
theorem ck_85_2 : mk_85_2.all (okE 4 prog_3_method_12_code) = true := by decide +kernel
set_option maxRecDepth 100000 in
theorem ck_85_3 : mk_85_3.all (okE 4 prog_3_method_12_code) = true := by decide +kernel
set_option maxRecDepth 100000 in
theorem ck_85_4 : mk_85_4.all (okE 4 prog_3_method_12_code) = true := by decide +kernel
set_option maxRecDepth 100000 in
theorem ck_85 : mk_85.all (fun l => l.all (okE 4 prog_3_method_12_code)) = true := all_c ck_85_0 (all_c ck_85_1 (all_c ck_85_2 (all_c ck_85_3 (all_c ck_85_4 (rfl)))))
set_option maxRecDepth 100000 in
theorem ck_86_0 : mk_86_0.all (okE 2 prog_2_method_13_code) = true := by decide +kernel
set_option maxRecDepth 100000 in
theorem ck_86_1 : mk_86_1.all (okE 2 prog_2_method_13_code) = true := by decide +kernel
set_option maxRecDepth 100000 in
theorem ck_86 : mk_86.all (fun l => l.all (okE 2 prog_2_method_13_code)) = true := all_c ck_86_0 (all_c ck_86_1 (rfl))
set_option maxRecDepth 100000 in
theorem ck_87_0 : mk_87_0.all (okE 0 prog_1_method_22_code) = true := by decide +kernel
set_option maxRecDepth 100000 in
theorem ck_87 : mk_87.all (fun l => l.all (okE 0 prog_1_method_22_code)) = true := all_c ck_87_0 (rfl)
set_option maxRecDepth 100000 in
theorem ck_88_0 : mk_88_0.all (okE 0 prog_1_method_23_code) = true := by decide +kernel
set_option maxRecDepth 100000 in
theorem ck_88_1 : mk_88_1.all (okE 0 prog_1_method_23_code) = true := by decide +kernel
set_option maxRecDepth 100000 in
theorem ck_88_2 : mk_88_2.all (okE 0 prog_1_method_23_code) = true := by decide +kernel
set_option maxRecDepth 100000 in
theorem ck_88 : mk_88.all (fun l => l.all (okE 0 prog_1_method_23_code)) = true := all_c ck_88_0 (all_c ck_88_1 (all_c ck_88_2 (rfl)))
set_option maxRecDepth 100000 in
theorem ck_89_0 : mk_89_0.all (okE 5 prog_11_method_2_code) = true := by decide +kernel
set_option maxRecDepth 100000 in
theorem ck_89_1 : mk_89_1.all (okE 5 prog_11_method_2_code) = true := by decide +kernel
set_option maxRecDepth 100000 in
theorem ck_89 : mk_89.all (fun l => l.all (okE 5 prog_11_method_2_code)) = true := all_c ck_89_0 (all_c ck_89_1 (rfl))
set_option maxRecDepth 100000 in
theorem ck_90_0 : mk_90_0.all (okE 0 prog_1_method_24_code) = true := by decide +kernel
set_option maxRecDepth 100000 in
theorem ck_90 : mk_90.all (fun l => l.all (okE 0 prog_1_method_24_code)) = true := all_c ck_90_0 (rfl)
set_option maxRecDepth 100000 in
theorem ck_91_0 : mk_91_0.all (okE 0 prog_1_method_25_code) = true := by decide +kernel
set_option maxRecDepth 100000 in
theorem ck_91_1 : mk_91_1.all (okE 0 prog_1_method_25_code) = true := by decide +kernel
set_option maxRecDepth 100000 in
theorem ck_91_2 : mk_91_2.all (okE 0 prog_1_method_25_code) = true := by decide +kernel
set_option maxRecDepth 100000 in
theorem ck_91 : mk_91.all (fun l => l.all (okE 0 prog_1_method_25_code)) = true := all_c ck_91_0 (all_c ck_91_1 (all_c ck_91_2 (rfl)))
set_option maxRecDepth 100000 in
theorem ck_92_0 : mk_92_0.all (okE 5 prog_11_method_3_code) = true := by decide +kernel
set_option maxRecDepth 100000 in
theorem ck_92_1 : mk_92_1.all (okE 5 prog_11_method_3_code) = true := by decide +kernel
set_option maxRecDepth 100000 in
theorem ck_92_2 : mk_92_2.all (okE 5 prog_11_method_3_code) = true := by decide +kernel
set_option maxRecDepth 100000 in
theorem ck_92 : mk_92.all (fun l => l.all (okE 5 prog_11_method_3_code)) = true := all_c ck_92_0 (all_c ck_92_1 (all_c ck_92_2 (rfl)))
set_option maxRecDepth 100000 in
theorem ck_93_0 : mk_93_0.all (okE 5 prog_11_method_7_code) = true := by decide +kernel
set_option maxRecDepth 100000 in
theorem ck_93_1 : mk_93_1.all (okE 5 prog_11_method_7_code) = true := by decide +kernel
set_option maxRecDepth 100000 in
theorem ck_93_2 : mk_93_2.all (okE 5 prog_11_method_7_code) = true := by decide +kernel
set_option maxRecDepth 100000 in
theorem ck_93_3 : mk_93_3.all (okE 5 prog_11_method_7_code) = true := by decide +kernel
set_option maxRecDepth 100000 in
theorem ck_93_4 : mk_93_4.all (okE 5 prog_11_method_7_code) = true := by decide +kernel
set_option maxRecDepth 100000 in
theorem ck_93_5 : mk_93_5.all (okE 5 prog_11_method_7_code) = true := by decide +kernel
set_option maxRecDepth 100000 in
theorem ck_93_6 : mk_93_6.all (okE 5 prog_11_method_7_code) = true := by decide +kernel
set_option maxRecDepth 100000 in
theorem ck_93 : mk_93.all (fun l => l.all (okE 5 prog_11_method_7_code)) = true := all_c ck_93_0 (all_c ck_93_1 (all_c ck_93_2 (all_c ck_93_3 (all_c ck_93_4 (all_c ck_93_5 (all_c ck_93_6 (rfl)))))))
set_option maxRecDepth 100000 in
theorem ck_94_0 : mk_94_0.all (okE 5 prog_11_method_5_code) = true := by decide +kernel
set_option maxRecDepth 100000 in
theorem ck_94 : mk_94.all (fun l => l.all (okE 5 prog_11_method_5_code)) = true := all_c ck_94_0 (rfl)
set_option maxRecDepth 100000 in
theorem ck_95_0 : mk_95_0.all (okE 5 prog_11_method_4_code) = true := by decide +kernel
set_option maxRecDepth 100000 in
theorem ck_95_1 : mk_95_1.all (okE 5 prog_11_method_4_code) = true := by decide +kernel
set_option maxRecDepth 100000 in
theorem ck_95 : mk_95.all (fun l => l.all (okE 5 prog_11_method_4_code)) = true := all_c ck_95_0 (all_c ck_95_1 (rfl))
set_option maxRecDepth 100000 in
theorem ck_96_0 : mk_96_0.all (okE 5 prog_11_method_9_code) = true := by decide +kernel
set_option maxRecDepth 100000 in
theorem ck_96_1 : mk_96_1.all (okE 5 prog_11_method_9_code) = true := by decide +kernel
set_option maxRecDepth 100000 in
theorem ck_96_2 : mk_96_2.all (okE 5 prog_11_method_9_code) = true := by decide +kernel
set_option maxRecDepth 100000 in
theorem ck_96 : mk_96.all (fun l => l.all (okE 5 prog_11_method_9_code)) = true := all_c ck_96_0 (all_c ck_96_1 (all_c ck_96_2 (rfl)))
set_option maxRecDepth 100000 in
theorem ck_97_0 : mk_97_0.all (okE 5 prog_11_method_10_code) = true := by decide +kernel
set_option maxRecDepth 100000 in
theorem ck_97_1 : mk_97_1.all (okE 5 prog_11_method_10_code) = true := by decide +kernel
set_option maxRecDepth 100000 in
theorem ck_97 : mk_97.all (fun l => l.all (okE 5 prog_11_method_10_code)) = true := all_c ck_97_0 (all_c ck_97_1 (rfl))
set_option maxRecDepth 100000 in
theorem ck_98_0 : mk_98_0.all (okE 5 prog_11_method_8_code) = true := by decide +kernel
set_option maxRecDepth 100000 in
theorem ck_98_1 : mk_98_1.all (okE 5 prog_11_method_8_code) = true := by decide +kernel
set_option maxRecDepth 100000 in
theorem ck_98 : mk_98.all (fun l => l.all (okE 5 prog_11_method_8_code)) = true := all_c ck_98_0 (all_c ck_98_1 (rfl))
set_option maxRecDepth 100000 in
theorem ck_99_0 : mk_99_0.all (okE 5 prog_11_method_6_code) = true := by decide +kernel
set_option maxRecDepth 100000 in
theorem ck_99 : mk_99.all (fun l => l.all (okE 5 prog_11_method_6_code)) = true := all_c ck_99_0 (rfl)
set_option maxRecDepth 100000 in
theorem ck_100_0 : mk_100_0.all (okE 5 prog_11_method_14_code) = true := by decide +kernel
set_option maxRecDepth 100000 in
theorem ck_100_1 : mk_100_1.all (okE 5 prog_11_method_14_code) = true := by decide +kernel
set_option maxRecDepth 100000 in
theorem ck_100_2 : mk_100_2.all (okE 5 prog_11_method_14_code) = true := by decide +kernel
set_option maxRecDepth 100000 in
theorem ck_100_3 : mk_100_3.all (okE 5 prog_11_method_14_code) = true := by decide +kernel
set_option maxRecDepth 100000 in
theorem ck_100_4 : mk_100_4.all (okE 5 prog_11_method_14_code) = true := by decide +kernel
set_option maxRecDepth 100000 in
theorem ck_100_5 : mk_100_5.all (okE 5 prog_11_method_14_code) = true := by decide +kernel
set_option maxRecDepth 100000 in
theorem ck_100_6 : mk_100_6.all (okE 5 prog_11_method_14_code) = true := by decide +kernel
set_option maxRecDepth 100000 in
theorem ck_100 : mk_100.all (fun l => l.all (okE 5 prog_11_method_14_code)) = true := all_c ck_100_0 (all_c ck_100_1 (all_c ck_100_2 (all_c ck_100_3 (all_c ck_100_4 (all_c ck_100_5 (all_c ck_100_6 (rfl)))))))
set_option maxRecDepth 100000 in
theorem ck_101_0 : mk_101_0.all (okE 5 prog_11_method_12_code) = true := by decide +kernel
set_option maxRecDepth 100000 in
theorem ck_101 : mk_101.all (fun l => l.all (okE 5 prog_11_method_12_code)) = true := all_c ck_101_0 (rfl)
set_option maxRecDepth 100000 in
theorem ck_102_0 : mk_102_0.all (okE 5 prog_11_method_11_code) = true := by decide +kernel
set_option maxRecDepth 100000 in
theorem ck_102_1 : mk_102_1.all (okE 5 prog_11_method_11_code) = true := by decide +kernel
set_option maxRecDepth 100000 in
theorem ck_102 : mk_102.all (fun l => l.all (okE 5 prog_11_method_11_code)) = true := all_c ck_102_0 (all_c ck_102_1 (rfl))
set_option maxRecDepth 100000 in
theorem ck_103_0 : mk_103_0.all (okE 5 prog_11_method_15_code) = true := by decide +kernel
set_option maxRecDepth 100000 in
theorem ck_103_1 : mk_103_1.all (okE 5 prog_11_method_15_code) = true := by decide +kernel
set_option maxRecDepth 100000 in
theorem ck_103 : mk_103.all (fun l => l.all (okE 5 prog_11_method_15_code)) = true := all_c ck_103_0 (all_c ck_103_1 (rfl))
set_option maxRecDepth 100000 in
theorem ck_104_0 : mk_104_0.all (okE 5 prog_11_method_16_code) = true := by decide +kernel
set_option maxRecDepth 100000 in
theorem ck_104_1 : mk_104_1.all (okE 5 prog_11_method_16_code) = true := by decide +kernel
set_option maxRecDepth 100000 in
theorem ck_104 : mk_104.all (fun l => l.all (okE 5 prog_11_method_16_code)) = true := all_c ck_104_0 (all_c ck_104_1 (rfl))
set_option maxRecDepth 100000 in
theorem ck_105_0 : mk_105_0.all (okE 5 prog_11_method_17_code) = true := by decide +kernel
set_option maxRecDepth 100000 in
theorem ck_105_1 : mk_105_1.all (okE 5 prog_11_method_17_code) = true := by decide +kernel
set_option maxRecDepth 100000 in
theorem ck_105_2 : mk_105_2.all (okE 5 prog_11_method_17_code) = true := by decide +kernel
set_option maxRecDepth 100000 in
theorem ck_105_3 : mk_105_3.all (okE 5 prog_11_method_17_code) = true := by decide +kernel
set_option maxRecDepth 100000 in
theorem ck_105_4 : mk_105_4.all (okE 5 prog_11_method_17_code) = true := by decide +kernel
set_option maxRecDepth 100000 in
theorem ck_105 : mk_105.all (fun l => l.all (okE 5 prog_11_method_17_code)) = true := all_c ck_105_0 (all_c ck_105_1 (all_c ck_105_2 (all_c ck_105_3 (all_c ck_105_4 (rfl)))))
set_option maxRecDepth 100000 in
theorem ck_106_0 : mk_106_0.all (okE 5 prog_11_method_21_code) = true := by decide +kernel
set_option maxRecDepth 100000 in
theorem ck_106 : mk_106.all (fun l => l.all (okE 5 prog_11_method_21_code)) = true := all_c ck_106_0 (rfl)
set_option maxRecDepth 100000 in
theorem ck_107_0 : mk_107_0.all (okE 5 prog_11_method_13_code) = true := by decide +kernel
set_option maxRecDepth 100000 in
theorem ck_107_1 : mk_107_1.all (okE 5 prog_11_method_13_code) = true := by decide +kernel
set_option maxRecDepth 100000 in
theorem ck_107 : mk_107.all (fun l => l.all (okE 5 prog_11_method_13_code)) = true := all_c ck_107_0 (all_c ck_107_1 (rfl))
set_option maxRecDepth 100000 in
theorem ck_108_0 : mk_108_0.all (okE 5 prog_11_method_22_code) = true := by decide +kernel
set_option maxRecDepth 100000 in
theorem ck_108 : mk_108.all (fun l => l.all (okE 5 prog_11_method_22_code)) = true := all_c ck_108_0 (rfl)
set_option maxRecDepth 100000 in
theorem ck_109_0 : mk_109_0.all (okE 5 prog_11_method_18_code) = true := by decide +kernel
set_option maxRecDepth 100000 in
theorem ck_109_1 : mk_109_1.all (okE 5 prog_11_method_18_code) = true := by decide +kernel
set_option maxRecDepth 100000 in
theorem ck_109_2 : mk_109_2.all (okE 5 prog_11_method_18_code) = true := by decide +kernel
set_option maxRecDepth 100000 in
theorem ck_109 : mk_109.all (fun l => l.all (okE 5 prog_11_method_18_code)) = true := all_c ck_109_0 (all_c ck_109_1 (all_c ck_109_2 (rfl)))
set_option maxRecDepth 100000 in
theorem ck_110_0 : mk_110_0.all (okE 5 prog_11_method_19_code) = true := by decide +kernel
set_option maxRecDepth 100000 in
theorem ck_110_1 : mk_110_1.all (okE 5 prog_11_method_19_code) = true := by decide +kernel
set_option maxRecDepth 100000 in
theorem ck_110_2 : mk_110_2.all (okE 5 prog_11_method_19_code) = true := by decide +kernel
set_option maxRecDepth 100000 in
theorem ck_110 : mk_110.all (fun l => l.all (okE 5 prog_11_method_19_code)) = true := all_c ck_110_0 (all_c ck_110_1 (all_c ck_110_2 (rfl)))
set_option maxRecDepth 100000 in
theorem ck_111_0 : mk_111_0.all (okE 5 prog_11_method_20_code) = true := by decide +kernel
set_option maxRecDepth 100000 in
theorem ck_111_1 : mk_111_1.all (okE 5 prog_11_method_20_code) = true := by decide +kernel
set_option maxRecDepth 100000 in
theorem ck_111_2 : mk_111_2.all (okE 5 prog_11_method_20_code) = true := by decide +kernel
set_option maxRecDepth 100000 in
theorem ck_111_3 : mk_111_3.all (okE 5 prog_11_method_20_code) = true := by decide +kernel
set_option maxRecDepth 100000 in
theorem ck_111 : mk_111.all (fun l => l.all (okE 5 prog_11_method_20_code)) = true := all_c ck_111_0 (all_c ck_111_1 (all_c ck_111_2 (all_c ck_111_3 (rfl))))
set_option maxRecDepth 100000 in
theorem ck_112_0 : mk_112_0.all (okE 6 prog_8_method_3_code) = true := by decide +kernel
set_option maxRecDepth 100000 in
theorem ck_112_1 : mk_112_1.all (okE 6 prog_8_method_3_code) = true := by decide +kernel
set_option maxRecDepth 100000 in
theorem ck_112_2 : mk_112_2.all (okE 6 prog_8_method_3_code) = true := by decide +kernel
set_option maxRecDepth 100000 in
theorem ck_112 : mk_112.all (fun l => l.all (okE 6 prog_8_method_3_code)) = true := all_c ck_112_0 (all_c ck_112_1 (all_c ck_112_2 (rfl)))
set_option maxRecDepth 100000 in
theorem ck_113_0 : mk_113_0.all (okE 15 prog_21_method_123_code) = true := by decide +kernel
set_option maxRecDepth 100000 in
theorem ck_113_1 : mk_113_1.all (okE 15 prog_21_method_123_code) = true := by decide +kernel
set_option maxRecDepth 100000 in
theorem ck_113 : mk_113.all (fun l => l.all (okE 15 prog_21_method_123_code)) = true := all_c ck_113_0 (all_c ck_113_1 (rfl))
set_option maxRecDepth 100000 in
theorem ck_114_0 : mk_114_0.all (okE 0 prog_1_method_26_code) = true := by decide +kernel
set_option maxRecDepth 100000 in
theorem ck_114_1 : mk_114_1.all (okE 0 prog_1_method_26_code) = true := by decide +kernel
set_option maxRecDepth 100000 in
theorem ck_114 : mk_114.all (fun l => l.all (okE 0 prog_1_method_26_code)) = true := all_c ck_114_0 (all_c ck_114_1 (rfl))
set_option maxRecDepth 100000 in
theorem ck_115_0 : mk_115_0.all (okE 6 prog_8_method_4_code) = true := by decide +kernel
set_option maxRecDepth 100000 in
theorem ck_115_1 : mk_115_1.all (okE 6 prog_8_method_4_code) = true := by decide +kernel
set_option maxRecDepth 100000 in
theorem ck_115 : mk_115.all (fun l => l.all (okE 6 prog_8_method_4_code)) = true := all_c ck_115_0 (all_c ck_115_1 (rfl))
set_option maxRecDepth 100000 in
theorem ck_116_0 : mk_116_0.all (okE 0 prog_1_method_27_code) = true := by decide +kernel
set_option maxRecDepth 100000 in
theorem ck_116_1 : mk_116_1.all (okE 0 prog_1_method_27_code) = true := by decide +kernel
set_option maxRecDepth 100000 in
theorem ck_116_2 : mk_116_2.all (okE 0 prog_1_method_27_code) = true := by decide +kernel
set_option maxRecDepth 100000 in
theorem ck_116_3 : mk_116_3.all (okE 0 prog_1_method_27_code) = true := by decide +kernel
set_option maxRecDepth 100000 in
theorem ck_116_4 : mk_116_4.all (okE 0 prog_1_method_27_code) = true := by decide +kernel
set_option maxRecDepth 100000 in
theorem ck_116 : mk_116.all (fun l => l.all (okE 0 prog_1_method_27_code)) = true := all_c ck_116_0 (all_c ck_116_1 (all_c ck_116_2 (all_c ck_116_3 (all_c ck_116_4 (rfl)))))
set_option maxRecDepth 100000 in
theorem ck_117_0 : mk_117_0.all (okE 6 prog_8_method_5_code) = true := by decide +kernel
set_option maxRecDepth 100000 in
theorem ck_117 : mk_117.all (fun l => l.all (okE 6 prog_8_method_5_code)) = true := all_c ck_117_0 (rfl)
set_option maxRecDepth 100000 in
theorem ck_118_0 : mk_118_0.all (okE 6 prog_8_method_6_code) = true := by decide +kernel
set_option maxRecDepth 100000 in
theorem ck_118_1 : mk_118_1.all (okE 6 prog_8_method_6_code) = true := by decide +kernel
set_option maxRecDepth 100000 in
theorem ck_118_2 : mk_118_2.all (okE 6 prog_8_method_6_code) = true := by decide +kernel
set_option maxRecDepth 100000 in
theorem ck_118_3 : mk_118_3.all (okE 6 prog_8_method_6_code) = true := by decide +kernel
set_option maxRecDepth 100000 in
theorem ck_118 : mk_118.all (fun l => l.all (okE 6 prog_8_method_6_code)) = true := all_c ck_118_0 (all_c ck_118_1 (all_c ck_118_2 (all_c ck_118_3 (rfl))))
set_option maxRecDepth 100000 in
theorem ck_119_0 : mk_119_0.all (okE 1 prog_6_method_4_code) = true := by decide +kernel
set_option maxRecDepth 100000 in
theorem ck_119 : mk_119.all (fun l => l.all (okE 1 prog_6_method_4_code)) = true := all_c ck_119_0 (rfl)
set_option maxRecDepth 100000 in
theorem ck_120_0 : mk_120_0.all (okE 2 prog_2_method_9_code) = true := by decide +kernel
set_option maxRecDepth 100000 in
theorem ck_120 : mk_120.all (fun l => l.all (okE 2 prog_2_method_9_code)) = true := all_c ck_120_0 (rfl)
