/-! the code tables hold, by the kernel -/
set_option maxRecDepth 100000 in
theorem ck_0_0 : mk_0_0.all (okE 0 prog_1_method_1_code) = true := all_okGb (k := 0) (by decide +kernel)
set_option maxRecDepth 100000 in
theorem ck_0_1 : mk_0_1.all (okE 0 prog_1_method_1_code) = true := all_okGb (k := 32) (by decide +kernel)
set_option maxRecDepth 100000 in
theorem ck_0_2 : mk_0_2.all (okE 0 prog_1_method_1_code) = true := all_okGb (k := 64) (by decide +kernel)
set_option maxRecDepth 100000 in
theorem ck_0_3 : mk_0_3.all (okE 0 prog_1_method_1_code) = true := all_okGb (k := 96) (by decide +kernel)
set_option maxRecDepth 100000 in
theorem ck_0_4 : mk_0_4.all (okE 0 prog_1_method_1_code) = true := all_okGb (k := 128) (by decide +kernel)
set_option maxRecDepth 100000 in
theorem ck_0_5 : mk_0_5.all (okE 0 prog_1_method_1_code) = true := all_okGb (k := 160) (by decide +kernel)
set_option maxRecDepth 100000 in
theorem ck_0 : mk_0.all (fun l => l.all (okE 0 prog_1_method_1_code)) = true := all_c ck_0_0 (all_c ck_0_1 (all_c ck_0_2 (all_c ck_0_3 (all_c ck_0_4 (all_c ck_0_5 (rfl))))))
set_option maxRecDepth 100000 in
theorem ck_1_0 : mk_1_0.all (okE 1 prog_6_method_1_code) = true := by decide +kernel
set_option maxRecDepth 100000 in
theorem ck_1_1 : mk_1_1.all (okE 1 prog_6_method_1_code) = true := by decide +kernel
set_option maxRecDepth 100000 in
theorem ck_1_2 : mk_1_2.all (okE 1 prog_6_method_1_code) = true := all_okGb (k := 64) (by decide +kernel)
set_option maxRecDepth 100000 in
theorem ck_1 : mk_1.all (fun l => l.all (okE 1 prog_6_method_1_code)) = true := all_c ck_1_0 (all_c ck_1_1 (all_c ck_1_2 (rfl)))
set_option maxRecDepth 100000 in
theorem ck_2_0 : mk_2_0.all (okE 2 prog_2_method_1_code) = true := by decide +kernel
set_option maxRecDepth 100000 in
theorem ck_2_1 : mk_2_1.all (okE 2 prog_2_method_1_code) = true := by decide +kernel
set_option maxRecDepth 100000 in
theorem ck_2_2 : mk_2_2.all (okE 2 prog_2_method_1_code) = true := by decide +kernel
set_option maxRecDepth 100000 in
theorem ck_2_3 : mk_2_3.all (okE 2 prog_2_method_1_code) = true := by decide +kernel
set_option maxRecDepth 100000 in
theorem ck_2_4 : mk_2_4.all (okE 2 prog_2_method_1_code) = true := by decide +kernel
set_option maxRecDepth 100000 in
theorem ck_2 : mk_2.all (fun l => l.all (okE 2 prog_2_method_1_code)) = true := all_c ck_2_0 (all_c ck_2_1 (all_c ck_2_2 (all_c ck_2_3 (all_c ck_2_4 (rfl)))))
set_option maxRecDepth 100000 in
theorem ck_3_0 : mk_3_0.all (okE 3 prog_9_method_1_code) = true := by decide +kernel
set_option maxRecDepth 100000 in
theorem ck_3_1 : mk_3_1.all (okE 3 prog_9_method_1_code) = true := by decide +kernel
set_option maxRecDepth 100000 in
theorem ck_3 : mk_3.all (fun l => l.all (okE 3 prog_9_method_1_code)) = true := all_c ck_3_0 (all_c ck_3_1 (rfl))
set_option maxRecDepth 100000 in
theorem ck_4_0 : mk_4_0.all (okE 15 prog_21_method_103_code) = true := all_okGb (k := 0) (by decide +kernel)
set_option maxRecDepth 100000 in
theorem ck_4 : mk_4.all (fun l => l.all (okE 15 prog_21_method_103_code)) = true := all_c ck_4_0 (rfl)
set_option maxRecDepth 100000 in
theorem ck_5_0 : mk_5_0.all (okE 4 prog_3_method_1_code) = true := by decide +kernel
set_option maxRecDepth 100000 in
theorem ck_5_1 : mk_5_1.all (okE 4 prog_3_method_1_code) = true := by decide +kernel
set_option maxRecDepth 100000 in
theorem ck_5_2 : mk_5_2.all (okE 4 prog_3_method_1_code) = true := by decide +kernel
set_option maxRecDepth 100000 in
theorem ck_5_3 : mk_5_3.all (okE 4 prog_3_method_1_code) = true := all_okGb (k := 96) (by decide +kernel)
set_option maxRecDepth 100000 in
theorem ck_5 : mk_5.all (fun l => l.all (okE 4 prog_3_method_1_code)) = true := all_c ck_5_0 (all_c ck_5_1 (all_c ck_5_2 (all_c ck_5_3 (rfl))))
set_option maxRecDepth 100000 in
theorem ck_6_0 : mk_6_0.all (okE 5 prog_11_method_1_code) = true := by decide +kernel
set_option maxRecDepth 100000 in
theorem ck_6_1 : mk_6_1.all (okE 5 prog_11_method_1_code) = true := by decide +kernel
set_option maxRecDepth 100000 in
theorem ck_6 : mk_6.all (fun l => l.all (okE 5 prog_11_method_1_code)) = true := all_c ck_6_0 (all_c ck_6_1 (rfl))
set_option maxRecDepth 100000 in
theorem ck_7_0 : mk_7_0.all (okE 6 prog_8_method_1_code) = true := by decide +kernel
set_option maxRecDepth 100000 in
theorem ck_7_1 : mk_7_1.all (okE 6 prog_8_method_1_code) = true := by decide +kernel
set_option maxRecDepth 100000 in
theorem ck_7 : mk_7.all (fun l => l.all (okE 6 prog_8_method_1_code)) = true := all_c ck_7_0 (all_c ck_7_1 (rfl))
set_option maxRecDepth 100000 in
theorem ck_8_0 : mk_8_0.all (okE 7 prog_4_method_1_code) = true := by decide +kernel
set_option maxRecDepth 100000 in
theorem ck_8_1 : mk_8_1.all (okE 7 prog_4_method_1_code) = true := by decide +kernel
set_option maxRecDepth 100000 in
theorem ck_8_2 : mk_8_2.all (okE 7 prog_4_method_1_code) = true := by decide +kernel
set_option maxRecDepth 100000 in
theorem ck_8_3 : mk_8_3.all (okE 7 prog_4_method_1_code) = true := by decide +kernel
set_option maxRecDepth 100000 in
theorem ck_8 : mk_8.all (fun l => l.all (okE 7 prog_4_method_1_code)) = true := all_c ck_8_0 (all_c ck_8_1 (all_c ck_8_2 (all_c ck_8_3 (rfl))))
set_option maxRecDepth 100000 in
theorem ck_9_0 : mk_9_0.all (okE 8 prog_7_method_1_code) = true := by decide +kernel
set_option maxRecDepth 100000 in
theorem ck_9_1 : mk_9_1.all (okE 8 prog_7_method_1_code) = true := by decide +kernel
set_option maxRecDepth 100000 in
theorem ck_9_2 : mk_9_2.all (okE 8 prog_7_method_1_code) = true := all_okGb (k := 64) (by decide +kernel)
set_option maxRecDepth 100000 in
theorem ck_9 : mk_9.all (fun l => l.all (okE 8 prog_7_method_1_code)) = true := all_c ck_9_0 (all_c ck_9_1 (all_c ck_9_2 (rfl)))
set_option maxRecDepth 100000 in
theorem ck_10_0 : mk_10_0.all (okE 9 prog_12_method_1_code) = true := by decide +kernel
set_option maxRecDepth 100000 in
theorem ck_10_1 : mk_10_1.all (okE 9 prog_12_method_1_code) = true := by decide +kernel
set_option maxRecDepth 100000 in
theorem ck_10_2 : mk_10_2.all (okE 9 prog_12_method_1_code) = true := all_okGb (k := 64) (by decide +kernel)
set_option maxRecDepth 100000 in
theorem ck_10 : mk_10.all (fun l => l.all (okE 9 prog_12_method_1_code)) = true := all_c ck_10_0 (all_c ck_10_1 (all_c ck_10_2 (rfl)))
set_option maxRecDepth 100000 in
theorem ck_11_0 : mk_11_0.all (okE 10 prog_10_method_1_code) = true := by decide +kernel
set_option maxRecDepth 100000 in
theorem ck_11_1 : mk_11_1.all (okE 10 prog_10_method_1_code) = true := by decide +kernel
set_option maxRecDepth 100000 in
theorem ck_11 : mk_11.all (fun l => l.all (okE 10 prog_10_method_1_code)) = true := all_c ck_11_0 (all_c ck_11_1 (rfl))
set_option maxRecDepth 100000 in
theorem ck_12_0 : mk_12_0.all (okE 11 prog_5_method_1_code) = true := by decide +kernel
set_option maxRecDepth 100000 in
theorem ck_12 : mk_12.all (fun l => l.all (okE 11 prog_5_method_1_code)) = true := all_c ck_12_0 (rfl)
set_option maxRecDepth 100000 in
theorem ck_13_0 : mk_13_0.all (okE 0 prog_1_method_4_code) = true := all_okGb (k := 0) (by decide +kernel)
set_option maxRecDepth 100000 in
theorem ck_13 : mk_13.all (fun l => l.all (okE 0 prog_1_method_4_code)) = true := all_c ck_13_0 (rfl)
set_option maxRecDepth 100000 in
theorem ck_14_0 : mk_14_0.all (okE 1 prog_6_method_6_code) = true := all_okGb (k := 0) (by decide +kernel)
set_option maxRecDepth 100000 in
theorem ck_14_1 : mk_14_1.all (okE 1 prog_6_method_6_code) = true := all_okGb (k := 32) (by decide +kernel)
set_option maxRecDepth 100000 in
theorem ck_14_2 : mk_14_2.all (okE 1 prog_6_method_6_code) = true := all_okGb (k := 64) (by decide +kernel)
set_option maxRecDepth 100000 in
theorem ck_14_3 : mk_14_3.all (okE 1 prog_6_method_6_code) = true := all_okGb (k := 96) (by decide +kernel)
set_option maxRecDepth 100000 in
theorem ck_14_4 : mk_14_4.all (okE 1 prog_6_method_6_code) = true := all_okGb (k := 128) (by decide +kernel)
set_option maxRecDepth 100000 in
theorem ck_14 : mk_14.all (fun l => l.all (okE 1 prog_6_method_6_code)) = true := all_c ck_14_0 (all_c ck_14_1 (all_c ck_14_2 (all_c ck_14_3 (all_c ck_14_4 (rfl)))))
set_option maxRecDepth 100000 in
theorem ck_15_0 : mk_15_0.all (okE 0 prog_1_method_2_code) = true := all_okGb (k := 0) (by decide +kernel)
set_option maxRecDepth 100000 in
theorem ck_15 : mk_15.all (fun l => l.all (okE 0 prog_1_method_2_code)) = true := all_c ck_15_0 (rfl)
set_option maxRecDepth 100000 in
theorem ck_16_0 : mk_16_0.all (okE 1 prog_6_method_7_code) = true := all_okGb (k := 0) (by decide +kernel)
set_option maxRecDepth 100000 in
theorem ck_16 : mk_16.all (fun l => l.all (okE 1 prog_6_method_7_code)) = true := all_c ck_16_0 (rfl)
set_option maxRecDepth 100000 in
theorem ck_17_0 : mk_17_0.all (okE 0 prog_1_method_5_code) = true := all_okGb (k := 0) (by decide +kernel)
set_option maxRecDepth 100000 in
theorem ck_17 : mk_17.all (fun l => l.all (okE 0 prog_1_method_5_code)) = true := all_c ck_17_0 (rfl)
set_option maxRecDepth 100000 in
theorem ck_18_0 : mk_18_0.all (okE 1 prog_6_method_9_code) = true := all_okGb (k := 0) (by decide +kernel)
set_option maxRecDepth 100000 in
theorem ck_18_1 : mk_18_1.all (okE 1 prog_6_method_9_code) = true := all_okGb (k := 32) (by decide +kernel)
set_option maxRecDepth 100000 in
theorem ck_18_2 : mk_18_2.all (okE 1 prog_6_method_9_code) = true := all_okGb (k := 64) (by decide +kernel)
set_option maxRecDepth 100000 in
theorem ck_18_3 : mk_18_3.all (okE 1 prog_6_method_9_code) = true := all_okGb (k := 96) (by decide +kernel)
set_option maxRecDepth 100000 in
theorem ck_18 : mk_18.all (fun l => l.all (okE 1 prog_6_method_9_code)) = true := all_c ck_18_0 (all_c ck_18_1 (all_c ck_18_2 (all_c ck_18_3 (rfl))))
set_option maxRecDepth 100000 in
theorem ck_19_0 : mk_19_0.all (okE 1 prog_6_method_2_code) = true := all_okGb (k := 0) (by decide +kernel)
set_option maxRecDepth 100000 in
theorem ck_19 : mk_19.all (fun l => l.all (okE 1 prog_6_method_2_code)) = true := all_c ck_19_0 (rfl)
set_option maxRecDepth 100000 in
theorem ck_20_0 : mk_20_0.all (okE 1 prog_6_method_8_code) = true := all_okGb (k := 0) (by decide +kernel)
set_option maxRecDepth 100000 in
theorem ck_20 : mk_20.all (fun l => l.all (okE 1 prog_6_method_8_code)) = true := all_c ck_20_0 (rfl)
set_option maxRecDepth 100000 in
theorem ck_21_0 : mk_21_0.all (okE 14 prog_16_method_69_code) = true := all_okGb (k := 0) (by decide +kernel)
set_option maxRecDepth 100000 in
theorem ck_21 : mk_21.all (fun l => l.all (okE 14 prog_16_method_69_code)) = true := all_c ck_21_0 (rfl)
set_option maxRecDepth 100000 in
theorem ck_22_0 : mk_22_0.all (okE 14 prog_16_method_65_code) = true := all_okGb (k := 0) (by decide +kernel)
set_option maxRecDepth 100000 in
theorem ck_22 : mk_22.all (fun l => l.all (okE 14 prog_16_method_65_code)) = true := all_c ck_22_0 (rfl)
set_option maxRecDepth 100000 in
theorem ck_23_0 : mk_23_0.all (okE 1 prog_6_method_10_code) = true := all_okGb (k := 0) (by decide +kernel)
set_option maxRecDepth 100000 in
theorem ck_23_1 : mk_23_1.all (okE 1 prog_6_method_10_code) = true := all_okGb (k := 32) (by decide +kernel)
set_option maxRecDepth 100000 in
theorem ck_23_2 : mk_23_2.all (okE 1 prog_6_method_10_code) = true := all_okGb (k := 64) (by decide +kernel)
set_option maxRecDepth 100000 in
theorem ck_23_3 : mk_23_3.all (okE 1 prog_6_method_10_code) = true := all_okGb (k := 96) (by decide +kernel)
set_option maxRecDepth 100000 in
theorem ck_23_4 : mk_23_4.all (okE 1 prog_6_method_10_code) = true := all_okGb (k := 128) (by decide +kernel)
set_option maxRecDepth 100000 in
theorem ck_23 : mk_23.all (fun l => l.all (okE 1 prog_6_method_10_code)) = true := all_c ck_23_0 (all_c ck_23_1 (all_c ck_23_2 (all_c ck_23_3 (all_c ck_23_4 (rfl)))))
set_option maxRecDepth 100000 in
theorem ck_24_0 : mk_24_0.all (okE 0 prog_1_method_6_code) = true := all_okGb (k := 0) (by decide +kernel)
set_option maxRecDepth 100000 in
theorem ck_24_1 : mk_24_1.all (okE 0 prog_1_method_6_code) = true := all_okGb (k := 32) (by decide +kernel)
set_option maxRecDepth 100000 in
theorem ck_24 : mk_24.all (fun l => l.all (okE 0 prog_1_method_6_code)) = true := all_c ck_24_0 (all_c ck_24_1 (rfl))
set_option maxRecDepth 100000 in
theorem ck_25_0 : mk_25_0.all (okE 1 prog_6_method_11_code) = true := all_okGb (k := 0) (by decide +kernel)
set_option maxRecDepth 100000 in
theorem ck_25 : mk_25.all (fun l => l.all (okE 1 prog_6_method_11_code)) = true := all_c ck_25_0 (rfl)
set_option maxRecDepth 100000 in
theorem ck_26_0 : mk_26_0.all (okE 0 prog_1_method_7_code) = true := all_okGb (k := 0) (by decide +kernel)
set_option maxRecDepth 100000 in
theorem ck_26_1 : mk_26_1.all (okE 0 prog_1_method_7_code) = true := all_okGb (k := 32) (by decide +kernel)
set_option maxRecDepth 100000 in
theorem ck_26_2 : mk_26_2.all (okE 0 prog_1_method_7_code) = true := all_okGb (k := 64) (by decide +kernel)
set_option maxRecDepth 100000 in
theorem ck_26 : mk_26.all (fun l => l.all (okE 0 prog_1_method_7_code)) = true := all_c ck_26_0 (all_c ck_26_1 (all_c ck_26_2 (rfl)))
set_option maxRecDepth 100000 in
theorem ck_27_0 : mk_27_0.all (okE 1 prog_6_method_15_code) = true := all_okGb (k := 0) (by decide +kernel)
set_option maxRecDepth 100000 in
theorem ck_27 : mk_27.all (fun l => l.all (okE 1 prog_6_method_15_code)) = true := all_c ck_27_0 (rfl)
set_option maxRecDepth 100000 in
theorem ck_28_0 : mk_28_0.all (okE 2 prog_2_method_31_code) = true := all_okGb (k := 0) (by decide +kernel)
set_option maxRecDepth 100000 in
theorem ck_28_1 : mk_28_1.all (okE 2 prog_2_method_31_code) = true := all_okGb (k := 32) (by decide +kernel)
set_option maxRecDepth 100000 in
theorem ck_28_2 : mk_28_2.all (okE 2 prog_2_method_31_code) = true := all_okGb (k := 64) (by decide +kernel)
set_option maxRecDepth 100000 in
theorem ck_28 : mk_28.all (fun l => l.all (okE 2 prog_2_method_31_code)) = true := all_c ck_28_0 (all_c ck_28_1 (all_c ck_28_2 (rfl)))
set_option maxRecDepth 100000 in
theorem ck_29_0 : mk_29_0.all (okE 7 prog_4_method_17_code) = true := all_okGb (k := 0) (by decide +kernel)
set_option maxRecDepth 100000 in
theorem ck_29_1 : mk_29_1.all (okE 7 prog_4_method_17_code) = true := all_okGb (k := 32) (by decide +kernel)
set_option maxRecDepth 100000 in
theorem ck_29_2 : mk_29_2.all (okE 7 prog_4_method_17_code) = true := all_okGb (k := 64) (by decide +kernel)
set_option maxRecDepth 100000 in
theorem ck_29 : mk_29.all (fun l => l.all (okE 7 prog_4_method_17_code)) = true := all_c ck_29_0 (all_c ck_29_1 (all_c ck_29_2 (rfl)))
set_option maxRecDepth 100000 in
theorem ck_30_0 : mk_30_0.all (okE 7 prog_4_method_18_code) = true := all_okGb (k := 0) (by decide +kernel)
set_option maxRecDepth 100000 in
theorem ck_30_1 : mk_30_1.all (okE 7 prog_4_method_18_code) = true := all_okGb (k := 32) (by decide +kernel)
set_option maxRecDepth 100000 in
theorem ck_30 : mk_30.all (fun l => l.all (okE 7 prog_4_method_18_code)) = true := all_c ck_30_0 (all_c ck_30_1 (rfl))
set_option maxRecDepth 100000 in
theorem ck_31_0 : mk_31_0.all (okE 2 prog_2_method_30_code) = true := all_okGb (k := 0) (by decide +kernel)
set_option maxRecDepth 100000 in
theorem ck_31_1 : mk_31_1.all (okE 2 prog_2_method_30_code) = true := all_okGb (k := 32) (by decide +kernel)
set_option maxRecDepth 100000 in
theorem ck_31_2 : mk_31_2.all (okE 2 prog_2_method_30_code) = true := all_okGb (k := 64) (by decide +kernel)
set_option maxRecDepth 100000 in
theorem ck_31 : mk_31.all (fun l => l.all (okE 2 prog_2_method_30_code)) = true := all_c ck_31_0 (all_c ck_31_1 (all_c ck_31_2 (rfl)))
set_option maxRecDepth 100000 in
theorem ck_32_0 : mk_32_0.all (okE 7 prog_4_method_19_code) = true := all_okGb (k := 0) (by decide +kernel)
set_option maxRecDepth 100000 in
theorem ck_32_1 : mk_32_1.all (okE 7 prog_4_method_19_code) = true := all_okGb (k := 32) (by decide +kernel)
set_option maxRecDepth 100000 in
theorem ck_32_2 : mk_32_2.all (okE 7 prog_4_method_19_code) = true := all_okGb (k := 64) (by decide +kernel)
set_option maxRecDepth 100000 in
theorem ck_32_3 : mk_32_3.all (okE 7 prog_4_method_19_code) = true := all_okGb (k := 96) (by decide +kernel)
set_option maxRecDepth 100000 in
theorem ck_32_4 : mk_32_4.all (okE 7 prog_4_method_19_code) = true := all_okGb (k := 128) (by decide +kernel)
set_option maxRecDepth 100000 in
theorem ck_32 : mk_32.all (fun l => l.all (okE 7 prog_4_method_19_code)) = true := all_c ck_32_0 (all_c ck_32_1 (all_c ck_32_2 (all_c ck_32_3 (all_c ck_32_4 (rfl)))))
set_option maxRecDepth 100000 in
theorem ck_33_0 : mk_33_0.all (okE 2 prog_2_method_29_code) = true := all_okGb (k := 0) (by decide +kernel)
set_option maxRecDepth 100000 in
theorem ck_33_1 : mk_33_1.all (okE 2 prog_2_method_29_code) = true := all_okGb (k := 32) (by decide +kernel)
set_option maxRecDepth 100000 in
theorem ck_33 : mk_33.all (fun l => l.all (okE 2 prog_2_method_29_code)) = true := all_c ck_33_0 (all_c ck_33_1 (rfl))
set_option maxRecDepth 100000 in
theorem ck_34_0 : mk_34_0.all (okE 2 prog_2_method_32_code) = true := all_okGb (k := 0) (by decide +kernel)
set_option maxRecDepth 100000 in
theorem ck_34_1 : mk_34_1.all (okE 2 prog_2_method_32_code) = true := all_okGb (k := 32) (by decide +kernel)
set_option maxRecDepth 100000 in
theorem ck_34 : mk_34.all (fun l => l.all (okE 2 prog_2_method_32_code)) = true := all_c ck_34_0 (all_c ck_34_1 (rfl))
set_option maxRecDepth 100000 in
theorem ck_35_0 : mk_35_0.all (okE 0 prog_1_method_8_code) = true := all_okGb (k := 0) (by decide +kernel)
set_option maxRecDepth 100000 in
theorem ck_35 : mk_35.all (fun l => l.all (okE 0 prog_1_method_8_code)) = true := all_c ck_35_0 (rfl)
set_option maxRecDepth 100000 in
theorem ck_36_0 : mk_36_0.all (okE 2 prog_2_method_6_code) = true := all_okGb (k := 0) (by decide +kernel)
set_option maxRecDepth 100000 in
theorem ck_36_1 : mk_36_1.all (okE 2 prog_2_method_6_code) = true := all_okGb (k := 32) (by decide +kernel)
set_option maxRecDepth 100000 in
theorem ck_36_2 : mk_36_2.all (okE 2 prog_2_method_6_code) = true := all_okGb (k := 64) (by decide +kernel)
set_option maxRecDepth 100000 in
theorem ck_36 : mk_36.all (fun l => l.all (okE 2 prog_2_method_6_code)) = true := all_c ck_36_0 (all_c ck_36_1 (all_c ck_36_2 (rfl)))
set_option maxRecDepth 100000 in
theorem ck_37_0 : mk_37_0.all (okE 0 prog_1_method_9_code) = true := all_okGb (k := 0) (by decide +kernel)
set_option maxRecDepth 100000 in
theorem ck_37 : mk_37.all (fun l => l.all (okE 0 prog_1_method_9_code)) = true := all_c ck_37_0 (rfl)
set_option maxRecDepth 100000 in
theorem ck_38_0 : mk_38_0.all (okE 2 prog_2_method_7_code) = true := all_okGb (k := 0) (by decide +kernel)
set_option maxRecDepth 100000 in
theorem ck_38_1 : mk_38_1.all (okE 2 prog_2_method_7_code) = true := all_okGb (k := 32) (by decide +kernel)
set_option maxRecDepth 100000 in
theorem ck_38_2 : mk_38_2.all (okE 2 prog_2_method_7_code) = true := all_okGb (k := 64) (by decide +kernel)
set_option maxRecDepth 100000 in
theorem ck_38_3 : mk_38_3.all (okE 2 prog_2_method_7_code) = true := all_okGb (k := 96) (by decide +kernel)
set_option maxRecDepth 100000 in
theorem ck_38_4 : mk_38_4.all (okE 2 prog_2_method_7_code) = true := all_okGb (k := 128) (by decide +kernel)
set_option maxRecDepth 100000 in
theorem ck_38 : mk_38.all (fun l => l.all (okE 2 prog_2_method_7_code)) = true := all_c ck_38_0 (all_c ck_38_1 (all_c ck_38_2 (all_c ck_38_3 (all_c ck_38_4 (rfl)))))
set_option maxRecDepth 100000 in
theorem ck_39_0 : mk_39_0.all (okE 2 prog_2_method_5_code) = true := all_okGb (k := 0) (by decide +kernel)
set_option maxRecDepth 100000 in
theorem ck_39 : mk_39.all (fun l => l.all (okE 2 prog_2_method_5_code)) = true := all_c ck_39_0 (rfl)
set_option maxRecDepth 100000 in
theorem ck_40_0 : mk_40_0.all (okE 2 prog_2_method_4_code) = true := all_okGb (k := 0) (by decide +kernel)
set_option maxRecDepth 100000 in
theorem ck_40_1 : mk_40_1.all (okE 2 prog_2_method_4_code) = true := all_okGb (k := 32) (by decide +kernel)
set_option maxRecDepth 100000 in
theorem ck_40 : mk_40.all (fun l => l.all (okE 2 prog_2_method_4_code)) = true := all_c ck_40_0 (all_c ck_40_1 (rfl))
set_option maxRecDepth 100000 in
theorem ck_41_0 : mk_41_0.all (okE 2 prog_2_method_2_code) = true := all_okGb (k := 0) (by decide +kernel)
set_option maxRecDepth 100000 in
theorem ck_41 : mk_41.all (fun l => l.all (okE 2 prog_2_method_2_code)) = true := all_c ck_41_0 (rfl)
set_option maxRecDepth 100000 in
theorem ck_42_0 : mk_42_0.all (okE 2 prog_2_method_19_code) = true := all_okGb (k := 0) (by decide +kernel)
set_option maxRecDepth 100000 in
theorem ck_42 : mk_42.all (fun l => l.all (okE 2 prog_2_method_19_code)) = true := all_c ck_42_0 (rfl)
set_option maxRecDepth 100000 in
theorem ck_43_0 : mk_43_0.all (okE 2 prog_2_method_18_code) = true := all_okGb (k := 0) (by decide +kernel)
set_option maxRecDepth 100000 in
theorem ck_43_1 : mk_43_1.all (okE 2 prog_2_method_18_code) = true := all_okGb (k := 32) (by decide +kernel)
set_option maxRecDepth 100000 in
theorem ck_43 : mk_43.all (fun l => l.all (okE 2 prog_2_method_18_code)) = true := all_c ck_43_0 (all_c ck_43_1 (rfl))
set_option maxRecDepth 100000 in
theorem ck_44_0 : mk_44_0.all (okE 2 prog_2_method_17_code) = true := all_okGb (k := 0) (by decide +kernel)
set_option maxRecDepth 100000 in
theorem ck_44 : mk_44.all (fun l => l.all (okE 2 prog_2_method_17_code)) = true := all_c ck_44_0 (rfl)
set_option maxRecDepth 100000 in
theorem ck_45_0 : mk_45_0.all (okE 1 prog_6_method_5_code) = true := all_okGb (k := 0) (by decide +kernel)
set_option maxRecDepth 100000 in
theorem ck_45 : mk_45.all (fun l => l.all (okE 1 prog_6_method_5_code)) = true := all_c ck_45_0 (rfl)
set_option maxRecDepth 100000 in
theorem ck_46_0 : mk_46_0.all (okE 0 prog_1_method_10_code) = true := all_okGb (k := 0) (by decide +kernel)
set_option maxRecDepth 100000 in
theorem ck_46 : mk_46.all (fun l => l.all (okE 0 prog_1_method_10_code)) = true := all_c ck_46_0 (rfl)
set_option maxRecDepth 100000 in
theorem ck_47_0 : mk_47_0.all (okE 2 prog_2_method_8_code) = true := all_okGb (k := 0) (by decide +kernel)
set_option maxRecDepth 100000 in
theorem ck_47_1 : mk_47_1.all (okE 2 prog_2_method_8_code) = true := all_okGb (k := 32) (by decide +kernel)
set_option maxRecDepth 100000 in
theorem ck_47 : mk_47.all (fun l => l.all (okE 2 prog_2_method_8_code)) = true := all_c ck_47_0 (all_c ck_47_1 (rfl))
set_option maxRecDepth 100000 in
theorem ck_48_0 : mk_48_0.all (okE 2 prog_2_method_3_code) = true := all_okGb (k := 0) (by decide +kernel)
set_option maxRecDepth 100000 in
theorem ck_48 : mk_48.all (fun l => l.all (okE 2 prog_2_method_3_code)) = true := all_c ck_48_0 (rfl)
set_option maxRecDepth 100000 in
theorem ck_49_0 : mk_49_0.all (okE 0 prog_1_method_11_code) = true := all_okGb (k := 0) (by decide +kernel)
set_option maxRecDepth 100000 in
theorem ck_49 : mk_49.all (fun l => l.all (okE 0 prog_1_method_11_code)) = true := all_c ck_49_0 (rfl)
set_option maxRecDepth 100000 in
theorem ck_50_0 : mk_50_0.all (okE 2 prog_2_method_10_code) = true := all_okGb (k := 0) (by decide +kernel)
set_option maxRecDepth 100000 in
theorem ck_50_1 : mk_50_1.all (okE 2 prog_2_method_10_code) = true := all_okGb (k := 32) (by decide +kernel)
set_option maxRecDepth 100000 in
theorem ck_50 : mk_50.all (fun l => l.all (okE 2 prog_2_method_10_code)) = true := all_c ck_50_0 (all_c ck_50_1 (rfl))
set_option maxRecDepth 100000 in
theorem ck_51_0 : mk_51_0.all (okE 0 prog_1_method_12_code) = true := all_okGb (k := 0) (by decide +kernel)
set_option maxRecDepth 100000 in
theorem ck_51 : mk_51.all (fun l => l.all (okE 0 prog_1_method_12_code)) = true := all_c ck_51_0 (rfl)
set_option maxRecDepth 100000 in
theorem ck_52_0 : mk_52_0.all (okE 2 prog_2_method_11_code) = true := all_okGb (k := 0) (by decide +kernel)
set_option maxRecDepth 100000 in
theorem ck_52_1 : mk_52_1.all (okE 2 prog_2_method_11_code) = true := all_okGb (k := 32) (by decide +kernel)
set_option maxRecDepth 100000 in
theorem ck_52_2 : mk_52_2.all (okE 2 prog_2_method_11_code) = true := all_okGb (k := 64) (by decide +kernel)
set_option maxRecDepth 100000 in
theorem ck_52_3 : mk_52_3.all (okE 2 prog_2_method_11_code) = true := all_okGb (k := 96) (by decide +kernel)
set_option maxRecDepth 100000 in
theorem ck_52 : mk_52.all (fun l => l.all (okE 2 prog_2_method_11_code)) = true := all_c ck_52_0 (all_c ck_52_1 (all_c ck_52_2 (all_c ck_52_3 (rfl))))
set_option maxRecDepth 100000 in
theorem ck_53_0 : mk_53_0.all (okE 0 prog_1_method_13_code) = true := all_okGb (k := 0) (by decide +kernel)
set_option maxRecDepth 100000 in
theorem ck_53 : mk_53.all (fun l => l.all (okE 0 prog_1_method_13_code)) = true := all_c ck_53_0 (rfl)
set_option maxRecDepth 100000 in
theorem ck_54_0 : mk_54_0.all (okE 2 prog_2_method_12_code) = true := all_okGb (k := 0) (by decide +kernel)
set_option maxRecDepth 100000 in
theorem ck_54_1 : mk_54_1.all (okE 2 prog_2_method_12_code) = true := all_okGb (k := 32) (by decide +kernel)
set_option maxRecDepth 100000 in
theorem ck_54 : mk_54.all (fun l => l.all (okE 2 prog_2_method_12_code)) = true := all_c ck_54_0 (all_c ck_54_1 (rfl))
set_option maxRecDepth 100000 in
theorem ck_55_0 : mk_55_0.all (okE 0 prog_1_method_14_code) = true := all_okGb (k := 0) (by decide +kernel)
set_option maxRecDepth 100000 in
theorem ck_55 : mk_55.all (fun l => l.all (okE 0 prog_1_method_14_code)) = true := all_c ck_55_0 (rfl)
set_option maxRecDepth 100000 in
theorem ck_56_0 : mk_56_0.all (okE 2 prog_2_method_14_code) = true := all_okGb (k := 0) (by decide +kernel)
set_option maxRecDepth 100000 in
theorem ck_56_1 : mk_56_1.all (okE 2 prog_2_method_14_code) = true := all_okGb (k := 32) (by decide +kernel)
set_option maxRecDepth 100000 in
theorem ck_56 : mk_56.all (fun l => l.all (okE 2 prog_2_method_14_code)) = true := all_c ck_56_0 (all_c ck_56_1 (rfl))
set_option maxRecDepth 100000 in
theorem ck_57_0 : mk_57_0.all (okE 2 prog_2_method_15_code) = true := by decide +kernel
set_option maxRecDepth 100000 in
theorem ck_57_1 : mk_57_1.all (okE 2 prog_2_method_15_code) = true := all_okGb (k := 32) (by decide +kernel)
set_option maxRecDepth 100000 in
theorem ck_57_2 : mk_57_2.all (okE 2 prog_2_method_15_code) = true := all_okGb (k := 64) (by decide +kernel)
set_option maxRecDepth 100000 in
theorem ck_57_3 : mk_57_3.all (okE 2 prog_2_method_15_code) = true := all_okGb (k := 96) (by decide +kernel)
set_option maxRecDepth 100000 in
theorem ck_57 : mk_57.all (fun l => l.all (okE 2 prog_2_method_15_code)) = true := all_c ck_57_0 (all_c ck_57_1 (all_c ck_57_2 (all_c ck_57_3 (rfl))))
set_option maxRecDepth 100000 in
theorem ck_58_0 : mk_58_0.all (okE 0 prog_1_method_15_code) = true := all_okGb (k := 0) (by decide +kernel)
set_option maxRecDepth 100000 in
theorem ck_58 : mk_58.all (fun l => l.all (okE 0 prog_1_method_15_code)) = true := all_c ck_58_0 (rfl)
set_option maxRecDepth 100000 in
theorem ck_59_0 : mk_59_0.all (okE 2 prog_2_method_25_code) = true := all_okGb (k := 0) (by decide +kernel)
set_option maxRecDepth 100000 in
theorem ck_59_1 : mk_59_1.all (okE 2 prog_2_method_25_code) = true := all_okGb (k := 32) (by decide +kernel)
set_option maxRecDepth 100000 in
theorem ck_59 : mk_59.all (fun l => l.all (okE 2 prog_2_method_25_code)) = true := all_c ck_59_0 (all_c ck_59_1 (rfl))
set_option maxRecDepth 100000 in
theorem ck_60_0 : mk_60_0.all (okE 0 prog_1_method_16_code) = true := all_okGb (k := 0) (by decide +kernel)
set_option maxRecDepth 100000 in
theorem ck_60_1 : mk_60_1.all (okE 0 prog_1_method_16_code) = true := all_okGb (k := 32) (by decide +kernel)
set_option maxRecDepth 100000 in
theorem ck_60_2 : mk_60_2.all (okE 0 prog_1_method_16_code) = true := all_okGb (k := 64) (by decide +kernel)
set_option maxRecDepth 100000 in
theorem ck_60 : mk_60.all (fun l => l.all (okE 0 prog_1_method_16_code)) = true := all_c ck_60_0 (all_c ck_60_1 (all_c ck_60_2 (rfl)))
set_option maxRecDepth 100000 in
theorem ck_61_0 : mk_61_0.all (okE 7 prog_4_method_16_code) = true := all_okGb (k := 0) (by decide +kernel)
set_option maxRecDepth 100000 in
theorem ck_61_1 : mk_61_1.all (okE 7 prog_4_method_16_code) = true := all_okGb (k := 32) (by decide +kernel)
set_option maxRecDepth 100000 in
theorem ck_61 : mk_61.all (fun l => l.all (okE 7 prog_4_method_16_code)) = true := all_c ck_61_0 (all_c ck_61_1 (rfl))
set_option maxRecDepth 100000 in
theorem ck_62_0 : mk_62_0.all (okE 7 prog_4_method_2_code) = true := all_okGb (k := 0) (by decide +kernel)
set_option maxRecDepth 100000 in
theorem ck_62 : mk_62.all (fun l => l.all (okE 7 prog_4_method_2_code)) = true := all_c ck_62_0 (rfl)
set_option maxRecDepth 100000 in
theorem ck_63_0 : mk_63_0.all (okE 2 prog_2_method_26_code) = true := all_okGb (k := 0) (by decide +kernel)
set_option maxRecDepth 100000 in
theorem ck_63_1 : mk_63_1.all (okE 2 prog_2_method_26_code) = true := all_okGb (k := 32) (by decide +kernel)
set_option maxRecDepth 100000 in
theorem ck_63_2 : mk_63_2.all (okE 2 prog_2_method_26_code) = true := all_okGb (k := 64) (by decide +kernel)
set_option maxRecDepth 100000 in
theorem ck_63 : mk_63.all (fun l => l.all (okE 2 prog_2_method_26_code)) = true := all_c ck_63_0 (all_c ck_63_1 (all_c ck_63_2 (rfl)))
set_option maxRecDepth 100000 in
theorem ck_64_0 : mk_64_0.all (okE 0 prog_1_method_17_code) = true := all_okGb (k := 0) (by decide +kernel)
set_option maxRecDepth 100000 in
theorem ck_64 : mk_64.all (fun l => l.all (okE 0 prog_1_method_17_code)) = true := all_c ck_64_0 (rfl)
set_option maxRecDepth 100000 in
theorem ck_65_0 : mk_65_0.all (okE 4 prog_3_method_2_code) = true := all_okGb (k := 0) (by decide +kernel)
set_option maxRecDepth 100000 in
theorem ck_65_1 : mk_65_1.all (okE 4 prog_3_method_2_code) = true := all_okGb (k := 32) (by decide +kernel)
set_option maxRecDepth 100000 in
theorem ck_65_2 : mk_65_2.all (okE 4 prog_3_method_2_code) = true := all_okGb (k := 64) (by decide +kernel)
set_option maxRecDepth 100000 in
theorem ck_65 : mk_65.all (fun l => l.all (okE 4 prog_3_method_2_code)) = true := all_c ck_65_0 (all_c ck_65_1 (all_c ck_65_2 (rfl)))
set_option maxRecDepth 100000 in
theorem ck_66_0 : mk_66_0.all (okE 4 prog_3_method_4_code) = true := all_okGb (k := 0) (by decide +kernel)
set_option maxRecDepth 100000 in
theorem ck_66_1 : mk_66_1.all (okE 4 prog_3_method_4_code) = true := all_okGb (k := 32) (by decide +kernel)
set_option maxRecDepth 100000 in
theorem ck_66_2 : mk_66_2.all (okE 4 prog_3_method_4_code) = true := all_okGb (k := 64) (by decide +kernel)
set_option maxRecDepth 100000 in
theorem ck_66 : mk_66.all (fun l => l.all (okE 4 prog_3_method_4_code)) = true := all_c ck_66_0 (all_c ck_66_1 (all_c ck_66_2 (rfl)))
set_option maxRecDepth 100000 in
theorem ck_67_0 : mk_67_0.all (okE 4 prog_3_method_3_code) = true := all_okGb (k := 0) (by decide +kernel)
set_option maxRecDepth 100000 in
theorem ck_67_1 : mk_67_1.all (okE 4 prog_3_method_3_code) = true := all_okGb (k := 32) (by decide +kernel)
set_option maxRecDepth 100000 in
theorem ck_67_2 : mk_67_2.all (okE 4 prog_3_method_3_code) = true := all_okGb (k := 64) (by decide +kernel)
set_option maxRecDepth 100000 in
theorem ck_67_3 : mk_67_3.all (okE 4 prog_3_method_3_code) = true := all_okGb (k := 96) (by decide +kernel)
set_option maxRecDepth 100000 in
theorem ck_67 : mk_67.all (fun l => l.all (okE 4 prog_3_method_3_code)) = true := all_c ck_67_0 (all_c ck_67_1 (all_c ck_67_2 (all_c ck_67_3 (rfl))))
set_option maxRecDepth 100000 in
theorem ck_68_0 : mk_68_0.all (okE 0 prog_1_method_18_code) = true := all_okGb (k := 0) (by decide +kernel)
set_option maxRecDepth 100000 in
theorem ck_68 : mk_68.all (fun l => l.all (okE 0 prog_1_method_18_code)) = true := all_c ck_68_0 (rfl)
set_option maxRecDepth 100000 in
theorem ck_69_0 : mk_69_0.all (okE 4 prog_3_method_6_code) = true := all_okGb (k := 0) (by decide +kernel)
set_option maxRecDepth 100000 in
theorem ck_69_1 : mk_69_1.all (okE 4 prog_3_method_6_code) = true := all_okGb (k := 32) (by decide +kernel)
set_option maxRecDepth 100000 in
theorem ck_69 : mk_69.all (fun l => l.all (okE 4 prog_3_method_6_code)) = true := all_c ck_69_0 (all_c ck_69_1 (rfl))
set_option maxRecDepth 100000 in
theorem ck_70_0 : mk_70_0.all (okE 0 prog_1_method_19_code) = true := all_okGb (k := 0) (by decide +kernel)
set_option maxRecDepth 100000 in
theorem ck_70_1 : mk_70_1.all (okE 0 prog_1_method_19_code) = true := all_okGb (k := 32) (by decide +kernel)
set_option maxRecDepth 100000 in
theorem ck_70_2 : mk_70_2.all (okE 0 prog_1_method_19_code) = true := all_okGb (k := 64) (by decide +kernel)
set_option maxRecDepth 100000 in
theorem ck_70 : mk_70.all (fun l => l.all (okE 0 prog_1_method_19_code)) = true := all_c ck_70_0 (all_c ck_70_1 (all_c ck_70_2 (rfl)))
set_option maxRecDepth 100000 in
theorem ck_71_0 : mk_71_0.all (okE 0 prog_1_method_3_code) = true := all_okGb (k := 0) (by decide +kernel)
set_option maxRecDepth 100000 in
theorem ck_71 : mk_71.all (fun l => l.all (okE 0 prog_1_method_3_code)) = true := all_c ck_71_0 (rfl)
set_option maxRecDepth 100000 in
theorem ck_72_0 : mk_72_0.all (okE 4 prog_3_method_7_code) = true := all_okGb (k := 0) (by decide +kernel)
set_option maxRecDepth 100000 in
theorem ck_72_1 : mk_72_1.all (okE 4 prog_3_method_7_code) = true := all_okGb (k := 32) (by decide +kernel)
set_option maxRecDepth 100000 in
theorem ck_72_2 : mk_72_2.all (okE 4 prog_3_method_7_code) = true := all_okGb (k := 64) (by decide +kernel)
set_option maxRecDepth 100000 in
theorem ck_72_3 : mk_72_3.all (okE 4 prog_3_method_7_code) = true := all_okGb (k := 96) (by decide +kernel)
set_option maxRecDepth 100000 in
theorem ck_72_4 : mk_72_4.all (okE 4 prog_3_method_7_code) = true := all_okGb (k := 128) (by decide +kernel)
set_option maxRecDepth 100000 in
theorem ck_72_5 : mk_72_5.all (okE 4 prog_3_method_7_code) = true := all_okGb (k := 160) (by decide +kernel)
set_option maxRecDepth 100000 in
theorem ck_72 : mk_72.all (fun l => l.all (okE 4 prog_3_method_7_code)) = true := all_c ck_72_0 (all_c ck_72_1 (all_c ck_72_2 (all_c ck_72_3 (all_c ck_72_4 (all_c ck_72_5 (rfl))))))
set_option maxRecDepth 100000 in
theorem ck_73_0 : mk_73_0.all (okE 0 prog_1_method_20_code) = true := all_okGb (k := 0) (by decide +kernel)
set_option maxRecDepth 100000 in
theorem ck_73 : mk_73.all (fun l => l.all (okE 0 prog_1_method_20_code)) = true := all_c ck_73_0 (rfl)
set_option maxRecDepth 100000 in
theorem ck_74_0 : mk_74_0.all (okE 4 prog_3_method_5_code) = true := all_okGb (k := 0) (by decide +kernel)
set_option maxRecDepth 100000 in
theorem ck_74_1 : mk_74_1.all (okE 4 prog_3_method_5_code) = true := all_okGb (k := 32) (by decide +kernel)
set_option maxRecDepth 100000 in
theorem ck_74_2 : mk_74_2.all (okE 4 prog_3_method_5_code) = true := all_okGb (k := 64) (by decide +kernel)
set_option maxRecDepth 100000 in
theorem ck_74 : mk_74.all (fun l => l.all (okE 4 prog_3_method_5_code)) = true := all_c ck_74_0 (all_c ck_74_1 (all_c ck_74_2 (rfl)))
set_option maxRecDepth 100000 in
theorem ck_75_0 : mk_75_0.all (okE 0 prog_1_method_21_code) = true := all_okGb (k := 0) (by decide +kernel)
set_option maxRecDepth 100000 in
theorem ck_75_1 : mk_75_1.all (okE 0 prog_1_method_21_code) = true := all_okGb (k := 32) (by decide +kernel)
set_option maxRecDepth 100000 in
theorem ck_75_2 : mk_75_2.all (okE 0 prog_1_method_21_code) = true := all_okGb (k := 64) (by decide +kernel)
set_option maxRecDepth 100000 in
theorem ck_75 : mk_75.all (fun l => l.all (okE 0 prog_1_method_21_code)) = true := all_c ck_75_0 (all_c ck_75_1 (all_c ck_75_2 (rfl)))
set_option maxRecDepth 100000 in
theorem ck_76_0 : mk_76_0.all (okE 3 prog_9_method_2_code) = true := all_okGb (k := 0) (by decide +kernel)
set_option maxRecDepth 100000 in
theorem ck_76 : mk_76.all (fun l => l.all (okE 3 prog_9_method_2_code)) = true := all_c ck_76_0 (rfl)
set_option maxRecDepth 100000 in
theorem ck_77_0 : mk_77_0.all (okE 4 prog_3_method_8_code) = true := all_okGb (k := 0) (by decide +kernel)
set_option maxRecDepth 100000 in
theorem ck_77_1 : mk_77_1.all (okE 4 prog_3_method_8_code) = true := all_okGb (k := 32) (by decide +kernel)
set_option maxRecDepth 100000 in
theorem ck_77_2 : mk_77_2.all (okE 4 prog_3_method_8_code) = true := all_okGb (k := 64) (by decide +kernel)
set_option maxRecDepth 100000 in
theorem ck_77_3 : mk_77_3.all (okE 4 prog_3_method_8_code) = true := all_okGb (k := 96) (by decide +kernel)
set_option maxRecDepth 100000 in
theorem ck_77_4 : mk_77_4.all (okE 4 prog_3_method_8_code) = true := all_okGb (k := 128) (by decide +kernel)
set_option maxRecDepth 100000 in
theorem ck_77_5 : mk_77_5.all (okE 4 prog_3_method_8_code) = true := all_okGb (k := 160) (by decide +kernel)
set_option maxRecDepth 100000 in
theorem ck_77_6 : mk_77_6.all (okE 4 prog_3_method_8_code) = true := all_okGb (k := 192) (by decide +kernel)
set_option maxRecDepth 100000 in
theorem ck_77 : mk_77.all (fun l => l.all (okE 4 prog_3_method_8_code)) = true := all_c ck_77_0 (all_c ck_77_1 (all_c ck_77_2 (all_c ck_77_3 (all_c ck_77_4 (all_c ck_77_5 (all_c ck_77_6 (rfl)))))))
set_option maxRecDepth 100000 in
theorem ck_78_0 : mk_78_0.all (okE 3 prog_9_method_5_code) = true := all_okGb (k := 0) (by decide +kernel)
set_option maxRecDepth 100000 in
theorem ck_78 : mk_78.all (fun l => l.all (okE 3 prog_9_method_5_code)) = true := all_c ck_78_0 (rfl)
set_option maxRecDepth 100000 in
theorem ck_79_0 : mk_79_0.all (okE 4 prog_3_method_9_code) = true := all_okGb (k := 0) (by decide +kernel)
set_option maxRecDepth 100000 in
theorem ck_79 : mk_79.all (fun l => l.all (okE 4 prog_3_method_9_code)) = true := all_c ck_79_0 (rfl)
set_option maxRecDepth 100000 in
theorem ck_80_0 : mk_80_0.all (okE 3 prog_9_method_8_code) = true := all_okGb (k := 0) (by decide +kernel)
set_option maxRecDepth 100000 in
theorem ck_80 : mk_80.all (fun l => l.all (okE 3 prog_9_method_8_code)) = true := all_c ck_80_0 (rfl)
set_option maxRecDepth 100000 in
theorem ck_81_0 : mk_81_0.all (okE 3 prog_9_method_7_code) = true := all_okGb (k := 0) (by decide +kernel)
set_option maxRecDepth 100000 in
theorem ck_81_1 : mk_81_1.all (okE 3 prog_9_method_7_code) = true := all_okGb (k := 32) (by decide +kernel)
set_option maxRecDepth 100000 in
theorem ck_81 : mk_81.all (fun l => l.all (okE 3 prog_9_method_7_code)) = true := all_c ck_81_0 (all_c ck_81_1 (rfl))
set_option maxRecDepth 100000 in
theorem ck_82_0 : mk_82_0.all (okE 3 prog_9_method_6_code) = true := all_okGb (k := 0) (by decide +kernel)
set_option maxRecDepth 100000 in
theorem ck_82 : mk_82.all (fun l => l.all (okE 3 prog_9_method_6_code)) = true := all_c ck_82_0 (rfl)
set_option maxRecDepth 100000 in
theorem ck_83_0 : mk_83_0.all (okE 4 prog_3_method_10_code) = true := all_okGb (k := 0) (by decide +kernel)
set_option maxRecDepth 100000 in
theorem ck_83 : mk_83.all (fun l => l.all (okE 4 prog_3_method_10_code)) = true := all_c ck_83_0 (rfl)
set_option maxRecDepth 100000 in
theorem ck_84_0 : mk_84_0.all (okE 4 prog_3_method_11_code) = true := all_okGb (k := 0) (by decide +kernel)
set_option maxRecDepth 100000 in
theorem ck_84 : mk_84.all (fun l => l.all (okE 4 prog_3_method_11_code)) = true := all_c ck_84_0 (rfl)
set_option maxRecDepth 100000 in
theorem ck_85_0 : mk_85_0.all (okE 4 prog_3_method_12_code) = true := all_okGb (k := 0) (by decide +kernel)
set_option maxRecDepth 100000 in
theorem ck_85_1 : mk_85_1.all (okE 4 prog_3_method_12_code) = true := all_okGb (k := 32) (by decide +kernel)
set_option maxRecDepth 100000 in
theorem ck_85_2 : mk_85_2.all (okE 4 prog_3_method_12_code) = true := all_okGb (k := 64) (by decide +kernel)
set_option maxRecDepth 100000 in
theorem ck_85_3 : mk_85_3.all (okE 4 prog_3_method_12_code) = true := all_okGb (k := 96) (by decide +kernel)
set_option maxRecDepth 100000 in
theorem ck_85_4 : mk_85_4.all (okE 4 prog_3_method_12_code) = true := all_okGb (k := 128) (by decide +kernel)
set_option maxRecDepth 100000 in
theorem ck_85 : mk_85.all (fun l => l.all (okE 4 prog_3_method_12_code)) = true := all_c ck_85_0 (all_c ck_85_1 (all_c ck_85_2 (all_c ck_85_3 (all_c ck_85_4 (rfl)))))
set_option maxRecDepth 100000 in
theorem ck_86_0 : mk_86_0.all (okE 2 prog_2_method_13_code) = true := all_okGb (k := 0) (by decide +kernel)
set_option maxRecDepth 100000 in
theorem ck_86_1 : mk_86_1.all (okE 2 prog_2_method_13_code) = true := all_okGb (k := 32) (by decide +kernel)
set_option maxRecDepth 100000 in
theorem ck_86 : mk_86.all (fun l => l.all (okE 2 prog_2_method_13_code)) = true := all_c ck_86_0 (all_c ck_86_1 (rfl))
set_option maxRecDepth 100000 in
theorem ck_87_0 : mk_87_0.all (okE 0 prog_1_method_22_code) = true := all_okGb (k := 0) (by decide +kernel)
set_option maxRecDepth 100000 in
theorem ck_87 : mk_87.all (fun l => l.all (okE 0 prog_1_method_22_code)) = true := all_c ck_87_0 (rfl)
set_option maxRecDepth 100000 in
theorem ck_88_0 : mk_88_0.all (okE 0 prog_1_method_23_code) = true := all_okGb (k := 0) (by decide +kernel)
set_option maxRecDepth 100000 in
theorem ck_88_1 : mk_88_1.all (okE 0 prog_1_method_23_code) = true := all_okGb (k := 32) (by decide +kernel)
set_option maxRecDepth 100000 in
theorem ck_88_2 : mk_88_2.all (okE 0 prog_1_method_23_code) = true := all_okGb (k := 64) (by decide +kernel)
set_option maxRecDepth 100000 in
theorem ck_88 : mk_88.all (fun l => l.all (okE 0 prog_1_method_23_code)) = true := all_c ck_88_0 (all_c ck_88_1 (all_c ck_88_2 (rfl)))
set_option maxRecDepth 100000 in
theorem ck_89_0 : mk_89_0.all (okE 5 prog_11_method_2_code) = true := all_okGb (k := 0) (by decide +kernel)
set_option maxRecDepth 100000 in
theorem ck_89_1 : mk_89_1.all (okE 5 prog_11_method_2_code) = true := all_okGb (k := 32) (by decide +kernel)
set_option maxRecDepth 100000 in
theorem ck_89 : mk_89.all (fun l => l.all (okE 5 prog_11_method_2_code)) = true := all_c ck_89_0 (all_c ck_89_1 (rfl))
set_option maxRecDepth 100000 in
theorem ck_90_0 : mk_90_0.all (okE 0 prog_1_method_24_code) = true := all_okGb (k := 0) (by decide +kernel)
set_option maxRecDepth 100000 in
theorem ck_90 : mk_90.all (fun l => l.all (okE 0 prog_1_method_24_code)) = true := all_c ck_90_0 (rfl)
set_option maxRecDepth 100000 in
theorem ck_91_0 : mk_91_0.all (okE 0 prog_1_method_25_code) = true := all_okGb (k := 0) (by decide +kernel)
set_option maxRecDepth 100000 in
theorem ck_91_1 : mk_91_1.all (okE 0 prog_1_method_25_code) = true := all_okGb (k := 32) (by decide +kernel)
set_option maxRecDepth 100000 in
theorem ck_91_2 : mk_91_2.all (okE 0 prog_1_method_25_code) = true := all_okGb (k := 64) (by decide +kernel)
set_option maxRecDepth 100000 in
theorem ck_91 : mk_91.all (fun l => l.all (okE 0 prog_1_method_25_code)) = true := all_c ck_91_0 (all_c ck_91_1 (all_c ck_91_2 (rfl)))
set_option maxRecDepth 100000 in
theorem ck_92_0 : mk_92_0.all (okE 5 prog_11_method_3_code) = true := all_okGb (k := 0) (by decide +kernel)
set_option maxRecDepth 100000 in
theorem ck_92_1 : mk_92_1.all (okE 5 prog_11_method_3_code) = true := all_okGb (k := 32) (by decide +kernel)
set_option maxRecDepth 100000 in
theorem ck_92_2 : mk_92_2.all (okE 5 prog_11_method_3_code) = true := all_okGb (k := 64) (by decide +kernel)
set_option maxRecDepth 100000 in
theorem ck_92 : mk_92.all (fun l => l.all (okE 5 prog_11_method_3_code)) = true := all_c ck_92_0 (all_c ck_92_1 (all_c ck_92_2 (rfl)))
set_option maxRecDepth 100000 in
theorem ck_93_0 : mk_93_0.all (okE 5 prog_11_method_7_code) = true := all_okGb (k := 0) (by decide +kernel)
set_option maxRecDepth 100000 in
theorem ck_93_1 : mk_93_1.all (okE 5 prog_11_method_7_code) = true := all_okGb (k := 32) (by decide +kernel)
set_option maxRecDepth 100000 in
theorem ck_93_2 : mk_93_2.all (okE 5 prog_11_method_7_code) = true := all_okGb (k := 64) (by decide +kernel)
set_option maxRecDepth 100000 in
theorem ck_93_3 : mk_93_3.all (okE 5 prog_11_method_7_code) = true := all_okGb (k := 96) (by decide +kernel)
set_option maxRecDepth 100000 in
theorem ck_93_4 : mk_93_4.all (okE 5 prog_11_method_7_code) = true := all_okGb (k := 128) (by decide +kernel)
set_option maxRecDepth 100000 in
theorem ck_93_5 : mk_93_5.all (okE 5 prog_11_method_7_code) = true := all_okGb (k := 160) (by decide +kernel)
set_option maxRecDepth 100000 in
theorem ck_93_6 : mk_93_6.all (okE 5 prog_11_method_7_code) = true := all_okGb (k := 192) (by decide +kernel)
set_option maxRecDepth 100000 in
theorem ck_93 : mk_93.all (fun l => l.all (okE 5 prog_11_method_7_code)) = true := all_c ck_93_0 (all_c ck_93_1 (all_c ck_93_2 (all_c ck_93_3 (all_c ck_93_4 (all_c ck_93_5 (all_c ck_93_6 (rfl)))))))
set_option maxRecDepth 100000 in
theorem ck_94_0 : mk_94_0.all (okE 5 prog_11_method_5_code) = true := all_okGb (k := 0) (by decide +kernel)
set_option maxRecDepth 100000 in
theorem ck_94 : mk_94.all (fun l => l.all (okE 5 prog_11_method_5_code)) = true := all_c ck_94_0 (rfl)
set_option maxRecDepth 100000 in
theorem ck_95_0 : mk_95_0.all (okE 5 prog_11_method_4_code) = true := all_okGb (k := 0) (by decide +kernel)
set_option maxRecDepth 100000 in
theorem ck_95_1 : mk_95_1.all (okE 5 prog_11_method_4_code) = true := all_okGb (k := 32) (by decide +kernel)
set_option maxRecDepth 100000 in
theorem ck_95 : mk_95.all (fun l => l.all (okE 5 prog_11_method_4_code)) = true := all_c ck_95_0 (all_c ck_95_1 (rfl))
set_option maxRecDepth 100000 in
theorem ck_96_0 : mk_96_0.all (okE 5 prog_11_method_9_code) = true := all_okGb (k := 0) (by decide +kernel)
set_option maxRecDepth 100000 in
theorem ck_96_1 : mk_96_1.all (okE 5 prog_11_method_9_code) = true := all_okGb (k := 32) (by decide +kernel)
set_option maxRecDepth 100000 in
theorem ck_96_2 : mk_96_2.all (okE 5 prog_11_method_9_code) = true := all_okGb (k := 64) (by decide +kernel)
set_option maxRecDepth 100000 in
theorem ck_96 : mk_96.all (fun l => l.all (okE 5 prog_11_method_9_code)) = true := all_c ck_96_0 (all_c ck_96_1 (all_c ck_96_2 (rfl)))
set_option maxRecDepth 100000 in
theorem ck_97_0 : mk_97_0.all (okE 5 prog_11_method_10_code) = true := all_okGb (k := 0) (by decide +kernel)
set_option maxRecDepth 100000 in
theorem ck_97_1 : mk_97_1.all (okE 5 prog_11_method_10_code) = true := all_okGb (k := 32) (by decide +kernel)
set_option maxRecDepth 100000 in
theorem ck_97 : mk_97.all (fun l => l.all (okE 5 prog_11_method_10_code)) = true := all_c ck_97_0 (all_c ck_97_1 (rfl))
set_option maxRecDepth 100000 in
theorem ck_98_0 : mk_98_0.all (okE 5 prog_11_method_8_code) = true := all_okGb (k := 0) (by decide +kernel)
set_option maxRecDepth 100000 in
theorem ck_98_1 : mk_98_1.all (okE 5 prog_11_method_8_code) = true := all_okGb (k := 32) (by decide +kernel)
set_option maxRecDepth 100000 in
theorem ck_98 : mk_98.all (fun l => l.all (okE 5 prog_11_method_8_code)) = true := all_c ck_98_0 (all_c ck_98_1 (rfl))
set_option maxRecDepth 100000 in
theorem ck_99_0 : mk_99_0.all (okE 5 prog_11_method_6_code) = true := all_okGb (k := 0) (by decide +kernel)
set_option maxRecDepth 100000 in
theorem ck_99 : mk_99.all (fun l => l.all (okE 5 prog_11_method_6_code)) = true := all_c ck_99_0 (rfl)
set_option maxRecDepth 100000 in
theorem ck_100_0 : mk_100_0.all (okE 5 prog_11_method_14_code) = true := all_okGb (k := 0) (by decide +kernel)
set_option maxRecDepth 100000 in
theorem ck_100_1 : mk_100_1.all (okE 5 prog_11_method_14_code) = true := all_okGb (k := 32) (by decide +kernel)
set_option maxRecDepth 100000 in
theorem ck_100_2 : mk_100_2.all (okE 5 prog_11_method_14_code) = true := all_okGb (k := 64) (by decide +kernel)
set_option maxRecDepth 100000 in
theorem ck_100_3 : mk_100_3.all (okE 5 prog_11_method_14_code) = true := all_okGb (k := 96) (by decide +kernel)
set_option maxRecDepth 100000 in
theorem ck_100_4 : mk_100_4.all (okE 5 prog_11_method_14_code) = true := all_okGb (k := 128) (by decide +kernel)
set_option maxRecDepth 100000 in
theorem ck_100_5 : mk_100_5.all (okE 5 prog_11_method_14_code) = true := all_okGb (k := 160) (by decide +kernel)
set_option maxRecDepth 100000 in
theorem ck_100_6 : mk_100_6.all (okE 5 prog_11_method_14_code) = true := all_okGb (k := 192) (by decide +kernel)
set_option maxRecDepth 100000 in
theorem ck_100 : mk_100.all (fun l => l.all (okE 5 prog_11_method_14_code)) = true := all_c ck_100_0 (all_c ck_100_1 (all_c ck_100_2 (all_c ck_100_3 (all_c ck_100_4 (all_c ck_100_5 (all_c ck_100_6 (rfl)))))))
set_option maxRecDepth 100000 in
theorem ck_101_0 : mk_101_0.all (okE 5 prog_11_method_12_code) = true := all_okGb (k := 0) (by decide +kernel)
set_option maxRecDepth 100000 in
theorem ck_101 : mk_101.all (fun l => l.all (okE 5 prog_11_method_12_code)) = true := all_c ck_101_0 (rfl)
set_option maxRecDepth 100000 in
theorem ck_102_0 : mk_102_0.all (okE 5 prog_11_method_11_code) = true := all_okGb (k := 0) (by decide +kernel)
set_option maxRecDepth 100000 in
theorem ck_102_1 : mk_102_1.all (okE 5 prog_11_method_11_code) = true := all_okGb (k := 32) (by decide +kernel)
set_option maxRecDepth 100000 in
theorem ck_102 : mk_102.all (fun l => l.all (okE 5 prog_11_method_11_code)) = true := all_c ck_102_0 (all_c ck_102_1 (rfl))
set_option maxRecDepth 100000 in
theorem ck_103_0 : mk_103_0.all (okE 5 prog_11_method_15_code) = true := all_okGb (k := 0) (by decide +kernel)
set_option maxRecDepth 100000 in
theorem ck_103_1 : mk_103_1.all (okE 5 prog_11_method_15_code) = true := all_okGb (k := 32) (by decide +kernel)
set_option maxRecDepth 100000 in
theorem ck_103 : mk_103.all (fun l => l.all (okE 5 prog_11_method_15_code)) = true := all_c ck_103_0 (all_c ck_103_1 (rfl))
set_option maxRecDepth 100000 in
theorem ck_104_0 : mk_104_0.all (okE 5 prog_11_method_16_code) = true := all_okGb (k := 0) (by decide +kernel)
set_option maxRecDepth 100000 in
theorem ck_104_1 : mk_104_1.all (okE 5 prog_11_method_16_code) = true := all_okGb (k := 32) (by decide +kernel)
set_option maxRecDepth 100000 in
theorem ck_104 : mk_104.all (fun l => l.all (okE 5 prog_11_method_16_code)) = true := all_c ck_104_0 (all_c ck_104_1 (rfl))
set_option maxRecDepth 100000 in
theorem ck_105_0 : mk_105_0.all (okE 5 prog_11_method_17_code) = true := all_okGb (k := 0) (by decide +kernel)
set_option maxRecDepth 100000 in
theorem ck_105_1 : mk_105_1.all (okE 5 prog_11_method_17_code) = true := all_okGb (k := 32) (by decide +kernel)
set_option maxRecDepth 100000 in
theorem ck_105_2 : mk_105_2.all (okE 5 prog_11_method_17_code) = true := all_okGb (k := 64) (by decide +kernel)
set_option maxRecDepth 100000 in
theorem ck_105_3 : mk_105_3.all (okE 5 prog_11_method_17_code) = true := all_okGb (k := 96) (by decide +kernel)
set_option maxRecDepth 100000 in
theorem ck_105_4 : mk_105_4.all (okE 5 prog_11_method_17_code) = true := all_okGb (k := 128) (by decide +kernel)
set_option maxRecDepth 100000 in
theorem ck_105 : mk_105.all (fun l => l.all (okE 5 prog_11_method_17_code)) = true := all_c ck_105_0 (all_c ck_105_1 (all_c ck_105_2 (all_c ck_105_3 (all_c ck_105_4 (rfl)))))
set_option maxRecDepth 100000 in
theorem ck_106_0 : mk_106_0.all (okE 5 prog_11_method_21_code) = true := all_okGb (k := 0) (by decide +kernel)
set_option maxRecDepth 100000 in
theorem ck_106 : mk_106.all (fun l => l.all (okE 5 prog_11_method_21_code)) = true := all_c ck_106_0 (rfl)
set_option maxRecDepth 100000 in
theorem ck_107_0 : mk_107_0.all (okE 5 prog_11_method_13_code) = true := all_okGb (k := 0) (by decide +kernel)
set_option maxRecDepth 100000 in
theorem ck_107_1 : mk_107_1.all (okE 5 prog_11_method_13_code) = true := all_okGb (k := 32) (by decide +kernel)
set_option maxRecDepth 100000 in
theorem ck_107 : mk_107.all (fun l => l.all (okE 5 prog_11_method_13_code)) = true := all_c ck_107_0 (all_c ck_107_1 (rfl))
set_option maxRecDepth 100000 in
theorem ck_108_0 : mk_108_0.all (okE 5 prog_11_method_22_code) = true := all_okGb (k := 0) (by decide +kernel)
set_option maxRecDepth 100000 in
theorem ck_108 : mk_108.all (fun l => l.all (okE 5 prog_11_method_22_code)) = true := all_c ck_108_0 (rfl)
set_option maxRecDepth 100000 in
theorem ck_109_0 : mk_109_0.all (okE 5 prog_11_method_18_code) = true := all_okGb (k := 0) (by decide +kernel)
set_option maxRecDepth 100000 in
theorem ck_109_1 : mk_109_1.all (okE 5 prog_11_method_18_code) = true := all_okGb (k := 32) (by decide +kernel)
set_option maxRecDepth 100000 in
theorem ck_109_2 : mk_109_2.all (okE 5 prog_11_method_18_code) = true := all_okGb (k := 64) (by decide +kernel)
set_option maxRecDepth 100000 in
theorem ck_109 : mk_109.all (fun l => l.all (okE 5 prog_11_method_18_code)) = true := all_c ck_109_0 (all_c ck_109_1 (all_c ck_109_2 (rfl)))
set_option maxRecDepth 100000 in
theorem ck_110_0 : mk_110_0.all (okE 5 prog_11_method_19_code) = true := all_okGb (k := 0) (by decide +kernel)
set_option maxRecDepth 100000 in
theorem ck_110_1 : mk_110_1.all (okE 5 prog_11_method_19_code) = true := all_okGb (k := 32) (by decide +kernel)
set_option maxRecDepth 100000 in
theorem ck_110_2 : mk_110_2.all (okE 5 prog_11_method_19_code) = true := all_okGb (k := 64) (by decide +kernel)
set_option maxRecDepth 100000 in
theorem ck_110 : mk_110.all (fun l => l.all (okE 5 prog_11_method_19_code)) = true := all_c ck_110_0 (all_c ck_110_1 (all_c ck_110_2 (rfl)))
set_option maxRecDepth 100000 in
theorem ck_111_0 : mk_111_0.all (okE 5 prog_11_method_20_code) = true := all_okGb (k := 0) (by decide +kernel)
set_option maxRecDepth 100000 in
theorem ck_111_1 : mk_111_1.all (okE 5 prog_11_method_20_code) = true := all_okGb (k := 32) (by decide +kernel)
set_option maxRecDepth 100000 in
theorem ck_111_2 : mk_111_2.all (okE 5 prog_11_method_20_code) = true := all_okGb (k := 64) (by decide +kernel)
set_option maxRecDepth 100000 in
theorem ck_111_3 : mk_111_3.all (okE 5 prog_11_method_20_code) = true := all_okGb (k := 96) (by decide +kernel)
set_option maxRecDepth 100000 in
theorem ck_111 : mk_111.all (fun l => l.all (okE 5 prog_11_method_20_code)) = true := all_c ck_111_0 (all_c ck_111_1 (all_c ck_111_2 (all_c ck_111_3 (rfl))))
set_option maxRecDepth 100000 in
theorem ck_112_0 : mk_112_0.all (okE 6 prog_8_method_3_code) = true := all_okGb (k := 0) (by decide +kernel)
set_option maxRecDepth 100000 in
theorem ck_112_1 : mk_112_1.all (okE 6 prog_8_method_3_code) = true := all_okGb (k := 32) (by decide +kernel)
set_option maxRecDepth 100000 in
theorem ck_112_2 : mk_112_2.all (okE 6 prog_8_method_3_code) = true := all_okGb (k := 64) (by decide +kernel)
set_option maxRecDepth 100000 in
theorem ck_112 : mk_112.all (fun l => l.all (okE 6 prog_8_method_3_code)) = true := all_c ck_112_0 (all_c ck_112_1 (all_c ck_112_2 (rfl)))
set_option maxRecDepth 100000 in
theorem ck_113_0 : mk_113_0.all (okE 15 prog_21_method_123_code) = true := by decide +kernel
set_option maxRecDepth 100000 in
theorem ck_113_1 : mk_113_1.all (okE 15 prog_21_method_123_code) = true := all_okGb (k := 32) (by decide +kernel)
set_option maxRecDepth 100000 in
theorem ck_113 : mk_113.all (fun l => l.all (okE 15 prog_21_method_123_code)) = true := all_c ck_113_0 (all_c ck_113_1 (rfl))
set_option maxRecDepth 100000 in
theorem ck_114_0 : mk_114_0.all (okE 0 prog_1_method_26_code) = true := all_okGb (k := 0) (by decide +kernel)
set_option maxRecDepth 100000 in
theorem ck_114_1 : mk_114_1.all (okE 0 prog_1_method_26_code) = true := all_okGb (k := 32) (by decide +kernel)
set_option maxRecDepth 100000 in
theorem ck_114 : mk_114.all (fun l => l.all (okE 0 prog_1_method_26_code)) = true := all_c ck_114_0 (all_c ck_114_1 (rfl))
set_option maxRecDepth 100000 in
theorem ck_115_0 : mk_115_0.all (okE 6 prog_8_method_4_code) = true := all_okGb (k := 0) (by decide +kernel)
set_option maxRecDepth 100000 in
theorem ck_115_1 : mk_115_1.all (okE 6 prog_8_method_4_code) = true := all_okGb (k := 32) (by decide +kernel)
set_option maxRecDepth 100000 in
theorem ck_115 : mk_115.all (fun l => l.all (okE 6 prog_8_method_4_code)) = true := all_c ck_115_0 (all_c ck_115_1 (rfl))
set_option maxRecDepth 100000 in
theorem ck_116_0 : mk_116_0.all (okE 0 prog_1_method_27_code) = true := all_okGb (k := 0) (by decide +kernel)
set_option maxRecDepth 100000 in
theorem ck_116_1 : mk_116_1.all (okE 0 prog_1_method_27_code) = true := all_okGb (k := 32) (by decide +kernel)
set_option maxRecDepth 100000 in
theorem ck_116_2 : mk_116_2.all (okE 0 prog_1_method_27_code) = true := all_okGb (k := 64) (by decide +kernel)
set_option maxRecDepth 100000 in
theorem ck_116_3 : mk_116_3.all (okE 0 prog_1_method_27_code) = true := all_okGb (k := 96) (by decide +kernel)
set_option maxRecDepth 100000 in
theorem ck_116_4 : mk_116_4.all (okE 0 prog_1_method_27_code) = true := all_okGb (k := 128) (by decide +kernel)
set_option maxRecDepth 100000 in
theorem ck_116 : mk_116.all (fun l => l.all (okE 0 prog_1_method_27_code)) = true := all_c ck_116_0 (all_c ck_116_1 (all_c ck_116_2 (all_c ck_116_3 (all_c ck_116_4 (rfl)))))
set_option maxRecDepth 100000 in
theorem ck_117_0 : mk_117_0.all (okE 6 prog_8_method_5_code) = true := all_okGb (k := 0) (by decide +kernel)
set_option maxRecDepth 100000 in
theorem ck_117 : mk_117.all (fun l => l.all (okE 6 prog_8_method_5_code)) = true := all_c ck_117_0 (rfl)
set_option maxRecDepth 100000 in
theorem ck_118_0 : mk_118_0.all (okE 6 prog_8_method_6_code) = true := all_okGb (k := 0) (by decide +kernel)
set_option maxRecDepth 100000 in
theorem ck_118_1 : mk_118_1.all (okE 6 prog_8_method_6_code) = true := all_okGb (k := 32) (by decide +kernel)
set_option maxRecDepth 100000 in
theorem ck_118_2 : mk_118_2.all (okE 6 prog_8_method_6_code) = true := all_okGb (k := 64) (by decide +kernel)
set_option maxRecDepth 100000 in
theorem ck_118_3 : mk_118_3.all (okE 6 prog_8_method_6_code) = true := all_okGb (k := 96) (by decide +kernel)
set_option maxRecDepth 100000 in
theorem ck_118 : mk_118.all (fun l => l.all (okE 6 prog_8_method_6_code)) = true := all_c ck_118_0 (all_c ck_118_1 (all_c ck_118_2 (all_c ck_118_3 (rfl))))
set_option maxRecDepth 100000 in
theorem ck_119_0 : mk_119_0.all (okE 1 prog_6_method_4_code) = true := all_okGb (k := 0) (by decide +kernel)
set_option maxRecDepth 100000 in
theorem ck_119 : mk_119.all (fun l => l.all (okE 1 prog_6_method_4_code)) = true := all_c ck_119_0 (rfl)
set_option maxRecDepth 100000 in
theorem ck_120_0 : mk_120_0.all (okE 2 prog_2_method_9_code) = true := all_okGb (k := 0) (by decide +kernel)
set_option maxRecDepth 100000 in
theorem ck_120 : mk_120.all (fun l => l.all (okE 2 prog_2_method_9_code)) = true := all_c ck_120_0 (rfl)
