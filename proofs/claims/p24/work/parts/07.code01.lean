/-! the code tables hold, by the kernel -/
set_option maxRecDepth 100000 in
theorem ck_121_0 : mk_121_0.all (okE 6 prog_8_method_7_code) = true := all_okGb (k := 0) (by decide +kernel)
set_option maxRecDepth 100000 in
theorem ck_121_1 : mk_121_1.all (okE 6 prog_8_method_7_code) = true := all_okGb (k := 32) (by decide +kernel)
set_option maxRecDepth 100000 in
theorem ck_121_2 : mk_121_2.all (okE 6 prog_8_method_7_code) = true := all_okGb (k := 64) (by decide +kernel)
set_option maxRecDepth 100000 in
theorem ck_121_3 : mk_121_3.all (okE 6 prog_8_method_7_code) = true := all_okGb (k := 96) (by decide +kernel)
set_option maxRecDepth 100000 in
theorem ck_121 : mk_121.all (fun l => l.all (okE 6 prog_8_method_7_code)) = true := all_c ck_121_0 (all_c ck_121_1 (all_c ck_121_2 (all_c ck_121_3 (rfl))))
set_option maxRecDepth 100000 in
theorem ck_122_0 : mk_122_0.all (okE 6 prog_8_method_2_code) = true := all_okGb (k := 0) (by decide +kernel)
set_option maxRecDepth 100000 in
theorem ck_122 : mk_122.all (fun l => l.all (okE 6 prog_8_method_2_code)) = true := all_c ck_122_0 (rfl)
set_option maxRecDepth 100000 in
theorem ck_123_0 : mk_123_0.all (okE 6 prog_8_method_8_code) = true := all_okGb (k := 0) (by decide +kernel)
set_option maxRecDepth 100000 in
theorem ck_123_1 : mk_123_1.all (okE 6 prog_8_method_8_code) = true := all_okGb (k := 32) (by decide +kernel)
set_option maxRecDepth 100000 in
theorem ck_123_2 : mk_123_2.all (okE 6 prog_8_method_8_code) = true := all_okGb (k := 64) (by decide +kernel)
set_option maxRecDepth 100000 in
theorem ck_123_3 : mk_123_3.all (okE 6 prog_8_method_8_code) = true := all_okGb (k := 96) (by decide +kernel)
set_option maxRecDepth 100000 in
theorem ck_123_4 : mk_123_4.all (okE 6 prog_8_method_8_code) = true := all_okGb (k := 128) (by decide +kernel)
set_option maxRecDepth 100000 in
theorem ck_123 : mk_123.all (fun l => l.all (okE 6 prog_8_method_8_code)) = true := all_c ck_123_0 (all_c ck_123_1 (all_c ck_123_2 (all_c ck_123_3 (all_c ck_123_4 (rfl)))))
set_option maxRecDepth 100000 in
theorem ck_124_0 : mk_124_0.all (okE 6 prog_8_method_11_code) = true := all_okGb (k := 0) (by decide +kernel)
set_option maxRecDepth 100000 in
theorem ck_124 : mk_124.all (fun l => l.all (okE 6 prog_8_method_11_code)) = true := all_c ck_124_0 (rfl)
set_option maxRecDepth 100000 in
theorem ck_125_0 : mk_125_0.all (okE 6 prog_8_method_12_code) = true := all_okGb (k := 0) (by decide +kernel)
set_option maxRecDepth 100000 in
theorem ck_125 : mk_125.all (fun l => l.all (okE 6 prog_8_method_12_code)) = true := all_c ck_125_0 (rfl)
set_option maxRecDepth 100000 in
theorem ck_126_0 : mk_126_0.all (okE 6 prog_8_method_10_code) = true := by decide +kernel
set_option maxRecDepth 100000 in
theorem ck_126_1 : mk_126_1.all (okE 6 prog_8_method_10_code) = true := all_okGb (k := 32) (by decide +kernel)
set_option maxRecDepth 100000 in
theorem ck_126_2 : mk_126_2.all (okE 6 prog_8_method_10_code) = true := all_okGb (k := 64) (by decide +kernel)
set_option maxRecDepth 100000 in
theorem ck_126_3 : mk_126_3.all (okE 6 prog_8_method_10_code) = true := all_okGb (k := 96) (by decide +kernel)
set_option maxRecDepth 100000 in
theorem ck_126_4 : mk_126_4.all (okE 6 prog_8_method_10_code) = true := all_okGb (k := 128) (by decide +kernel)
set_option maxRecDepth 100000 in
theorem ck_126 : mk_126.all (fun l => l.all (okE 6 prog_8_method_10_code)) = true := all_c ck_126_0 (all_c ck_126_1 (all_c ck_126_2 (all_c ck_126_3 (all_c ck_126_4 (rfl)))))
set_option maxRecDepth 100000 in
theorem ck_127_0 : mk_127_0.all (okE 6 prog_8_method_9_code) = true := by decide +kernel
set_option maxRecDepth 100000 in
theorem ck_127_1 : mk_127_1.all (okE 6 prog_8_method_9_code) = true := all_okGb (k := 32) (by decide +kernel)
set_option maxRecDepth 100000 in
theorem ck_127_2 : mk_127_2.all (okE 6 prog_8_method_9_code) = true := all_okGb (k := 64) (by decide +kernel)
set_option maxRecDepth 100000 in
theorem ck_127_3 : mk_127_3.all (okE 6 prog_8_method_9_code) = true := all_okGb (k := 96) (by decide +kernel)
set_option maxRecDepth 100000 in
theorem ck_127_4 : mk_127_4.all (okE 6 prog_8_method_9_code) = true := all_okGb (k := 128) (by decide +kernel)
set_option maxRecDepth 100000 in
theorem ck_127 : mk_127.all (fun l => l.all (okE 6 prog_8_method_9_code)) = true := all_c ck_127_0 (all_c ck_127_1 (all_c ck_127_2 (all_c ck_127_3 (all_c ck_127_4 (rfl)))))
set_option maxRecDepth 100000 in
theorem ck_128_0 : mk_128_0.all (okE 1 prog_6_method_3_code) = true := all_okGb (k := 0) (by decide +kernel)
set_option maxRecDepth 100000 in
theorem ck_128 : mk_128.all (fun l => l.all (okE 1 prog_6_method_3_code)) = true := all_c ck_128_0 (rfl)
set_option maxRecDepth 100000 in
theorem ck_129_0 : mk_129_0.all (okE 2 prog_2_method_33_code) = true := all_okGb (k := 0) (by decide +kernel)
set_option maxRecDepth 100000 in
theorem ck_129_1 : mk_129_1.all (okE 2 prog_2_method_33_code) = true := all_okGb (k := 32) (by decide +kernel)
set_option maxRecDepth 100000 in
theorem ck_129 : mk_129.all (fun l => l.all (okE 2 prog_2_method_33_code)) = true := all_c ck_129_0 (all_c ck_129_1 (rfl))
set_option maxRecDepth 100000 in
theorem ck_130_0 : mk_130_0.all (okE 6 prog_8_method_14_code) = true := by decide +kernel
set_option maxRecDepth 100000 in
theorem ck_130_1 : mk_130_1.all (okE 6 prog_8_method_14_code) = true := all_okGb (k := 32) (by decide +kernel)
set_option maxRecDepth 100000 in
theorem ck_130_2 : mk_130_2.all (okE 6 prog_8_method_14_code) = true := all_okGb (k := 64) (by decide +kernel)
set_option maxRecDepth 100000 in
theorem ck_130 : mk_130.all (fun l => l.all (okE 6 prog_8_method_14_code)) = true := all_c ck_130_0 (all_c ck_130_1 (all_c ck_130_2 (rfl)))
set_option maxRecDepth 100000 in
theorem ck_131_0 : mk_131_0.all (okE 6 prog_8_method_13_code) = true := all_okGb (k := 0) (by decide +kernel)
set_option maxRecDepth 100000 in
theorem ck_131_1 : mk_131_1.all (okE 6 prog_8_method_13_code) = true := all_okGb (k := 32) (by decide +kernel)
set_option maxRecDepth 100000 in
theorem ck_131 : mk_131.all (fun l => l.all (okE 6 prog_8_method_13_code)) = true := all_c ck_131_0 (all_c ck_131_1 (rfl))
set_option maxRecDepth 100000 in
theorem ck_132_0 : mk_132_0.all (okE 0 prog_1_method_28_code) = true := all_okGb (k := 0) (by decide +kernel)
set_option maxRecDepth 100000 in
theorem ck_132 : mk_132.all (fun l => l.all (okE 0 prog_1_method_28_code)) = true := all_c ck_132_0 (rfl)
set_option maxRecDepth 100000 in
theorem ck_133_0 : mk_133_0.all (okE 6 prog_8_method_15_code) = true := all_okGb (k := 0) (by decide +kernel)
set_option maxRecDepth 100000 in
theorem ck_133_1 : mk_133_1.all (okE 6 prog_8_method_15_code) = true := all_okGb (k := 32) (by decide +kernel)
set_option maxRecDepth 100000 in
theorem ck_133_2 : mk_133_2.all (okE 6 prog_8_method_15_code) = true := all_okGb (k := 64) (by decide +kernel)
set_option maxRecDepth 100000 in
theorem ck_133_3 : mk_133_3.all (okE 6 prog_8_method_15_code) = true := all_okGb (k := 96) (by decide +kernel)
set_option maxRecDepth 100000 in
theorem ck_133_4 : mk_133_4.all (okE 6 prog_8_method_15_code) = true := all_okGb (k := 128) (by decide +kernel)
set_option maxRecDepth 100000 in
theorem ck_133 : mk_133.all (fun l => l.all (okE 6 prog_8_method_15_code)) = true := all_c ck_133_0 (all_c ck_133_1 (all_c ck_133_2 (all_c ck_133_3 (all_c ck_133_4 (rfl)))))
set_option maxRecDepth 100000 in
theorem ck_134_0 : mk_134_0.all (okE 0 prog_1_method_29_code) = true := all_okGb (k := 0) (by decide +kernel)
set_option maxRecDepth 100000 in
theorem ck_134 : mk_134.all (fun l => l.all (okE 0 prog_1_method_29_code)) = true := all_c ck_134_0 (rfl)
set_option maxRecDepth 100000 in
theorem ck_135_0 : mk_135_0.all (okE 2 prog_2_method_27_code) = true := all_okGb (k := 0) (by decide +kernel)
set_option maxRecDepth 100000 in
theorem ck_135_1 : mk_135_1.all (okE 2 prog_2_method_27_code) = true := all_okGb (k := 32) (by decide +kernel)
set_option maxRecDepth 100000 in
theorem ck_135_2 : mk_135_2.all (okE 2 prog_2_method_27_code) = true := all_okGb (k := 64) (by decide +kernel)
set_option maxRecDepth 100000 in
theorem ck_135_3 : mk_135_3.all (okE 2 prog_2_method_27_code) = true := all_okGb (k := 96) (by decide +kernel)
set_option maxRecDepth 100000 in
theorem ck_135_4 : mk_135_4.all (okE 2 prog_2_method_27_code) = true := all_okGb (k := 128) (by decide +kernel)
set_option maxRecDepth 100000 in
theorem ck_135 : mk_135.all (fun l => l.all (okE 2 prog_2_method_27_code)) = true := all_c ck_135_0 (all_c ck_135_1 (all_c ck_135_2 (all_c ck_135_3 (all_c ck_135_4 (rfl)))))
set_option maxRecDepth 100000 in
theorem ck_136_0 : mk_136_0.all (okE 1 prog_6_method_12_code) = true := all_okGb (k := 0) (by decide +kernel)
set_option maxRecDepth 100000 in
theorem ck_136 : mk_136.all (fun l => l.all (okE 1 prog_6_method_12_code)) = true := all_c ck_136_0 (rfl)
set_option maxRecDepth 100000 in
theorem ck_137_0 : mk_137_0.all (okE 1 prog_6_method_13_code) = true := all_okGb (k := 0) (by decide +kernel)
set_option maxRecDepth 100000 in
theorem ck_137_1 : mk_137_1.all (okE 1 prog_6_method_13_code) = true := all_okGb (k := 32) (by decide +kernel)
set_option maxRecDepth 100000 in
theorem ck_137 : mk_137.all (fun l => l.all (okE 1 prog_6_method_13_code)) = true := all_c ck_137_0 (all_c ck_137_1 (rfl))
set_option maxRecDepth 100000 in
theorem ck_138_0 : mk_138_0.all (okE 2 prog_2_method_24_code) = true := all_okGb (k := 0) (by decide +kernel)
set_option maxRecDepth 100000 in
theorem ck_138_1 : mk_138_1.all (okE 2 prog_2_method_24_code) = true := all_okGb (k := 32) (by decide +kernel)
set_option maxRecDepth 100000 in
theorem ck_138_2 : mk_138_2.all (okE 2 prog_2_method_24_code) = true := all_okGb (k := 64) (by decide +kernel)
set_option maxRecDepth 100000 in
theorem ck_138_3 : mk_138_3.all (okE 2 prog_2_method_24_code) = true := all_okGb (k := 96) (by decide +kernel)
set_option maxRecDepth 100000 in
theorem ck_138_4 : mk_138_4.all (okE 2 prog_2_method_24_code) = true := all_okGb (k := 128) (by decide +kernel)
set_option maxRecDepth 100000 in
theorem ck_138 : mk_138.all (fun l => l.all (okE 2 prog_2_method_24_code)) = true := all_c ck_138_0 (all_c ck_138_1 (all_c ck_138_2 (all_c ck_138_3 (all_c ck_138_4 (rfl)))))
set_option maxRecDepth 100000 in
theorem ck_139_0 : mk_139_0.all (okE 1 prog_6_method_14_code) = true := all_okGb (k := 0) (by decide +kernel)
set_option maxRecDepth 100000 in
theorem ck_139 : mk_139.all (fun l => l.all (okE 1 prog_6_method_14_code)) = true := all_c ck_139_0 (rfl)
set_option maxRecDepth 100000 in
theorem ck_140_0 : mk_140_0.all (okE 0 prog_1_method_30_code) = true := all_okGb (k := 0) (by decide +kernel)
set_option maxRecDepth 100000 in
theorem ck_140 : mk_140.all (fun l => l.all (okE 0 prog_1_method_30_code)) = true := all_c ck_140_0 (rfl)
set_option maxRecDepth 100000 in
theorem ck_141_0 : mk_141_0.all (okE 7 prog_4_method_5_code) = true := all_okGb (k := 0) (by decide +kernel)
set_option maxRecDepth 100000 in
theorem ck_141_1 : mk_141_1.all (okE 7 prog_4_method_5_code) = true := all_okGb (k := 32) (by decide +kernel)
set_option maxRecDepth 100000 in
theorem ck_141_2 : mk_141_2.all (okE 7 prog_4_method_5_code) = true := all_okGb (k := 64) (by decide +kernel)
set_option maxRecDepth 100000 in
theorem ck_141_3 : mk_141_3.all (okE 7 prog_4_method_5_code) = true := all_okGb (k := 96) (by decide +kernel)
set_option maxRecDepth 100000 in
theorem ck_141 : mk_141.all (fun l => l.all (okE 7 prog_4_method_5_code)) = true := all_c ck_141_0 (all_c ck_141_1 (all_c ck_141_2 (all_c ck_141_3 (rfl))))
set_option maxRecDepth 100000 in
theorem ck_142_0 : mk_142_0.all (okE 0 prog_1_method_31_code) = true := all_okGb (k := 0) (by decide +kernel)
set_option maxRecDepth 100000 in
theorem ck_142 : mk_142.all (fun l => l.all (okE 0 prog_1_method_31_code)) = true := all_c ck_142_0 (rfl)
set_option maxRecDepth 100000 in
theorem ck_143_0 : mk_143_0.all (okE 7 prog_4_method_6_code) = true := all_okGb (k := 0) (by decide +kernel)
set_option maxRecDepth 100000 in
theorem ck_143_1 : mk_143_1.all (okE 7 prog_4_method_6_code) = true := all_okGb (k := 32) (by decide +kernel)
set_option maxRecDepth 100000 in
theorem ck_143 : mk_143.all (fun l => l.all (okE 7 prog_4_method_6_code)) = true := all_c ck_143_0 (all_c ck_143_1 (rfl))
set_option maxRecDepth 100000 in
theorem ck_144_0 : mk_144_0.all (okE 0 prog_1_method_32_code) = true := all_okGb (k := 0) (by decide +kernel)
set_option maxRecDepth 100000 in
theorem ck_144_1 : mk_144_1.all (okE 0 prog_1_method_32_code) = true := all_okGb (k := 32) (by decide +kernel)
set_option maxRecDepth 100000 in
theorem ck_144 : mk_144.all (fun l => l.all (okE 0 prog_1_method_32_code)) = true := all_c ck_144_0 (all_c ck_144_1 (rfl))
set_option maxRecDepth 100000 in
theorem ck_145_0 : mk_145_0.all (okE 7 prog_4_method_9_code) = true := all_okGb (k := 0) (by decide +kernel)
set_option maxRecDepth 100000 in
theorem ck_145_1 : mk_145_1.all (okE 7 prog_4_method_9_code) = true := all_okGb (k := 32) (by decide +kernel)
set_option maxRecDepth 100000 in
theorem ck_145_2 : mk_145_2.all (okE 7 prog_4_method_9_code) = true := all_okGb (k := 64) (by decide +kernel)
set_option maxRecDepth 100000 in
theorem ck_145_3 : mk_145_3.all (okE 7 prog_4_method_9_code) = true := all_okGb (k := 96) (by decide +kernel)
set_option maxRecDepth 100000 in
theorem ck_145 : mk_145.all (fun l => l.all (okE 7 prog_4_method_9_code)) = true := all_c ck_145_0 (all_c ck_145_1 (all_c ck_145_2 (all_c ck_145_3 (rfl))))
set_option maxRecDepth 100000 in
theorem ck_146_0 : mk_146_0.all (okE 7 prog_4_method_10_code) = true := all_okGb (k := 0) (by decide +kernel)
set_option maxRecDepth 100000 in
theorem ck_146_1 : mk_146_1.all (okE 7 prog_4_method_10_code) = true := all_okGb (k := 32) (by decide +kernel)
set_option maxRecDepth 100000 in
theorem ck_146_2 : mk_146_2.all (okE 7 prog_4_method_10_code) = true := all_okGb (k := 64) (by decide +kernel)
set_option maxRecDepth 100000 in
theorem ck_146_3 : mk_146_3.all (okE 7 prog_4_method_10_code) = true := all_okGb (k := 96) (by decide +kernel)
set_option maxRecDepth 100000 in
theorem ck_146 : mk_146.all (fun l => l.all (okE 7 prog_4_method_10_code)) = true := all_c ck_146_0 (all_c ck_146_1 (all_c ck_146_2 (all_c ck_146_3 (rfl))))
set_option maxRecDepth 100000 in
theorem ck_147_0 : mk_147_0.all (okE 7 prog_4_method_8_code) = true := all_okGb (k := 0) (by decide +kernel)
set_option maxRecDepth 100000 in
theorem ck_147 : mk_147.all (fun l => l.all (okE 7 prog_4_method_8_code)) = true := all_c ck_147_0 (rfl)
set_option maxRecDepth 100000 in
theorem ck_148_0 : mk_148_0.all (okE 7 prog_4_method_7_code) = true := all_okGb (k := 0) (by decide +kernel)
set_option maxRecDepth 100000 in
theorem ck_148 : mk_148.all (fun l => l.all (okE 7 prog_4_method_7_code)) = true := all_c ck_148_0 (rfl)
set_option maxRecDepth 100000 in
theorem ck_149_0 : mk_149_0.all (okE 0 prog_1_method_33_code) = true := all_okGb (k := 0) (by decide +kernel)
set_option maxRecDepth 100000 in
theorem ck_149_1 : mk_149_1.all (okE 0 prog_1_method_33_code) = true := all_okGb (k := 32) (by decide +kernel)
set_option maxRecDepth 100000 in
theorem ck_149 : mk_149.all (fun l => l.all (okE 0 prog_1_method_33_code)) = true := all_c ck_149_0 (all_c ck_149_1 (rfl))
set_option maxRecDepth 100000 in
theorem ck_150_0 : mk_150_0.all (okE 7 prog_4_method_11_code) = true := all_okGb (k := 0) (by decide +kernel)
set_option maxRecDepth 100000 in
theorem ck_150_1 : mk_150_1.all (okE 7 prog_4_method_11_code) = true := all_okGb (k := 32) (by decide +kernel)
set_option maxRecDepth 100000 in
theorem ck_150_2 : mk_150_2.all (okE 7 prog_4_method_11_code) = true := all_okGb (k := 64) (by decide +kernel)
set_option maxRecDepth 100000 in
theorem ck_150_3 : mk_150_3.all (okE 7 prog_4_method_11_code) = true := all_okGb (k := 96) (by decide +kernel)
set_option maxRecDepth 100000 in
theorem ck_150_4 : mk_150_4.all (okE 7 prog_4_method_11_code) = true := all_okGb (k := 128) (by decide +kernel)
set_option maxRecDepth 100000 in
theorem ck_150 : mk_150.all (fun l => l.all (okE 7 prog_4_method_11_code)) = true := all_c ck_150_0 (all_c ck_150_1 (all_c ck_150_2 (all_c ck_150_3 (all_c ck_150_4 (rfl)))))
set_option maxRecDepth 100000 in
theorem ck_151_0 : mk_151_0.all (okE 2 prog_2_method_23_code) = true := all_okGb (k := 0) (by decide +kernel)
set_option maxRecDepth 100000 in
theorem ck_151_1 : mk_151_1.all (okE 2 prog_2_method_23_code) = true := all_okGb (k := 32) (by decide +kernel)
set_option maxRecDepth 100000 in
theorem ck_151_2 : mk_151_2.all (okE 2 prog_2_method_23_code) = true := all_okGb (k := 64) (by decide +kernel)
set_option maxRecDepth 100000 in
theorem ck_151 : mk_151.all (fun l => l.all (okE 2 prog_2_method_23_code)) = true := all_c ck_151_0 (all_c ck_151_1 (all_c ck_151_2 (rfl)))
set_option maxRecDepth 100000 in
theorem ck_152_0 : mk_152_0.all (okE 2 prog_2_method_21_code) = true := all_okGb (k := 0) (by decide +kernel)
set_option maxRecDepth 100000 in
theorem ck_152_1 : mk_152_1.all (okE 2 prog_2_method_21_code) = true := all_okGb (k := 32) (by decide +kernel)
set_option maxRecDepth 100000 in
theorem ck_152_2 : mk_152_2.all (okE 2 prog_2_method_21_code) = true := all_okGb (k := 64) (by decide +kernel)
set_option maxRecDepth 100000 in
theorem ck_152 : mk_152.all (fun l => l.all (okE 2 prog_2_method_21_code)) = true := all_c ck_152_0 (all_c ck_152_1 (all_c ck_152_2 (rfl)))
set_option maxRecDepth 100000 in
theorem ck_153_0 : mk_153_0.all (okE 7 prog_4_method_12_code) = true := all_okGb (k := 0) (by decide +kernel)
set_option maxRecDepth 100000 in
theorem ck_153_1 : mk_153_1.all (okE 7 prog_4_method_12_code) = true := all_okGb (k := 32) (by decide +kernel)
set_option maxRecDepth 100000 in
theorem ck_153_2 : mk_153_2.all (okE 7 prog_4_method_12_code) = true := all_okGb (k := 64) (by decide +kernel)
set_option maxRecDepth 100000 in
theorem ck_153 : mk_153.all (fun l => l.all (okE 7 prog_4_method_12_code)) = true := all_c ck_153_0 (all_c ck_153_1 (all_c ck_153_2 (rfl)))
set_option maxRecDepth 100000 in
theorem ck_154_0 : mk_154_0.all (okE 0 prog_1_method_34_code) = true := all_okGb (k := 0) (by decide +kernel)
set_option maxRecDepth 100000 in
theorem ck_154_1 : mk_154_1.all (okE 0 prog_1_method_34_code) = true := all_okGb (k := 32) (by decide +kernel)
set_option maxRecDepth 100000 in
theorem ck_154 : mk_154.all (fun l => l.all (okE 0 prog_1_method_34_code)) = true := all_c ck_154_0 (all_c ck_154_1 (rfl))
set_option maxRecDepth 100000 in
theorem ck_155_0 : mk_155_0.all (okE 7 prog_4_method_13_code) = true := all_okGb (k := 0) (by decide +kernel)
set_option maxRecDepth 100000 in
theorem ck_155 : mk_155.all (fun l => l.all (okE 7 prog_4_method_13_code)) = true := all_c ck_155_0 (rfl)
set_option maxRecDepth 100000 in
theorem ck_156_0 : mk_156_0.all (okE 2 prog_2_method_28_code) = true := all_okGb (k := 0) (by decide +kernel)
set_option maxRecDepth 100000 in
theorem ck_156_1 : mk_156_1.all (okE 2 prog_2_method_28_code) = true := all_okGb (k := 32) (by decide +kernel)
set_option maxRecDepth 100000 in
theorem ck_156 : mk_156.all (fun l => l.all (okE 2 prog_2_method_28_code)) = true := all_c ck_156_0 (all_c ck_156_1 (rfl))
set_option maxRecDepth 100000 in
theorem ck_157_0 : mk_157_0.all (okE 0 prog_1_method_35_code) = true := all_okGb (k := 0) (by decide +kernel)
set_option maxRecDepth 100000 in
theorem ck_157 : mk_157.all (fun l => l.all (okE 0 prog_1_method_35_code)) = true := all_c ck_157_0 (rfl)
set_option maxRecDepth 100000 in
theorem ck_158_0 : mk_158_0.all (okE 7 prog_4_method_14_code) = true := all_okGb (k := 0) (by decide +kernel)
set_option maxRecDepth 100000 in
theorem ck_158_1 : mk_158_1.all (okE 7 prog_4_method_14_code) = true := all_okGb (k := 32) (by decide +kernel)
set_option maxRecDepth 100000 in
theorem ck_158_2 : mk_158_2.all (okE 7 prog_4_method_14_code) = true := all_okGb (k := 64) (by decide +kernel)
set_option maxRecDepth 100000 in
theorem ck_158 : mk_158.all (fun l => l.all (okE 7 prog_4_method_14_code)) = true := all_c ck_158_0 (all_c ck_158_1 (all_c ck_158_2 (rfl)))
set_option maxRecDepth 100000 in
theorem ck_159_0 : mk_159_0.all (okE 0 prog_1_method_36_code) = true := all_okGb (k := 0) (by decide +kernel)
set_option maxRecDepth 100000 in
theorem ck_159 : mk_159.all (fun l => l.all (okE 0 prog_1_method_36_code)) = true := all_c ck_159_0 (rfl)
set_option maxRecDepth 100000 in
theorem ck_160_0 : mk_160_0.all (okE 7 prog_4_method_15_code) = true := all_okGb (k := 0) (by decide +kernel)
set_option maxRecDepth 100000 in
theorem ck_160_1 : mk_160_1.all (okE 7 prog_4_method_15_code) = true := all_okGb (k := 32) (by decide +kernel)
set_option maxRecDepth 100000 in
theorem ck_160_2 : mk_160_2.all (okE 7 prog_4_method_15_code) = true := all_okGb (k := 64) (by decide +kernel)
set_option maxRecDepth 100000 in
theorem ck_160 : mk_160.all (fun l => l.all (okE 7 prog_4_method_15_code)) = true := all_c ck_160_0 (all_c ck_160_1 (all_c ck_160_2 (rfl)))
set_option maxRecDepth 100000 in
theorem ck_161_0 : mk_161_0.all (okE 0 prog_1_method_37_code) = true := all_okGb (k := 0) (by decide +kernel)
set_option maxRecDepth 100000 in
theorem ck_161 : mk_161.all (fun l => l.all (okE 0 prog_1_method_37_code)) = true := all_c ck_161_0 (rfl)
set_option maxRecDepth 100000 in
theorem ck_162_0 : mk_162_0.all (okE 7 prog_4_method_20_code) = true := by decide +kernel
set_option maxRecDepth 100000 in
theorem ck_162_1 : mk_162_1.all (okE 7 prog_4_method_20_code) = true := all_okGb (k := 32) (by decide +kernel)
set_option maxRecDepth 100000 in
theorem ck_162_2 : mk_162_2.all (okE 7 prog_4_method_20_code) = true := all_okGb (k := 64) (by decide +kernel)
set_option maxRecDepth 100000 in
theorem ck_162_3 : mk_162_3.all (okE 7 prog_4_method_20_code) = true := all_okGb (k := 96) (by decide +kernel)
set_option maxRecDepth 100000 in
theorem ck_162 : mk_162.all (fun l => l.all (okE 7 prog_4_method_20_code)) = true := all_c ck_162_0 (all_c ck_162_1 (all_c ck_162_2 (all_c ck_162_3 (rfl))))
set_option maxRecDepth 100000 in
theorem ck_163_0 : mk_163_0.all (okE 0 prog_1_method_38_code) = true := all_okGb (k := 0) (by decide +kernel)
set_option maxRecDepth 100000 in
theorem ck_163 : mk_163.all (fun l => l.all (okE 0 prog_1_method_38_code)) = true := all_c ck_163_0 (rfl)
set_option maxRecDepth 100000 in
theorem ck_164_0 : mk_164_0.all (okE 8 prog_7_method_3_code) = true := all_okGb (k := 0) (by decide +kernel)
set_option maxRecDepth 100000 in
theorem ck_164_1 : mk_164_1.all (okE 8 prog_7_method_3_code) = true := all_okGb (k := 32) (by decide +kernel)
set_option maxRecDepth 100000 in
theorem ck_164_2 : mk_164_2.all (okE 8 prog_7_method_3_code) = true := all_okGb (k := 64) (by decide +kernel)
set_option maxRecDepth 100000 in
theorem ck_164 : mk_164.all (fun l => l.all (okE 8 prog_7_method_3_code)) = true := all_c ck_164_0 (all_c ck_164_1 (all_c ck_164_2 (rfl)))
set_option maxRecDepth 100000 in
theorem ck_165_0 : mk_165_0.all (okE 8 prog_7_method_2_code) = true := all_okGb (k := 0) (by decide +kernel)
set_option maxRecDepth 100000 in
theorem ck_165 : mk_165.all (fun l => l.all (okE 8 prog_7_method_2_code)) = true := all_c ck_165_0 (rfl)
set_option maxRecDepth 100000 in
theorem ck_166_0 : mk_166_0.all (okE 0 prog_1_method_39_code) = true := all_okGb (k := 0) (by decide +kernel)
set_option maxRecDepth 100000 in
theorem ck_166 : mk_166.all (fun l => l.all (okE 0 prog_1_method_39_code)) = true := all_c ck_166_0 (rfl)
set_option maxRecDepth 100000 in
theorem ck_167_0 : mk_167_0.all (okE 8 prog_7_method_4_code) = true := all_okGb (k := 0) (by decide +kernel)
set_option maxRecDepth 100000 in
theorem ck_167_1 : mk_167_1.all (okE 8 prog_7_method_4_code) = true := all_okGb (k := 32) (by decide +kernel)
set_option maxRecDepth 100000 in
theorem ck_167_2 : mk_167_2.all (okE 8 prog_7_method_4_code) = true := all_okGb (k := 64) (by decide +kernel)
set_option maxRecDepth 100000 in
theorem ck_167 : mk_167.all (fun l => l.all (okE 8 prog_7_method_4_code)) = true := all_c ck_167_0 (all_c ck_167_1 (all_c ck_167_2 (rfl)))
set_option maxRecDepth 100000 in
theorem ck_168_0 : mk_168_0.all (okE 0 prog_1_method_40_code) = true := all_okGb (k := 0) (by decide +kernel)
set_option maxRecDepth 100000 in
theorem ck_168 : mk_168.all (fun l => l.all (okE 0 prog_1_method_40_code)) = true := all_c ck_168_0 (rfl)
set_option maxRecDepth 100000 in
theorem ck_169_0 : mk_169_0.all (okE 8 prog_7_method_5_code) = true := all_okGb (k := 0) (by decide +kernel)
set_option maxRecDepth 100000 in
theorem ck_169_1 : mk_169_1.all (okE 8 prog_7_method_5_code) = true := all_okGb (k := 32) (by decide +kernel)
set_option maxRecDepth 100000 in
theorem ck_169_2 : mk_169_2.all (okE 8 prog_7_method_5_code) = true := all_okGb (k := 64) (by decide +kernel)
set_option maxRecDepth 100000 in
theorem ck_169_3 : mk_169_3.all (okE 8 prog_7_method_5_code) = true := all_okGb (k := 96) (by decide +kernel)
set_option maxRecDepth 100000 in
theorem ck_169 : mk_169.all (fun l => l.all (okE 8 prog_7_method_5_code)) = true := all_c ck_169_0 (all_c ck_169_1 (all_c ck_169_2 (all_c ck_169_3 (rfl))))
set_option maxRecDepth 100000 in
theorem ck_170_0 : mk_170_0.all (okE 8 prog_7_method_6_code) = true := all_okGb (k := 0) (by decide +kernel)
set_option maxRecDepth 100000 in
theorem ck_170_1 : mk_170_1.all (okE 8 prog_7_method_6_code) = true := all_okGb (k := 32) (by decide +kernel)
set_option maxRecDepth 100000 in
theorem ck_170_2 : mk_170_2.all (okE 8 prog_7_method_6_code) = true := all_okGb (k := 64) (by decide +kernel)
set_option maxRecDepth 100000 in
theorem ck_170_3 : mk_170_3.all (okE 8 prog_7_method_6_code) = true := all_okGb (k := 96) (by decide +kernel)
set_option maxRecDepth 100000 in
theorem ck_170 : mk_170.all (fun l => l.all (okE 8 prog_7_method_6_code)) = true := all_c ck_170_0 (all_c ck_170_1 (all_c ck_170_2 (all_c ck_170_3 (rfl))))
set_option maxRecDepth 100000 in
theorem ck_171_0 : mk_171_0.all (okE 8 prog_7_method_7_code) = true := all_okGb (k := 0) (by decide +kernel)
set_option maxRecDepth 100000 in
theorem ck_171_1 : mk_171_1.all (okE 8 prog_7_method_7_code) = true := all_okGb (k := 32) (by decide +kernel)
set_option maxRecDepth 100000 in
theorem ck_171_2 : mk_171_2.all (okE 8 prog_7_method_7_code) = true := all_okGb (k := 64) (by decide +kernel)
set_option maxRecDepth 100000 in
theorem ck_171 : mk_171.all (fun l => l.all (okE 8 prog_7_method_7_code)) = true := all_c ck_171_0 (all_c ck_171_1 (all_c ck_171_2 (rfl)))
set_option maxRecDepth 100000 in
theorem ck_172_0 : mk_172_0.all (okE 8 prog_7_method_8_code) = true := all_okGb (k := 0) (by decide +kernel)
set_option maxRecDepth 100000 in
theorem ck_172_1 : mk_172_1.all (okE 8 prog_7_method_8_code) = true := all_okGb (k := 32) (by decide +kernel)
set_option maxRecDepth 100000 in
theorem ck_172_2 : mk_172_2.all (okE 8 prog_7_method_8_code) = true := all_okGb (k := 64) (by decide +kernel)
set_option maxRecDepth 100000 in
theorem ck_172_3 : mk_172_3.all (okE 8 prog_7_method_8_code) = true := all_okGb (k := 96) (by decide +kernel)
set_option maxRecDepth 100000 in
theorem ck_172_4 : mk_172_4.all (okE 8 prog_7_method_8_code) = true := all_okGb (k := 128) (by decide +kernel)
set_option maxRecDepth 100000 in
theorem ck_172_5 : mk_172_5.all (okE 8 prog_7_method_8_code) = true := all_okGb (k := 160) (by decide +kernel)
set_option maxRecDepth 100000 in
theorem ck_172 : mk_172.all (fun l => l.all (okE 8 prog_7_method_8_code)) = true := all_c ck_172_0 (all_c ck_172_1 (all_c ck_172_2 (all_c ck_172_3 (all_c ck_172_4 (all_c ck_172_5 (rfl))))))
set_option maxRecDepth 100000 in
theorem ck_173_0 : mk_173_0.all (okE 14 prog_16_method_70_code) = true := all_okGb (k := 0) (by decide +kernel)
set_option maxRecDepth 100000 in
theorem ck_173 : mk_173.all (fun l => l.all (okE 14 prog_16_method_70_code)) = true := all_c ck_173_0 (rfl)
set_option maxRecDepth 100000 in
theorem ck_174_0 : mk_174_0.all (okE 14 prog_16_method_66_code) = true := all_okGb (k := 0) (by decide +kernel)
set_option maxRecDepth 100000 in
theorem ck_174 : mk_174.all (fun l => l.all (okE 14 prog_16_method_66_code)) = true := all_c ck_174_0 (rfl)
set_option maxRecDepth 100000 in
theorem ck_175_0 : mk_175_0.all (okE 0 prog_1_method_41_code) = true := all_okGb (k := 0) (by decide +kernel)
set_option maxRecDepth 100000 in
theorem ck_175 : mk_175.all (fun l => l.all (okE 0 prog_1_method_41_code)) = true := all_c ck_175_0 (rfl)
set_option maxRecDepth 100000 in
theorem ck_176_0 : mk_176_0.all (okE 8 prog_7_method_9_code) = true := all_okGb (k := 0) (by decide +kernel)
set_option maxRecDepth 100000 in
theorem ck_176_1 : mk_176_1.all (okE 8 prog_7_method_9_code) = true := all_okGb (k := 32) (by decide +kernel)
set_option maxRecDepth 100000 in
theorem ck_176 : mk_176.all (fun l => l.all (okE 8 prog_7_method_9_code)) = true := all_c ck_176_0 (all_c ck_176_1 (rfl))
set_option maxRecDepth 100000 in
theorem ck_177_0 : mk_177_0.all (okE 0 prog_1_method_42_code) = true := all_okGb (k := 0) (by decide +kernel)
set_option maxRecDepth 100000 in
theorem ck_177 : mk_177.all (fun l => l.all (okE 0 prog_1_method_42_code)) = true := all_c ck_177_0 (rfl)
set_option maxRecDepth 100000 in
theorem ck_178_0 : mk_178_0.all (okE 9 prog_12_method_2_code) = true := all_okGb (k := 0) (by decide +kernel)
set_option maxRecDepth 100000 in
theorem ck_178_1 : mk_178_1.all (okE 9 prog_12_method_2_code) = true := all_okGb (k := 32) (by decide +kernel)
set_option maxRecDepth 100000 in
theorem ck_178_2 : mk_178_2.all (okE 9 prog_12_method_2_code) = true := all_okGb (k := 64) (by decide +kernel)
set_option maxRecDepth 100000 in
theorem ck_178 : mk_178.all (fun l => l.all (okE 9 prog_12_method_2_code)) = true := all_c ck_178_0 (all_c ck_178_1 (all_c ck_178_2 (rfl)))
set_option maxRecDepth 100000 in
theorem ck_179_0 : mk_179_0.all (okE 9 prog_12_method_4_code) = true := all_okGb (k := 0) (by decide +kernel)
set_option maxRecDepth 100000 in
theorem ck_179_1 : mk_179_1.all (okE 9 prog_12_method_4_code) = true := all_okGb (k := 32) (by decide +kernel)
set_option maxRecDepth 100000 in
theorem ck_179 : mk_179.all (fun l => l.all (okE 9 prog_12_method_4_code)) = true := all_c ck_179_0 (all_c ck_179_1 (rfl))
set_option maxRecDepth 100000 in
theorem ck_180_0 : mk_180_0.all (okE 9 prog_12_method_3_code) = true := all_okGb (k := 0) (by decide +kernel)
set_option maxRecDepth 100000 in
theorem ck_180 : mk_180.all (fun l => l.all (okE 9 prog_12_method_3_code)) = true := all_c ck_180_0 (rfl)
set_option maxRecDepth 100000 in
theorem ck_181_0 : mk_181_0.all (okE 9 prog_12_method_5_code) = true := all_okGb (k := 0) (by decide +kernel)
set_option maxRecDepth 100000 in
theorem ck_181_1 : mk_181_1.all (okE 9 prog_12_method_5_code) = true := all_okGb (k := 32) (by decide +kernel)
set_option maxRecDepth 100000 in
theorem ck_181 : mk_181.all (fun l => l.all (okE 9 prog_12_method_5_code)) = true := all_c ck_181_0 (all_c ck_181_1 (rfl))
set_option maxRecDepth 100000 in
theorem ck_182_0 : mk_182_0.all (okE 0 prog_1_method_43_code) = true := all_okGb (k := 0) (by decide +kernel)
set_option maxRecDepth 100000 in
theorem ck_182 : mk_182.all (fun l => l.all (okE 0 prog_1_method_43_code)) = true := all_c ck_182_0 (rfl)
set_option maxRecDepth 100000 in
theorem ck_183_0 : mk_183_0.all (okE 9 prog_12_method_6_code) = true := all_okGb (k := 0) (by decide +kernel)
set_option maxRecDepth 100000 in
theorem ck_183_1 : mk_183_1.all (okE 9 prog_12_method_6_code) = true := all_okGb (k := 32) (by decide +kernel)
set_option maxRecDepth 100000 in
theorem ck_183_2 : mk_183_2.all (okE 9 prog_12_method_6_code) = true := all_okGb (k := 64) (by decide +kernel)
set_option maxRecDepth 100000 in
theorem ck_183_3 : mk_183_3.all (okE 9 prog_12_method_6_code) = true := all_okGb (k := 96) (by decide +kernel)
set_option maxRecDepth 100000 in
theorem ck_183_4 : mk_183_4.all (okE 9 prog_12_method_6_code) = true := all_okGb (k := 128) (by decide +kernel)
set_option maxRecDepth 100000 in
theorem ck_183_5 : mk_183_5.all (okE 9 prog_12_method_6_code) = true := all_okGb (k := 160) (by decide +kernel)
set_option maxRecDepth 100000 in
theorem ck_183 : mk_183.all (fun l => l.all (okE 9 prog_12_method_6_code)) = true := all_c ck_183_0 (all_c ck_183_1 (all_c ck_183_2 (all_c ck_183_3 (all_c ck_183_4 (all_c ck_183_5 (rfl))))))
set_option maxRecDepth 100000 in
theorem ck_184_0 : mk_184_0.all (okE 7 prog_4_method_4_code) = true := all_okGb (k := 0) (by decide +kernel)
set_option maxRecDepth 100000 in
theorem ck_184 : mk_184.all (fun l => l.all (okE 7 prog_4_method_4_code)) = true := all_c ck_184_0 (rfl)
set_option maxRecDepth 100000 in
theorem ck_185_0 : mk_185_0.all (okE 7 prog_4_method_3_code) = true := all_okGb (k := 0) (by decide +kernel)
set_option maxRecDepth 100000 in
theorem ck_185 : mk_185.all (fun l => l.all (okE 7 prog_4_method_3_code)) = true := all_c ck_185_0 (rfl)
set_option maxRecDepth 100000 in
theorem ck_186_0 : mk_186_0.all (okE 9 prog_12_method_8_code) = true := all_okGb (k := 0) (by decide +kernel)
set_option maxRecDepth 100000 in
theorem ck_186_1 : mk_186_1.all (okE 9 prog_12_method_8_code) = true := all_okGb (k := 32) (by decide +kernel)
set_option maxRecDepth 100000 in
theorem ck_186_2 : mk_186_2.all (okE 9 prog_12_method_8_code) = true := all_okGb (k := 64) (by decide +kernel)
set_option maxRecDepth 100000 in
theorem ck_186_3 : mk_186_3.all (okE 9 prog_12_method_8_code) = true := all_okGb (k := 96) (by decide +kernel)
set_option maxRecDepth 100000 in
theorem ck_186_4 : mk_186_4.all (okE 9 prog_12_method_8_code) = true := all_okGb (k := 128) (by decide +kernel)
set_option maxRecDepth 100000 in
theorem ck_186_5 : mk_186_5.all (okE 9 prog_12_method_8_code) = true := all_okGb (k := 160) (by decide +kernel)
set_option maxRecDepth 100000 in
theorem ck_186_6 : mk_186_6.all (okE 9 prog_12_method_8_code) = true := all_okGb (k := 192) (by decide +kernel)
set_option maxRecDepth 100000 in
theorem ck_186_7 : mk_186_7.all (okE 9 prog_12_method_8_code) = true := all_okGb (k := 224) (by decide +kernel)
set_option maxRecDepth 100000 in
theorem ck_186 : mk_186.all (fun l => l.all (okE 9 prog_12_method_8_code)) = true := all_c ck_186_0 (all_c ck_186_1 (all_c ck_186_2 (all_c ck_186_3 (all_c ck_186_4 (all_c ck_186_5 (all_c ck_186_6 (all_c ck_186_7 (rfl))))))))
set_option maxRecDepth 100000 in
theorem ck_187_0 : mk_187_0.all (okE 9 prog_12_method_7_code) = true := all_okGb (k := 0) (by decide +kernel)
set_option maxRecDepth 100000 in
theorem ck_187_1 : mk_187_1.all (okE 9 prog_12_method_7_code) = true := all_okGb (k := 32) (by decide +kernel)
set_option maxRecDepth 100000 in
theorem ck_187 : mk_187.all (fun l => l.all (okE 9 prog_12_method_7_code)) = true := all_c ck_187_0 (all_c ck_187_1 (rfl))
set_option maxRecDepth 100000 in
theorem ck_188_0 : mk_188_0.all (okE 0 prog_1_method_44_code) = true := all_okGb (k := 0) (by decide +kernel)
set_option maxRecDepth 100000 in
theorem ck_188 : mk_188.all (fun l => l.all (okE 0 prog_1_method_44_code)) = true := all_c ck_188_0 (rfl)
set_option maxRecDepth 100000 in
theorem ck_189_0 : mk_189_0.all (okE 9 prog_12_method_9_code) = true := all_okGb (k := 0) (by decide +kernel)
set_option maxRecDepth 100000 in
theorem ck_189 : mk_189.all (fun l => l.all (okE 9 prog_12_method_9_code)) = true := all_c ck_189_0 (rfl)
set_option maxRecDepth 100000 in
theorem ck_190_0 : mk_190_0.all (okE 0 prog_1_method_45_code) = true := all_okGb (k := 0) (by decide +kernel)
set_option maxRecDepth 100000 in
theorem ck_190 : mk_190.all (fun l => l.all (okE 0 prog_1_method_45_code)) = true := all_c ck_190_0 (rfl)
set_option maxRecDepth 100000 in
theorem ck_191_0 : mk_191_0.all (okE 10 prog_10_method_2_code) = true := all_okGb (k := 0) (by decide +kernel)
set_option maxRecDepth 100000 in
theorem ck_191_1 : mk_191_1.all (okE 10 prog_10_method_2_code) = true := all_okGb (k := 32) (by decide +kernel)
set_option maxRecDepth 100000 in
theorem ck_191_2 : mk_191_2.all (okE 10 prog_10_method_2_code) = true := all_okGb (k := 64) (by decide +kernel)
set_option maxRecDepth 100000 in
theorem ck_191_3 : mk_191_3.all (okE 10 prog_10_method_2_code) = true := all_okGb (k := 96) (by decide +kernel)
set_option maxRecDepth 100000 in
theorem ck_191_4 : mk_191_4.all (okE 10 prog_10_method_2_code) = true := all_okGb (k := 128) (by decide +kernel)
set_option maxRecDepth 100000 in
theorem ck_191_5 : mk_191_5.all (okE 10 prog_10_method_2_code) = true := all_okGb (k := 160) (by decide +kernel)
set_option maxRecDepth 100000 in
theorem ck_191 : mk_191.all (fun l => l.all (okE 10 prog_10_method_2_code)) = true := all_c ck_191_0 (all_c ck_191_1 (all_c ck_191_2 (all_c ck_191_3 (all_c ck_191_4 (all_c ck_191_5 (rfl))))))
set_option maxRecDepth 100000 in
theorem ck_192_0 : mk_192_0.all (okE 0 prog_1_method_46_code) = true := all_okGb (k := 0) (by decide +kernel)
set_option maxRecDepth 100000 in
theorem ck_192 : mk_192.all (fun l => l.all (okE 0 prog_1_method_46_code)) = true := all_c ck_192_0 (rfl)
set_option maxRecDepth 100000 in
theorem ck_193_0 : mk_193_0.all (okE 10 prog_10_method_3_code) = true := all_okGb (k := 0) (by decide +kernel)
set_option maxRecDepth 100000 in
theorem ck_193_1 : mk_193_1.all (okE 10 prog_10_method_3_code) = true := all_okGb (k := 32) (by decide +kernel)
set_option maxRecDepth 100000 in
theorem ck_193_2 : mk_193_2.all (okE 10 prog_10_method_3_code) = true := all_okGb (k := 64) (by decide +kernel)
set_option maxRecDepth 100000 in
theorem ck_193_3 : mk_193_3.all (okE 10 prog_10_method_3_code) = true := all_okGb (k := 96) (by decide +kernel)
set_option maxRecDepth 100000 in
theorem ck_193_4 : mk_193_4.all (okE 10 prog_10_method_3_code) = true := all_okGb (k := 128) (by decide +kernel)
set_option maxRecDepth 100000 in
theorem ck_193 : mk_193.all (fun l => l.all (okE 10 prog_10_method_3_code)) = true := all_c ck_193_0 (all_c ck_193_1 (all_c ck_193_2 (all_c ck_193_3 (all_c ck_193_4 (rfl)))))
set_option maxRecDepth 100000 in
theorem ck_194_0 : mk_194_0.all (okE 10 prog_10_method_4_code) = true := all_okGb (k := 0) (by decide +kernel)
set_option maxRecDepth 100000 in
theorem ck_194_1 : mk_194_1.all (okE 10 prog_10_method_4_code) = true := all_okGb (k := 32) (by decide +kernel)
set_option maxRecDepth 100000 in
theorem ck_194 : mk_194.all (fun l => l.all (okE 10 prog_10_method_4_code)) = true := all_c ck_194_0 (all_c ck_194_1 (rfl))
set_option maxRecDepth 100000 in
theorem ck_195_0 : mk_195_0.all (okE 10 prog_10_method_5_code) = true := all_okGb (k := 0) (by decide +kernel)
set_option maxRecDepth 100000 in
theorem ck_195 : mk_195.all (fun l => l.all (okE 10 prog_10_method_5_code)) = true := all_c ck_195_0 (rfl)
set_option maxRecDepth 100000 in
theorem ck_196_0 : mk_196_0.all (okE 10 prog_10_method_6_code) = true := all_okGb (k := 0) (by decide +kernel)
set_option maxRecDepth 100000 in
theorem ck_196 : mk_196.all (fun l => l.all (okE 10 prog_10_method_6_code)) = true := all_c ck_196_0 (rfl)
set_option maxRecDepth 100000 in
theorem ck_197_0 : mk_197_0.all (okE 10 prog_10_method_7_code) = true := all_okGb (k := 0) (by decide +kernel)
set_option maxRecDepth 100000 in
theorem ck_197_1 : mk_197_1.all (okE 10 prog_10_method_7_code) = true := all_okGb (k := 32) (by decide +kernel)
set_option maxRecDepth 100000 in
theorem ck_197_2 : mk_197_2.all (okE 10 prog_10_method_7_code) = true := all_okGb (k := 64) (by decide +kernel)
set_option maxRecDepth 100000 in
theorem ck_197_3 : mk_197_3.all (okE 10 prog_10_method_7_code) = true := all_okGb (k := 96) (by decide +kernel)
set_option maxRecDepth 100000 in
theorem ck_197 : mk_197.all (fun l => l.all (okE 10 prog_10_method_7_code)) = true := all_c ck_197_0 (all_c ck_197_1 (all_c ck_197_2 (all_c ck_197_3 (rfl))))
set_option maxRecDepth 100000 in
theorem ck_198_0 : mk_198_0.all (okE 0 prog_1_method_47_code) = true := all_okGb (k := 0) (by decide +kernel)
set_option maxRecDepth 100000 in
theorem ck_198 : mk_198.all (fun l => l.all (okE 0 prog_1_method_47_code)) = true := all_c ck_198_0 (rfl)
set_option maxRecDepth 100000 in
theorem ck_199_0 : mk_199_0.all (okE 10 prog_10_method_8_code) = true := all_okGb (k := 0) (by decide +kernel)
set_option maxRecDepth 100000 in
theorem ck_199 : mk_199.all (fun l => l.all (okE 10 prog_10_method_8_code)) = true := all_c ck_199_0 (rfl)
set_option maxRecDepth 100000 in
theorem ck_200_0 : mk_200_0.all (okE 0 prog_1_method_48_code) = true := all_okGb (k := 0) (by decide +kernel)
set_option maxRecDepth 100000 in
theorem ck_200 : mk_200.all (fun l => l.all (okE 0 prog_1_method_48_code)) = true := all_c ck_200_0 (rfl)
set_option maxRecDepth 100000 in
theorem ck_201_0 : mk_201_0.all (okE 11 prog_5_method_2_code) = true := all_okGb (k := 0) (by decide +kernel)
set_option maxRecDepth 100000 in
theorem ck_201_1 : mk_201_1.all (okE 11 prog_5_method_2_code) = true := all_okGb (k := 32) (by decide +kernel)
set_option maxRecDepth 100000 in
theorem ck_201 : mk_201.all (fun l => l.all (okE 11 prog_5_method_2_code)) = true := all_c ck_201_0 (all_c ck_201_1 (rfl))
set_option maxRecDepth 100000 in
theorem ck_202_0 : mk_202_0.all (okE 0 prog_1_method_49_code) = true := all_okGb (k := 0) (by decide +kernel)
set_option maxRecDepth 100000 in
theorem ck_202 : mk_202.all (fun l => l.all (okE 0 prog_1_method_49_code)) = true := all_c ck_202_0 (rfl)
set_option maxRecDepth 100000 in
theorem ck_203_0 : mk_203_0.all (okE 11 prog_5_method_3_code) = true := all_okGb (k := 0) (by decide +kernel)
set_option maxRecDepth 100000 in
theorem ck_203_1 : mk_203_1.all (okE 11 prog_5_method_3_code) = true := all_okGb (k := 32) (by decide +kernel)
set_option maxRecDepth 100000 in
theorem ck_203 : mk_203.all (fun l => l.all (okE 11 prog_5_method_3_code)) = true := all_c ck_203_0 (all_c ck_203_1 (rfl))
set_option maxRecDepth 100000 in
theorem ck_204_0 : mk_204_0.all (okE 0 prog_1_method_50_code) = true := all_okGb (k := 0) (by decide +kernel)
set_option maxRecDepth 100000 in
theorem ck_204_1 : mk_204_1.all (okE 0 prog_1_method_50_code) = true := all_okGb (k := 32) (by decide +kernel)
set_option maxRecDepth 100000 in
theorem ck_204 : mk_204.all (fun l => l.all (okE 0 prog_1_method_50_code)) = true := all_c ck_204_0 (all_c ck_204_1 (rfl))
set_option maxRecDepth 100000 in
theorem ck_205_0 : mk_205_0.all (okE 11 prog_5_method_4_code) = true := all_okGb (k := 0) (by decide +kernel)
set_option maxRecDepth 100000 in
theorem ck_205_1 : mk_205_1.all (okE 11 prog_5_method_4_code) = true := all_okGb (k := 32) (by decide +kernel)
set_option maxRecDepth 100000 in
theorem ck_205_2 : mk_205_2.all (okE 11 prog_5_method_4_code) = true := all_okGb (k := 64) (by decide +kernel)
set_option maxRecDepth 100000 in
theorem ck_205_3 : mk_205_3.all (okE 11 prog_5_method_4_code) = true := all_okGb (k := 96) (by decide +kernel)
set_option maxRecDepth 100000 in
theorem ck_205 : mk_205.all (fun l => l.all (okE 11 prog_5_method_4_code)) = true := all_c ck_205_0 (all_c ck_205_1 (all_c ck_205_2 (all_c ck_205_3 (rfl))))
set_option maxRecDepth 100000 in
theorem ck_206_0 : mk_206_0.all (okE 11 prog_5_method_5_code) = true := all_okGb (k := 0) (by decide +kernel)
set_option maxRecDepth 100000 in
theorem ck_206_1 : mk_206_1.all (okE 11 prog_5_method_5_code) = true := all_okGb (k := 32) (by decide +kernel)
set_option maxRecDepth 100000 in
theorem ck_206_2 : mk_206_2.all (okE 11 prog_5_method_5_code) = true := all_okGb (k := 64) (by decide +kernel)
set_option maxRecDepth 100000 in
theorem ck_206 : mk_206.all (fun l => l.all (okE 11 prog_5_method_5_code)) = true := all_c ck_206_0 (all_c ck_206_1 (all_c ck_206_2 (rfl)))
set_option maxRecDepth 100000 in
theorem ck_207_0 : mk_207_0.all (okE 11 prog_5_method_6_code) = true := all_okGb (k := 0) (by decide +kernel)
set_option maxRecDepth 100000 in
theorem ck_207_1 : mk_207_1.all (okE 11 prog_5_method_6_code) = true := all_okGb (k := 32) (by decide +kernel)
set_option maxRecDepth 100000 in
theorem ck_207 : mk_207.all (fun l => l.all (okE 11 prog_5_method_6_code)) = true := all_c ck_207_0 (all_c ck_207_1 (rfl))
set_option maxRecDepth 100000 in
theorem ck_208_0 : mk_208_0.all (okE 0 prog_1_method_51_code) = true := all_okGb (k := 0) (by decide +kernel)
set_option maxRecDepth 100000 in
theorem ck_208 : mk_208.all (fun l => l.all (okE 0 prog_1_method_51_code)) = true := all_c ck_208_0 (rfl)
set_option maxRecDepth 100000 in
theorem ck_209_0 : mk_209_0.all (okE 2 prog_2_method_34_code) = true := all_okGb (k := 0) (by decide +kernel)
set_option maxRecDepth 100000 in
theorem ck_209_1 : mk_209_1.all (okE 2 prog_2_method_34_code) = true := all_okGb (k := 32) (by decide +kernel)
set_option maxRecDepth 100000 in
theorem ck_209 : mk_209.all (fun l => l.all (okE 2 prog_2_method_34_code)) = true := all_c ck_209_0 (all_c ck_209_1 (rfl))
set_option maxRecDepth 100000 in
theorem ck_210_0 : mk_210_0.all (okE 2 prog_2_method_37_code) = true := all_okGb (k := 0) (by decide +kernel)
set_option maxRecDepth 100000 in
theorem ck_210_1 : mk_210_1.all (okE 2 prog_2_method_37_code) = true := all_okGb (k := 32) (by decide +kernel)
set_option maxRecDepth 100000 in
theorem ck_210_2 : mk_210_2.all (okE 2 prog_2_method_37_code) = true := all_okGb (k := 64) (by decide +kernel)
set_option maxRecDepth 100000 in
theorem ck_210_3 : mk_210_3.all (okE 2 prog_2_method_37_code) = true := all_okGb (k := 96) (by decide +kernel)
set_option maxRecDepth 100000 in
theorem ck_210_4 : mk_210_4.all (okE 2 prog_2_method_37_code) = true := all_okGb (k := 128) (by decide +kernel)
set_option maxRecDepth 100000 in
theorem ck_210 : mk_210.all (fun l => l.all (okE 2 prog_2_method_37_code)) = true := all_c ck_210_0 (all_c ck_210_1 (all_c ck_210_2 (all_c ck_210_3 (all_c ck_210_4 (rfl)))))
set_option maxRecDepth 100000 in
theorem ck_211_0 : mk_211_0.all (okE 2 prog_2_method_38_code) = true := by decide +kernel
set_option maxRecDepth 100000 in
theorem ck_211_1 : mk_211_1.all (okE 2 prog_2_method_38_code) = true := all_okGb (k := 32) (by decide +kernel)
set_option maxRecDepth 100000 in
theorem ck_211_2 : mk_211_2.all (okE 2 prog_2_method_38_code) = true := all_okGb (k := 64) (by decide +kernel)
set_option maxRecDepth 100000 in
theorem ck_211_3 : mk_211_3.all (okE 2 prog_2_method_38_code) = true := all_okGb (k := 96) (by decide +kernel)
set_option maxRecDepth 100000 in
theorem ck_211_4 : mk_211_4.all (okE 2 prog_2_method_38_code) = true := all_okGb (k := 128) (by decide +kernel)
set_option maxRecDepth 100000 in
theorem ck_211 : mk_211.all (fun l => l.all (okE 2 prog_2_method_38_code)) = true := all_c ck_211_0 (all_c ck_211_1 (all_c ck_211_2 (all_c ck_211_3 (all_c ck_211_4 (rfl)))))
set_option maxRecDepth 100000 in
theorem ck_212_0 : mk_212_0.all (okE 2 prog_2_method_36_code) = true := all_okGb (k := 0) (by decide +kernel)
set_option maxRecDepth 100000 in
theorem ck_212 : mk_212.all (fun l => l.all (okE 2 prog_2_method_36_code)) = true := all_c ck_212_0 (rfl)
set_option maxRecDepth 100000 in
theorem ck_213_0 : mk_213_0.all (okE 2 prog_2_method_39_code) = true := by decide +kernel
set_option maxRecDepth 100000 in
theorem ck_213_1 : mk_213_1.all (okE 2 prog_2_method_39_code) = true := all_okGb (k := 32) (by decide +kernel)
set_option maxRecDepth 100000 in
theorem ck_213_2 : mk_213_2.all (okE 2 prog_2_method_39_code) = true := all_okGb (k := 64) (by decide +kernel)
set_option maxRecDepth 100000 in
theorem ck_213_3 : mk_213_3.all (okE 2 prog_2_method_39_code) = true := all_okGb (k := 96) (by decide +kernel)
set_option maxRecDepth 100000 in
theorem ck_213_4 : mk_213_4.all (okE 2 prog_2_method_39_code) = true := all_okGb (k := 128) (by decide +kernel)
set_option maxRecDepth 100000 in
theorem ck_213_5 : mk_213_5.all (okE 2 prog_2_method_39_code) = true := all_okGb (k := 160) (by decide +kernel)
set_option maxRecDepth 100000 in
theorem ck_213 : mk_213.all (fun l => l.all (okE 2 prog_2_method_39_code)) = true := all_c ck_213_0 (all_c ck_213_1 (all_c ck_213_2 (all_c ck_213_3 (all_c ck_213_4 (all_c ck_213_5 (rfl))))))
set_option maxRecDepth 100000 in
theorem ck_214_0 : mk_214_0.all (okE 2 prog_2_method_40_code) = true := all_okGb (k := 0) (by decide +kernel)
set_option maxRecDepth 100000 in
theorem ck_214_1 : mk_214_1.all (okE 2 prog_2_method_40_code) = true := all_okGb (k := 32) (by decide +kernel)
set_option maxRecDepth 100000 in
theorem ck_214 : mk_214.all (fun l => l.all (okE 2 prog_2_method_40_code)) = true := all_c ck_214_0 (all_c ck_214_1 (rfl))
set_option maxRecDepth 100000 in
theorem ck_215_0 : mk_215_0.all (okE 0 prog_1_method_52_code) = true := all_okGb (k := 0) (by decide +kernel)
set_option maxRecDepth 100000 in
theorem ck_215 : mk_215.all (fun l => l.all (okE 0 prog_1_method_52_code)) = true := all_c ck_215_0 (rfl)
set_option maxRecDepth 100000 in
theorem ck_216_0 : mk_216_0.all (okE 2 prog_2_method_35_code) = true := all_okGb (k := 0) (by decide +kernel)
set_option maxRecDepth 100000 in
theorem ck_216 : mk_216.all (fun l => l.all (okE 2 prog_2_method_35_code)) = true := all_c ck_216_0 (rfl)
set_option maxRecDepth 100000 in
theorem ck_217_0 : mk_217_0.all (okE 0 prog_1_method_53_code) = true := all_okGb (k := 0) (by decide +kernel)
set_option maxRecDepth 100000 in
theorem ck_217_1 : mk_217_1.all (okE 0 prog_1_method_53_code) = true := all_okGb (k := 32) (by decide +kernel)
set_option maxRecDepth 100000 in
theorem ck_217 : mk_217.all (fun l => l.all (okE 0 prog_1_method_53_code)) = true := all_c ck_217_0 (all_c ck_217_1 (rfl))
set_option maxRecDepth 100000 in
theorem ck_218_0 : mk_218_0.all (okE 3 prog_9_method_3_code) = true := all_okGb (k := 0) (by decide +kernel)
set_option maxRecDepth 100000 in
theorem ck_218 : mk_218.all (fun l => l.all (okE 3 prog_9_method_3_code)) = true := all_c ck_218_0 (rfl)
set_option maxRecDepth 100000 in
theorem ck_219_0 : mk_219_0.all (okE 0 prog_1_method_54_code) = true := all_okGb (k := 0) (by decide +kernel)
set_option maxRecDepth 100000 in
theorem ck_219 : mk_219.all (fun l => l.all (okE 0 prog_1_method_54_code)) = true := all_c ck_219_0 (rfl)
set_option maxRecDepth 100000 in
theorem ck_220_0 : mk_220_0.all (okE 3 prog_9_method_4_code) = true := all_okGb (k := 0) (by decide +kernel)
set_option maxRecDepth 100000 in
theorem ck_220_1 : mk_220_1.all (okE 3 prog_9_method_4_code) = true := all_okGb (k := 32) (by decide +kernel)
set_option maxRecDepth 100000 in
theorem ck_220_2 : mk_220_2.all (okE 3 prog_9_method_4_code) = true := all_okGb (k := 64) (by decide +kernel)
set_option maxRecDepth 100000 in
theorem ck_220 : mk_220.all (fun l => l.all (okE 3 prog_9_method_4_code)) = true := all_c ck_220_0 (all_c ck_220_1 (all_c ck_220_2 (rfl)))
set_option maxRecDepth 100000 in
theorem ck_221_0 : mk_221_0.all (okE 0 prog_1_method_55_code) = true := all_okGb (k := 0) (by decide +kernel)
set_option maxRecDepth 100000 in
theorem ck_221 : mk_221.all (fun l => l.all (okE 0 prog_1_method_55_code)) = true := all_c ck_221_0 (rfl)
set_option maxRecDepth 100000 in
theorem ck_222_0 : mk_222_0.all (okE 3 prog_9_method_9_code) = true := all_okGb (k := 0) (by decide +kernel)
set_option maxRecDepth 100000 in
theorem ck_222 : mk_222.all (fun l => l.all (okE 3 prog_9_method_9_code)) = true := all_c ck_222_0 (rfl)
set_option maxRecDepth 100000 in
theorem ck_223_0 : mk_223_0.all (okE 3 prog_9_method_10_code) = true := by decide +kernel
set_option maxRecDepth 100000 in
theorem ck_223_1 : mk_223_1.all (okE 3 prog_9_method_10_code) = true := all_okGb (k := 32) (by decide +kernel)
set_option maxRecDepth 100000 in
theorem ck_223 : mk_223.all (fun l => l.all (okE 3 prog_9_method_10_code)) = true := all_c ck_223_0 (all_c ck_223_1 (rfl))
set_option maxRecDepth 100000 in
theorem ck_224_0 : mk_224_0.all (okE 0 prog_1_method_56_code) = true := all_okGb (k := 0) (by decide +kernel)
set_option maxRecDepth 100000 in
theorem ck_224 : mk_224.all (fun l => l.all (okE 0 prog_1_method_56_code)) = true := all_c ck_224_0 (rfl)
set_option maxRecDepth 100000 in
theorem ck_225_0 : mk_225_0.all (okE 0 prog_1_method_57_code) = true := all_okGb (k := 0) (by decide +kernel)
set_option maxRecDepth 100000 in
theorem ck_225 : mk_225.all (fun l => l.all (okE 0 prog_1_method_57_code)) = true := all_c ck_225_0 (rfl)
set_option maxRecDepth 100000 in
theorem ck_226_0 : mk_226_0.all (okE 3 prog_9_method_11_code) = true := all_okGb (k := 0) (by decide +kernel)
set_option maxRecDepth 100000 in
theorem ck_226_1 : mk_226_1.all (okE 3 prog_9_method_11_code) = true := all_okGb (k := 32) (by decide +kernel)
set_option maxRecDepth 100000 in
theorem ck_226_2 : mk_226_2.all (okE 3 prog_9_method_11_code) = true := all_okGb (k := 64) (by decide +kernel)
set_option maxRecDepth 100000 in
theorem ck_226_3 : mk_226_3.all (okE 3 prog_9_method_11_code) = true := all_okGb (k := 96) (by decide +kernel)
set_option maxRecDepth 100000 in
theorem ck_226_4 : mk_226_4.all (okE 3 prog_9_method_11_code) = true := all_okGb (k := 128) (by decide +kernel)
set_option maxRecDepth 100000 in
theorem ck_226 : mk_226.all (fun l => l.all (okE 3 prog_9_method_11_code)) = true := all_c ck_226_0 (all_c ck_226_1 (all_c ck_226_2 (all_c ck_226_3 (all_c ck_226_4 (rfl)))))
set_option maxRecDepth 100000 in
theorem ck_227_0 : mk_227_0.all (okE 0 prog_1_method_58_code) = true := all_okGb (k := 0) (by decide +kernel)
set_option maxRecDepth 100000 in
theorem ck_227_1 : mk_227_1.all (okE 0 prog_1_method_58_code) = true := all_okGb (k := 32) (by decide +kernel)
set_option maxRecDepth 100000 in
theorem ck_227_2 : mk_227_2.all (okE 0 prog_1_method_58_code) = true := all_okGb (k := 64) (by decide +kernel)
set_option maxRecDepth 100000 in
theorem ck_227 : mk_227.all (fun l => l.all (okE 0 prog_1_method_58_code)) = true := all_c ck_227_0 (all_c ck_227_1 (all_c ck_227_2 (rfl)))
set_option maxRecDepth 100000 in
theorem ck_228_0 : mk_228_0.all (okE 0 prog_1_method_59_code) = true := all_okGb (k := 0) (by decide +kernel)
set_option maxRecDepth 100000 in
theorem ck_228_1 : mk_228_1.all (okE 0 prog_1_method_59_code) = true := all_okGb (k := 32) (by decide +kernel)
set_option maxRecDepth 100000 in
theorem ck_228 : mk_228.all (fun l => l.all (okE 0 prog_1_method_59_code)) = true := all_c ck_228_0 (all_c ck_228_1 (rfl))
set_option maxRecDepth 100000 in
theorem ck_229_0 : mk_229_0.all (okE 2 prog_2_method_20_code) = true := all_okGb (k := 0) (by decide +kernel)
set_option maxRecDepth 100000 in
theorem ck_229_1 : mk_229_1.all (okE 2 prog_2_method_20_code) = true := all_okGb (k := 32) (by decide +kernel)
set_option maxRecDepth 100000 in
theorem ck_229 : mk_229.all (fun l => l.all (okE 2 prog_2_method_20_code)) = true := all_c ck_229_0 (all_c ck_229_1 (rfl))
set_option maxRecDepth 100000 in
theorem ck_230_0 : mk_230_0.all (okE 7 prog_4_method_21_code) = true := all_okGb (k := 0) (by decide +kernel)
set_option maxRecDepth 100000 in
theorem ck_230_1 : mk_230_1.all (okE 7 prog_4_method_21_code) = true := all_okGb (k := 32) (by decide +kernel)
set_option maxRecDepth 100000 in
theorem ck_230 : mk_230.all (fun l => l.all (okE 7 prog_4_method_21_code)) = true := all_c ck_230_0 (all_c ck_230_1 (rfl))
set_option maxRecDepth 100000 in
theorem ck_231_0 : mk_231_0.all (okE 2 prog_2_method_22_code) = true := all_okGb (k := 0) (by decide +kernel)
set_option maxRecDepth 100000 in
theorem ck_231_1 : mk_231_1.all (okE 2 prog_2_method_22_code) = true := all_okGb (k := 32) (by decide +kernel)
set_option maxRecDepth 100000 in
theorem ck_231 : mk_231.all (fun l => l.all (okE 2 prog_2_method_22_code)) = true := all_c ck_231_0 (all_c ck_231_1 (rfl))
set_option maxRecDepth 100000 in
theorem ck_232_0 : mk_232_0.all (okE 0 prog_1_method_60_code) = true := by decide +kernel
set_option maxRecDepth 100000 in
theorem ck_232_1 : mk_232_1.all (okE 0 prog_1_method_60_code) = true := all_okGb (k := 32) (by decide +kernel)
set_option maxRecDepth 100000 in
theorem ck_232_2 : mk_232_2.all (okE 0 prog_1_method_60_code) = true := all_okGb (k := 64) (by decide +kernel)
set_option maxRecDepth 100000 in
theorem ck_232_3 : mk_232_3.all (okE 0 prog_1_method_60_code) = true := all_okGb (k := 96) (by decide +kernel)
set_option maxRecDepth 100000 in
theorem ck_232_4 : mk_232_4.all (okE 0 prog_1_method_60_code) = true := all_okGb (k := 128) (by decide +kernel)
set_option maxRecDepth 100000 in
theorem ck_232_5 : mk_232_5.all (okE 0 prog_1_method_60_code) = true := all_okGb (k := 160) (by decide +kernel)
set_option maxRecDepth 100000 in
theorem ck_232 : mk_232.all (fun l => l.all (okE 0 prog_1_method_60_code)) = true := all_c ck_232_0 (all_c ck_232_1 (all_c ck_232_2 (all_c ck_232_3 (all_c ck_232_4 (all_c ck_232_5 (rfl))))))
set_option maxRecDepth 100000 in
theorem ck_233_0 : mk_233_0.all (okE 2 prog_2_method_16_code) = true := all_okGb (k := 0) (by decide +kernel)
set_option maxRecDepth 100000 in
theorem ck_233_1 : mk_233_1.all (okE 2 prog_2_method_16_code) = true := all_okGb (k := 32) (by decide +kernel)
set_option maxRecDepth 100000 in
theorem ck_233 : mk_233.all (fun l => l.all (okE 2 prog_2_method_16_code)) = true := all_c ck_233_0 (all_c ck_233_1 (rfl))
set_option maxRecDepth 100000 in
theorem ck_234_0 : mk_234_0.all (okE 12 prog_14_method_1_code) = true := by decide +kernel
set_option maxRecDepth 100000 in
theorem ck_234_1 : mk_234_1.all (okE 12 prog_14_method_1_code) = true := by decide +kernel
set_option maxRecDepth 100000 in
theorem ck_234_2 : mk_234_2.all (okE 12 prog_14_method_1_code) = true := by decide +kernel
set_option maxRecDepth 100000 in
theorem ck_234_3 : mk_234_3.all (okE 12 prog_14_method_1_code) = true := by decide +kernel
set_option maxRecDepth 100000 in
theorem ck_234_4 : mk_234_4.all (okE 12 prog_14_method_1_code) = true := by decide +kernel
set_option maxRecDepth 100000 in
theorem ck_234_5 : mk_234_5.all (okE 12 prog_14_method_1_code) = true := by decide +kernel
set_option maxRecDepth 100000 in
theorem ck_234_6 : mk_234_6.all (okE 12 prog_14_method_1_code) = true := by decide +kernel
set_option maxRecDepth 100000 in
theorem ck_234_7 : mk_234_7.all (okE 12 prog_14_method_1_code) = true := by decide +kernel
set_option maxRecDepth 100000 in
theorem ck_234_8 : mk_234_8.all (okE 12 prog_14_method_1_code) = true := by decide +kernel
set_option maxRecDepth 100000 in
theorem ck_234_9 : mk_234_9.all (okE 12 prog_14_method_1_code) = true := by decide +kernel
set_option maxRecDepth 100000 in
theorem ck_234_10 : mk_234_10.all (okE 12 prog_14_method_1_code) = true := by decide +kernel
set_option maxRecDepth 100000 in
theorem ck_234_11 : mk_234_11.all (okE 12 prog_14_method_1_code) = true := by decide +kernel
set_option maxRecDepth 100000 in
theorem ck_234_12 : mk_234_12.all (okE 12 prog_14_method_1_code) = true := by decide +kernel
set_option maxRecDepth 100000 in
theorem ck_234_13 : mk_234_13.all (okE 12 prog_14_method_1_code) = true := by decide +kernel
set_option maxRecDepth 100000 in
theorem ck_234_14 : mk_234_14.all (okE 12 prog_14_method_1_code) = true := by decide +kernel
set_option maxRecDepth 100000 in
theorem ck_234_15 : mk_234_15.all (okE 12 prog_14_method_1_code) = true := by decide +kernel
set_option maxRecDepth 100000 in
theorem ck_234_16 : mk_234_16.all (okE 12 prog_14_method_1_code) = true := by decide +kernel
set_option maxRecDepth 100000 in
theorem ck_234_17 : mk_234_17.all (okE 12 prog_14_method_1_code) = true := by decide +kernel
set_option maxRecDepth 100000 in
theorem ck_234_18 : mk_234_18.all (okE 12 prog_14_method_1_code) = true := by decide +kernel
set_option maxRecDepth 100000 in
theorem ck_234_19 : mk_234_19.all (okE 12 prog_14_method_1_code) = true := by decide +kernel
set_option maxRecDepth 100000 in
theorem ck_234_20 : mk_234_20.all (okE 12 prog_14_method_1_code) = true := by decide +kernel
set_option maxRecDepth 100000 in
theorem ck_234_21 : mk_234_21.all (okE 12 prog_14_method_1_code) = true := by decide +kernel
set_option maxRecDepth 100000 in
theorem ck_234 : mk_234.all (fun l => l.all (okE 12 prog_14_method_1_code)) = true := all_c ck_234_0 (all_c ck_234_1 (all_c ck_234_2 (all_c ck_234_3 (all_c ck_234_4 (all_c ck_234_5 (all_c ck_234_6 (all_c ck_234_7 (all_c ck_234_8 (all_c ck_234_9 (all_c ck_234_10 (all_c ck_234_11 (all_c ck_234_12 (all_c ck_234_13 (all_c ck_234_14 (all_c ck_234_15 (all_c ck_234_16 (all_c ck_234_17 (all_c ck_234_18 (all_c ck_234_19 (all_c ck_234_20 (all_c ck_234_21 (rfl))))))))))))))))))))))
