/-! the code tables hold, by the kernel -/
set_option maxRecDepth 100000 in
theorem ck_121_0 : mk_121_0.all (okE 6 prog_8_method_7_code) = true := by decide +kernel
set_option maxRecDepth 100000 in
theorem ck_121_1 : mk_121_1.all (okE 6 prog_8_method_7_code) = true := by decide +kernel
set_option maxRecDepth 100000 in
theorem ck_121_2 : mk_121_2.all (okE 6 prog_8_method_7_code) = true := by decide +kernel
set_option maxRecDepth 100000 in
theorem ck_121_3 : mk_121_3.all (okE 6 prog_8_method_7_code) = true := by decide +kernel
set_option maxRecDepth 100000 in
theorem ck_121 : mk_121.all (fun l => l.all (okE 6 prog_8_method_7_code)) = true := all_c ck_121_0 (all_c ck_121_1 (all_c ck_121_2 (all_c ck_121_3 (rfl))))
set_option maxRecDepth 100000 in
theorem ck_122_0 : mk_122_0.all (okE 6 prog_8_method_2_code) = true := by decide +kernel
set_option maxRecDepth 100000 in
theorem ck_122 : mk_122.all (fun l => l.all (okE 6 prog_8_method_2_code)) = true := all_c ck_122_0 (rfl)
set_option maxRecDepth 100000 in
theorem ck_123_0 : mk_123_0.all (okE 6 prog_8_method_8_code) = true := by decide +kernel
set_option maxRecDepth 100000 in
theorem ck_123_1 : mk_123_1.all (okE 6 prog_8_method_8_code) = true := by decide +kernel
set_option maxRecDepth 100000 in
theorem ck_123_2 : mk_123_2.all (okE 6 prog_8_method_8_code) = true := by decide +kernel
set_option maxRecDepth 100000 in
theorem ck_123_3 : mk_123_3.all (okE 6 prog_8_method_8_code) = true := by decide +kernel
set_option maxRecDepth 100000 in
theorem ck_123_4 : mk_123_4.all (okE 6 prog_8_method_8_code) = true := by decide +kernel
set_option maxRecDepth 100000 in
theorem ck_123 : mk_123.all (fun l => l.all (okE 6 prog_8_method_8_code)) = true := all_c ck_123_0 (all_c ck_123_1 (all_c ck_123_2 (all_c ck_123_3 (all_c ck_123_4 (rfl)))))
set_option maxRecDepth 100000 in
theorem ck_124_0 : mk_124_0.all (okE 6 prog_8_method_11_code) = true := by decide +kernel
set_option maxRecDepth 100000 in
theorem ck_124 : mk_124.all (fun l => l.all (okE 6 prog_8_method_11_code)) = true := all_c ck_124_0 (rfl)
set_option maxRecDepth 100000 in
theorem ck_125_0 : mk_125_0.all (okE 6 prog_8_method_12_code) = true := by decide +kernel
set_option maxRecDepth 100000 in
theorem ck_125 : mk_125.all (fun l => l.all (okE 6 prog_8_method_12_code)) = true := all_c ck_125_0 (rfl)
set_option maxRecDepth 100000 in
theorem ck_126_0 : mk_126_0.all (okE 6 prog_8_method_10_code) = true := by decide +kernel
set_option maxRecDepth 100000 in
theorem ck_126_1 : mk_126_1.all (okE 6 prog_8_method_10_code) = true := by decide +kernel
set_option maxRecDepth 100000 in
theorem ck_126_2 : mk_126_2.all (okE 6 prog_8_method_10_code) = true := by decide +kernel
set_option maxRecDepth 100000 in
theorem ck_126_3 : mk_126_3.all (okE 6 prog_8_method_10_code) = true := by decide +kernel
set_option maxRecDepth 100000 in
theorem ck_126_4 : mk_126_4.all (okE 6 prog_8_method_10_code) = true := by decide +kernel
set_option maxRecDepth 100000 in
theorem ck_126 : mk_126.all (fun l => l.all (okE 6 prog_8_method_10_code)) = true := all_c ck_126_0 (all_c ck_126_1 (all_c ck_126_2 (all_c ck_126_3 (all_c ck_126_4 (rfl)))))
set_option maxRecDepth 100000 in
theorem ck_127_0 : mk_127_0.all (okE 6 prog_8_method_9_code) = true := by decide +kernel
set_option maxRecDepth 100000 in
theorem ck_127_1 : mk_127_1.all (okE 6 prog_8_method_9_code) = true := by decide +kernel
set_option maxRecDepth 100000 in
theorem ck_127_2 : mk_127_2.all (okE 6 prog_8_method_9_code) = true := by decide +kernel
set_option maxRecDepth 100000 in
theorem ck_127_3 : mk_127_3.all (okE 6 prog_8_method_9_code) = true := by decide +kernel
set_option maxRecDepth 100000 in
theorem ck_127_4 : mk_127_4.all (okE 6 prog_8_method_9_code) = true := by decide +kernel
set_option maxRecDepth 100000 in
theorem ck_127 : mk_127.all (fun l => l.all (okE 6 prog_8_method_9_code)) = true := all_c ck_127_0 (all_c ck_127_1 (all_c ck_127_2 (all_c ck_127_3 (all_c ck_127_4 (rfl)))))
set_option maxRecDepth 100000 in
theorem ck_128_0 : mk_128_0.all (okE 1 prog_6_method_3_code) = true := by decide +kernel
set_option maxRecDepth 100000 in
theorem ck_128 : mk_128.all (fun l => l.all (okE 1 prog_6_method_3_code)) = true := all_c ck_128_0 (rfl)
set_option maxRecDepth 100000 in
theorem ck_129_0 : mk_129_0.all (okE 2 prog_2_method_33_code) = true := by decide +kernel
set_option maxRecDepth 100000 in
theorem ck_129_1 : mk_129_1.all (okE 2 prog_2_method_33_code) = true := by decide +kernel
set_option maxRecDepth 100000 in
theorem ck_129 : mk_129.all (fun l => l.all (okE 2 prog_2_method_33_code)) = true := all_c ck_129_0 (all_c ck_129_1 (rfl))
set_option maxRecDepth 100000 in
theorem ck_130_0 : mk_130_0.all (okE 6 prog_8_method_14_code) = true := by decide +kernel
set_option maxRecDepth 100000 in
theorem ck_130_1 : mk_130_1.all (okE 6 prog_8_method_14_code) = true := by decide +kernel
set_option maxRecDepth 100000 in
theorem ck_130_2 : mk_130_2.all (okE 6 prog_8_method_14_code) = true := by decide +kernel
set_option maxRecDepth 100000 in
theorem ck_130 : mk_130.all (fun l => l.all (okE 6 prog_8_method_14_code)) = true := all_c ck_130_0 (all_c ck_130_1 (all_c ck_130_2 (rfl)))
set_option maxRecDepth 100000 in
theorem ck_131_0 : mk_131_0.all (okE 6 prog_8_method_13_code) = true := by decide +kernel
set_option maxRecDepth 100000 in
theorem ck_131_1 : mk_131_1.all (okE 6 prog_8_method_13_code) = true := by decide +kernel
set_option maxRecDepth 100000 in
theorem ck_131 : mk_131.all (fun l => l.all (okE 6 prog_8_method_13_code)) = true := all_c ck_131_0 (all_c ck_131_1 (rfl))
set_option maxRecDepth 100000 in
theorem ck_132_0 : mk_132_0.all (okE 0 prog_1_method_28_code) = true := by decide +kernel
set_option maxRecDepth 100000 in
theorem ck_132 : mk_132.all (fun l => l.all (okE 0 prog_1_method_28_code)) = true := all_c ck_132_0 (rfl)
set_option maxRecDepth 100000 in
theorem ck_133_0 : mk_133_0.all (okE 6 prog_8_method_15_code) = true := by decide +kernel
set_option maxRecDepth 100000 in
theorem ck_133_1 : mk_133_1.all (okE 6 prog_8_method_15_code) = true := by decide +kernel
set_option maxRecDepth 100000 in
theorem ck_133_2 : mk_133_2.all (okE 6 prog_8_method_15_code) = true := by decide +kernel
set_option maxRecDepth 100000 in
theorem ck_133_3 : mk_133_3.all (okE 6 prog_8_method_15_code) = true := by decide +kernel
set_option maxRecDepth 100000 in
theorem ck_133_4 : mk_133_4.all (okE 6 prog_8_method_15_code) = true := by decide +kernel
set_option maxRecDepth 100000 in
theorem ck_133 : mk_133.all (fun l => l.all (okE 6 prog_8_method_15_code)) = true := all_c ck_133_0 (all_c ck_133_1 (all_c ck_133_2 (all_c ck_133_3 (all_c ck_133_4 (rfl)))))
set_option maxRecDepth 100000 in
theorem ck_134_0 : mk_134_0.all (okE 0 prog_1_method_29_code) = true := by decide +kernel
set_option maxRecDepth 100000 in
theorem ck_134 : mk_134.all (fun l => l.all (okE 0 prog_1_method_29_code)) = true := all_c ck_134_0 (rfl)
set_option maxRecDepth 100000 in
theorem ck_135_0 : mk_135_0.all (okE 2 prog_2_method_27_code) = true := by decide +kernel
set_option maxRecDepth 100000 in
theorem ck_135_1 : mk_135_1.all (okE 2 prog_2_method_27_code) = true := by decide +kernel
set_option maxRecDepth 100000 in
theorem ck_135_2 : mk_135_2.all (okE 2 prog_2_method_27_code) = true := by decide +kernel
set_option maxRecDepth 100000 in
theorem ck_135_3 : mk_135_3.all (okE 2 prog_2_method_27_code) = true := by decide +kernel
set_option maxRecDepth 100000 in
theorem ck_135_4 : mk_135_4.all (okE 2 prog_2_method_27_code) = true := by decide +kernel
set_option maxRecDepth 100000 in
theorem ck_135 : mk_135.all (fun l => l.all (okE 2 prog_2_method_27_code)) = true := all_c ck_135_0 (all_c ck_135_1 (all_c ck_135_2 (all_c ck_135_3 (all_c ck_135_4 (rfl)))))
set_option maxRecDepth 100000 in
theorem ck_136_0 : mk_136_0.all (okE 1 prog_6_method_12_code) = true := by decide +kernel
set_option maxRecDepth 100000 in
theorem ck_136 : mk_136.all (fun l => l.all (okE 1 prog_6_method_12_code)) = true := all_c ck_136_0 (rfl)
set_option maxRecDepth 100000 in
theorem ck_137_0 : mk_137_0.all (okE 1 prog_6_method_13_code) = true := by decide +kernel
set_option maxRecDepth 100000 in
theorem ck_137_1 : mk_137_1.all (okE 1 prog_6_method_13_code) = true := by decide +kernel
set_option maxRecDepth 100000 in
theorem ck_137 : mk_137.all (fun l => l.all (okE 1 prog_6_method_13_code)) = true := all_c ck_137_0 (all_c ck_137_1 (rfl))
set_option maxRecDepth 100000 in
theorem ck_138_0 : mk_138_0.all (okE 2 prog_2_method_24_code) = true := by decide +kernel
set_option maxRecDepth 100000 in
theorem ck_138_1 : mk_138_1.all (okE 2 prog_2_method_24_code) = true := by decide +kernel
set_option maxRecDepth 100000 in
theorem ck_138_2 : mk_138_2.all (okE 2 prog_2_method_24_code) = true := by decide +kernel
set_option maxRecDepth 100000 in
theorem ck_138_3 : mk_138_3.all (okE 2 prog_2_method_24_code) = true := by decide +kernel
set_option maxRecDepth 100000 in
theorem ck_138_4 : mk_138_4.all (okE 2 prog_2_method_24_code) = true := by decide +kernel
set_option maxRecDepth 100000 in
theorem ck_138 : mk_138.all (fun l => l.all (okE 2 prog_2_method_24_code)) = true := all_c ck_138_0 (all_c ck_138_1 (all_c ck_138_2 (all_c ck_138_3 (all_c ck_138_4 (rfl)))))
set_option maxRecDepth 100000 in
theorem ck_139_0 : mk_139_0.all (okE 1 prog_6_method_14_code) = true := by decide +kernel
set_option maxRecDepth 100000 in
theorem ck_139 : mk_139.all (fun l => l.all (okE 1 prog_6_method_14_code)) = true := all_c ck_139_0 (rfl)
set_option maxRecDepth 100000 in
theorem ck_140_0 : mk_140_0.all (okE 0 prog_1_method_30_code) = true := by decide +kernel
set_option maxRecDepth 100000 in
theorem ck_140 : mk_140.all (fun l => l.all (okE 0 prog_1_method_30_code)) = true := all_c ck_140_0 (rfl)
set_option maxRecDepth 100000 in
theorem ck_141_0 : mk_141_0.all (okE 7 prog_4_method_5_code) = true := by decide +kernel
set_option maxRecDepth 100000 in
theorem ck_141_1 : mk_141_1.all (okE 7 prog_4_method_5_code) = true := by decide +kernel
set_option maxRecDepth 100000 in
theorem ck_141_2 : mk_141_2.all (okE 7 prog_4_method_5_code) = true := by decide +kernel
set_option maxRecDepth 100000 in
theorem ck_141_3 : mk_141_3.all (okE 7 prog_4_method_5_code) = true := by decide +kernel
set_option maxRecDepth 100000 in
theorem ck_141 : mk_141.all (fun l => l.all (okE 7 prog_4_method_5_code)) = true := all_c ck_141_0 (all_c ck_141_1 (all_c ck_141_2 (all_c ck_141_3 (rfl))))
set_option maxRecDepth 100000 in
theorem ck_142_0 : mk_142_0.all (okE 0 prog_1_method_31_code) = true := by decide +kernel
set_option maxRecDepth 100000 in
theorem ck_142 : mk_142.all (fun l => l.all (okE 0 prog_1_method_31_code)) = true := all_c ck_142_0 (rfl)
set_option maxRecDepth 100000 in
theorem ck_143_0 : mk_143_0.all (okE 7 prog_4_method_6_code) = true := by decide +kernel
set_option maxRecDepth 100000 in
theorem ck_143_1 : mk_143_1.all (okE 7 prog_4_method_6_code) = true := by decide +kernel
set_option maxRecDepth 100000 in
theorem ck_143 : mk_143.all (fun l => l.all (okE 7 prog_4_method_6_code)) = true := all_c ck_143_0 (all_c ck_143_1 (rfl))
set_option maxRecDepth 100000 in
theorem ck_144_0 : mk_144_0.all (okE 0 prog_1_method_32_code) = true := by decide +kernel
set_option maxRecDepth 100000 in
theorem ck_144_1 : mk_144_1.all (okE 0 prog_1_method_32_code) = true := by decide +kernel
set_option maxRecDepth 100000 in
theorem ck_144 : mk_144.all (fun l => l.all (okE 0 prog_1_method_32_code)) = true := all_c ck_144_0 (all_c ck_144_1 (rfl))
set_option maxRecDepth 100000 in
theorem ck_145_0 : mk_145_0.all (okE 7 prog_4_method_9_code) = true := by decide +kernel
set_option maxRecDepth 100000 in
theorem ck_145_1 : mk_145_1.all (okE 7 prog_4_method_9_code) = true := by decide +kernel
set_option maxRecDepth 100000 in
theorem ck_145_2 : mk_145_2.all (okE 7 prog_4_method_9_code) = true := by decide +kernel
set_option maxRecDepth 100000 in
theorem ck_145_3 : mk_145_3.all (okE 7 prog_4_method_9_code) = true := by decide +kernel
set_option maxRecDepth 100000 in
theorem ck_145 : mk_145.all (fun l => l.all (okE 7 prog_4_method_9_code)) = true := all_c ck_145_0 (all_c ck_145_1 (all_c ck_145_2 (all_c ck_145_3 (rfl))))
set_option maxRecDepth 100000 in
theorem ck_146_0 : mk_146_0.all (okE 7 prog_4_method_10_code) = true := by decide +kernel
set_option maxRecDepth 100000 in
theorem ck_146_1 : mk_146_1.all (okE 7 prog_4_method_10_code) = true := by decide +kernel
set_option maxRecDepth 100000 in
theorem ck_146_2 : mk_146_2.all (okE 7 prog_4_method_10_code) = true := by decide +kernel
set_option maxRecDepth 100000 in
theorem ck_146_3 : mk_146_3.all (okE 7 prog_4_method_10_code) = true := by decide +kernel
set_option maxRecDepth 100000 in
theorem ck_146 : mk_146.all (fun l => l.all (okE 7 prog_4_method_10_code)) = true := all_c ck_146_0 (all_c ck_146_1 (all_c ck_146_2 (all_c ck_146_3 (rfl))))
set_option maxRecDepth 100000 in
theorem ck_147_0 : mk_147_0.all (okE 7 prog_4_method_8_code) = true := by decide +kernel
set_option maxRecDepth 100000 in
theorem ck_147 : mk_147.all (fun l => l.all (okE 7 prog_4_method_8_code)) = true := all_c ck_147_0 (rfl)
set_option maxRecDepth 100000 in
theorem ck_148_0 : mk_148_0.all (okE 7 prog_4_method_7_code) = true := by decide +kernel
set_option maxRecDepth 100000 in
theorem ck_148 : mk_148.all (fun l => l.all (okE 7 prog_4_method_7_code)) = true := all_c ck_148_0 (rfl)
set_option maxRecDepth 100000 in
theorem ck_149_0 : mk_149_0.all (okE 0 prog_1_method_33_code) = true := by decide +kernel
set_option maxRecDepth 100000 in
theorem ck_149_1 : mk_149_1.all (okE 0 prog_1_method_33_code) = true := by decide +kernel
set_option maxRecDepth 100000 in
theorem ck_149 : mk_149.all (fun l => l.all (okE 0 prog_1_method_33_code)) = true := all_c ck_149_0 (all_c ck_149_1 (rfl))
set_option maxRecDepth 100000 in
theorem ck_150_0 : mk_150_0.all (okE 7 prog_4_method_11_code) = true := by decide +kernel
set_option maxRecDepth 100000 in
theorem ck_150_1 : mk_150_1.all (okE 7 prog_4_method_11_code) = true := by decide +kernel
set_option maxRecDepth 100000 in
theorem ck_150_2 : mk_150_2.all (okE 7 prog_4_method_11_code) = true := by decide +kernel
set_option maxRecDepth 100000 in
theorem ck_150_3 : mk_150_3.all (okE 7 prog_4_method_11_code) = true := by decide +kernel
set_option maxRecDepth 100000 in
theorem ck_150_4 : mk_150_4.all (okE 7 prog_4_method_11_code) = true := by decide +kernel
set_option maxRecDepth 100000 in
theorem ck_150 : mk_150.all (fun l => l.all (okE 7 prog_4_method_11_code)) = true := all_c ck_150_0 (all_c ck_150_1 (all_c ck_150_2 (all_c ck_150_3 (all_c ck_150_4 (rfl)))))
set_option maxRecDepth 100000 in
theorem ck_151_0 : mk_151_0.all (okE 2 prog_2_method_23_code) = true := by decide +kernel
set_option maxRecDepth 100000 in
theorem ck_151_1 : mk_151_1.all (okE 2 prog_2_method_23_code) = true := by decide +kernel
set_option maxRecDepth 100000 in
theorem ck_151_2 : mk_151_2.all (okE 2 prog_2_method_23_code) = true := by decide +kernel
set_option maxRecDepth 100000 in
theorem ck_151 : mk_151.all (fun l => l.all (okE 2 prog_2_method_23_code)) = true := all_c ck_151_0 (all_c ck_151_1 (all_c ck_151_2 (rfl)))
set_option maxRecDepth 100000 in
theorem ck_152_0 : mk_152_0.all (okE 2 prog_2_method_21_code) = true := by decide +kernel
set_option maxRecDepth 100000 in
theorem ck_152_1 : mk_152_1.all (okE 2 prog_2_method_21_code) = true := by decide +kernel
set_option maxRecDepth 100000 in
theorem ck_152_2 : mk_152_2.all (okE 2 prog_2_method_21_code) = true := by decide +kernel
set_option maxRecDepth 100000 in
theorem ck_152 : mk_152.all (fun l => l.all (okE 2 prog_2_method_21_code)) = true := all_c ck_152_0 (all_c ck_152_1 (all_c ck_152_2 (rfl)))
set_option maxRecDepth 100000 in
theorem ck_153_0 : mk_153_0.all (okE 7 prog_4_method_12_code) = true := by decide +kernel
set_option maxRecDepth 100000 in
theorem ck_153_1 : mk_153_1.all (okE 7 prog_4_method_12_code) = true := by decide +kernel
set_option maxRecDepth 100000 in
theorem ck_153_2 : mk_153_2.all (okE 7 prog_4_method_12_code) = true := by decide +kernel
set_option maxRecDepth 100000 in
theorem ck_153 : mk_153.all (fun l => l.all (okE 7 prog_4_method_12_code)) = true := all_c ck_153_0 (all_c ck_153_1 (all_c ck_153_2 (rfl)))
set_option maxRecDepth 100000 in
theorem ck_154_0 : mk_154_0.all (okE 0 prog_1_method_34_code) = true := by decide +kernel
set_option maxRecDepth 100000 in
theorem ck_154_1 : mk_154_1.all (okE 0 prog_1_method_34_code) = true := by decide +kernel
set_option maxRecDepth 100000 in
theorem ck_154 : mk_154.all (fun l => l.all (okE 0 prog_1_method_34_code)) = true := all_c ck_154_0 (all_c ck_154_1 (rfl))
set_option maxRecDepth 100000 in
theorem ck_155_0 : mk_155_0.all (okE 7 prog_4_method_13_code) = true := by decide +kernel
set_option maxRecDepth 100000 in
theorem ck_155 : mk_155.all (fun l => l.all (okE 7 prog_4_method_13_code)) = true := all_c ck_155_0 (rfl)
set_option maxRecDepth 100000 in
theorem ck_156_0 : mk_156_0.all (okE 2 prog_2_method_28_code) = true := by decide +kernel
set_option maxRecDepth 100000 in
theorem ck_156_1 : mk_156_1.all (okE 2 prog_2_method_28_code) = true := by decide +kernel
set_option maxRecDepth 100000 in
theorem ck_156 : mk_156.all (fun l => l.all (okE 2 prog_2_method_28_code)) = true := all_c ck_156_0 (all_c ck_156_1 (rfl))
set_option maxRecDepth 100000 in
theorem ck_157_0 : mk_157_0.all (okE 0 prog_1_method_35_code) = true := by decide +kernel
set_option maxRecDepth 100000 in
theorem ck_157 : mk_157.all (fun l => l.all (okE 0 prog_1_method_35_code)) = true := all_c ck_157_0 (rfl)
set_option maxRecDepth 100000 in
theorem ck_158_0 : mk_158_0.all (okE 7 prog_4_method_14_code) = true := by decide +kernel
set_option maxRecDepth 100000 in
theorem ck_158_1 : mk_158_1.all (okE 7 prog_4_method_14_code) = true := by decide +kernel
set_option maxRecDepth 100000 in
theorem ck_158_2 : mk_158_2.all (okE 7 prog_4_method_14_code) = true := by decide +kernel
set_option maxRecDepth 100000 in
theorem ck_158 : mk_158.all (fun l => l.all (okE 7 prog_4_method_14_code)) = true := all_c ck_158_0 (all_c ck_158_1 (all_c ck_158_2 (rfl)))
set_option maxRecDepth 100000 in
theorem ck_159_0 : mk_159_0.all (okE 0 prog_1_method_36_code) = true := by decide +kernel
set_option maxRecDepth 100000 in
theorem ck_159 : mk_159.all (fun l => l.all (okE 0 prog_1_method_36_code)) = true := all_c ck_159_0 (rfl)
set_option maxRecDepth 100000 in
theorem ck_160_0 : mk_160_0.all (okE 7 prog_4_method_15_code) = true := by decide +kernel
set_option maxRecDepth 100000 in
theorem ck_160_1 : mk_160_1.all (okE 7 prog_4_method_15_code) = true := by decide +kernel
set_option maxRecDepth 100000 in
theorem ck_160_2 : mk_160_2.all (okE 7 prog_4_method_15_code) = true := by decide +kernel
set_option maxRecDepth 100000 in
theorem ck_160 : mk_160.all (fun l => l.all (okE 7 prog_4_method_15_code)) = true := all_c ck_160_0 (all_c ck_160_1 (all_c ck_160_2 (rfl)))
set_option maxRecDepth 100000 in
theorem ck_161_0 : mk_161_0.all (okE 0 prog_1_method_37_code) = true := by decide +kernel
set_option maxRecDepth 100000 in
theorem ck_161 : mk_161.all (fun l => l.all (okE 0 prog_1_method_37_code)) = true := all_c ck_161_0 (rfl)
set_option maxRecDepth 100000 in
theorem ck_162_0 : mk_162_0.all (okE 7 prog_4_method_20_code) = true := by decide +kernel
set_option maxRecDepth 100000 in
theorem ck_162_1 : mk_162_1.all (okE 7 prog_4_method_20_code) = true := by decide +kernel
set_option maxRecDepth 100000 in
theorem ck_162_2 : mk_162_2.all (okE 7 prog_4_method_20_code) = true := by decide +kernel
set_option maxRecDepth 100000 in
theorem ck_162_3 : mk_162_3.all (okE 7 prog_4_method_20_code) = true := by decide +kernel
set_option maxRecDepth 100000 in
theorem ck_162 : mk_162.all (fun l => l.all (okE 7 prog_4_method_20_code)) = true := all_c ck_162_0 (all_c ck_162_1 (all_c ck_162_2 (all_c ck_162_3 (rfl))))
set_option maxRecDepth 100000 in
theorem ck_163_0 : mk_163_0.all (okE 0 prog_1_method_38_code) = true := by decide +kernel
set_option maxRecDepth 100000 in
theorem ck_163 : mk_163.all (fun l => l.all (okE 0 prog_1_method_38_code)) = true := all_c ck_163_0 (rfl)
set_option maxRecDepth 100000 in
theorem ck_164_0 : mk_164_0.all (okE 8 prog_7_method_3_code) = true := by decide +kernel
set_option maxRecDepth 100000 in
theorem ck_164_1 : mk_164_1.all (okE 8 prog_7_method_3_code) = true := by decide +kernel
set_option maxRecDepth 100000 in
theorem ck_164_2 : mk_164_2.all (okE 8 prog_7_method_3_code) = true := by decide +kernel
set_option maxRecDepth 100000 in
theorem ck_164 : mk_164.all (fun l => l.all (okE 8 prog_7_method_3_code)) = true := all_c ck_164_0 (all_c ck_164_1 (all_c ck_164_2 (rfl)))
set_option maxRecDepth 100000 in
theorem ck_165_0 : mk_165_0.all (okE 8 prog_7_method_2_code) = true := by decide +kernel
set_option maxRecDepth 100000 in
theorem ck_165 : mk_165.all (fun l => l.all (okE 8 prog_7_method_2_code)) = true := all_c ck_165_0 (rfl)
set_option maxRecDepth 100000 in
theorem ck_166_0 : mk_166_0.all (okE 0 prog_1_method_39_code) = true := by decide +kernel
set_option maxRecDepth 100000 in
theorem ck_166 : mk_166.all (fun l => l.all (okE 0 prog_1_method_39_code)) = true := all_c ck_166_0 (rfl)
set_option maxRecDepth 100000 in
theorem ck_167_0 : mk_167_0.all (okE 8 prog_7_method_4_code) = true := by decide +kernel
set_option maxRecDepth 100000 in
theorem ck_167_1 : mk_167_1.all (okE 8 prog_7_method_4_code) = true := by decide +kernel
set_option maxRecDepth 100000 in
theorem ck_167_2 : mk_167_2.all (okE 8 prog_7_method_4_code) = true := by decide +kernel
set_option maxRecDepth 100000 in
theorem ck_167 : mk_167.all (fun l => l.all (okE 8 prog_7_method_4_code)) = true := all_c ck_167_0 (all_c ck_167_1 (all_c ck_167_2 (rfl)))
set_option maxRecDepth 100000 in
theorem ck_168_0 : mk_168_0.all (okE 0 prog_1_method_40_code) = true := by decide +kernel
set_option maxRecDepth 100000 in
theorem ck_168 : mk_168.all (fun l => l.all (okE 0 prog_1_method_40_code)) = true := all_c ck_168_0 (rfl)
set_option maxRecDepth 100000 in
theorem ck_169_0 : mk_169_0.all (okE 8 prog_7_method_5_code) = true := by decide +kernel
set_option maxRecDepth 100000 in
theorem ck_169_1 : mk_169_1.all (okE 8 prog_7_method_5_code) = true := by decide +kernel
set_option maxRecDepth 100000 in
theorem ck_169_2 : mk_169_2.all (okE 8 prog_7_method_5_code) = true := by decide +kernel
set_option maxRecDepth 100000 in
theorem ck_169_3 : mk_169_3.all (okE 8 prog_7_method_5_code) = true := by decide +kernel
set_option maxRecDepth 100000 in
theorem ck_169 : mk_169.all (fun l => l.all (okE 8 prog_7_method_5_code)) = true := all_c ck_169_0 (all_c ck_169_1 (all_c ck_169_2 (all_c ck_169_3 (rfl))))
set_option maxRecDepth 100000 in
theorem ck_170_0 : mk_170_0.all (okE 8 prog_7_method_6_code) = true := by decide +kernel
set_option maxRecDepth 100000 in
theorem ck_170_1 : mk_170_1.all (okE 8 prog_7_method_6_code) = true := by decide +kernel
set_option maxRecDepth 100000 in
theorem ck_170_2 : mk_170_2.all (okE 8 prog_7_method_6_code) = true := by decide +kernel
set_option maxRecDepth 100000 in
theorem ck_170_3 : mk_170_3.all (okE 8 prog_7_method_6_code) = true := by decide +kernel
set_option maxRecDepth 100000 in
theorem ck_170 : mk_170.all (fun l => l.all (okE 8 prog_7_method_6_code)) = true := all_c ck_170_0 (all_c ck_170_1 (all_c ck_170_2 (all_c ck_170_3 (rfl))))
set_option maxRecDepth 100000 in
theorem ck_171_0 : mk_171_0.all (okE 8 prog_7_method_7_code) = true := by decide +kernel
set_option maxRecDepth 100000 in
theorem ck_171_1 : mk_171_1.all (okE 8 prog_7_method_7_code) = true := by decide +kernel
set_option maxRecDepth 100000 in
theorem ck_171_2 : mk_171_2.all (okE 8 prog_7_method_7_code) = true := by decide +kernel
set_option maxRecDepth 100000 in
theorem ck_171 : mk_171.all (fun l => l.all (okE 8 prog_7_method_7_code)) = true := all_c ck_171_0 (all_c ck_171_1 (all_c ck_171_2 (rfl)))
set_option maxRecDepth 100000 in
theorem ck_172_0 : mk_172_0.all (okE 8 prog_7_method_8_code) = true := by decide +kernel
set_option maxRecDepth 100000 in
theorem ck_172_1 : mk_172_1.all (okE 8 prog_7_method_8_code) = true := by decide +kernel
set_option maxRecDepth 100000 in
theorem ck_172_2 : mk_172_2.all (okE 8 prog_7_method_8_code) = true := by decide +kernel
set_option maxRecDepth 100000 in
theorem ck_172_3 : mk_172_3.all (okE 8 prog_7_method_8_code) = true := by decide +kernel
set_option maxRecDepth 100000 in
theorem ck_172_4 : mk_172_4.all (okE 8 prog_7_method_8_code) = true := by decide +kernel
set_option maxRecDepth 100000 in
theorem ck_172_5 : mk_172_5.all (okE 8 prog_7_method_8_code) = true := by decide +kernel
set_option maxRecDepth 100000 in
theorem ck_172 : mk_172.all (fun l => l.all (okE 8 prog_7_method_8_code)) = true := all_c ck_172_0 (all_c ck_172_1 (all_c ck_172_2 (all_c ck_172_3 (all_c ck_172_4 (all_c ck_172_5 (rfl))))))
set_option maxRecDepth 100000 in
theorem ck_173_0 : mk_173_0.all (okE 14 prog_16_method_70_code) = true := by decide +kernel
set_option maxRecDepth 100000 in
theorem ck_173 : mk_173.all (fun l => l.all (okE 14 prog_16_method_70_code)) = true := all_c ck_173_0 (rfl)
