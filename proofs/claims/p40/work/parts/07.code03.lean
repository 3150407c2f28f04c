/-! the code tables hold, by the kernel -/
set_option maxRecDepth 100000 in
theorem ck_174_0 : mk_174_0.all (okE 14 prog_16_method_66_code) = true := by decide +kernel
set_option maxRecDepth 100000 in
theorem ck_174 : mk_174.all (fun l => l.all (okE 14 prog_16_method_66_code)) = true := all_c ck_174_0 (rfl)
set_option maxRecDepth 100000 in
theorem ck_175_0 : mk_175_0.all (okE 0 prog_1_method_41_code) = true := by decide +kernel
set_option maxRecDepth 100000 in
theorem ck_175 : mk_175.all (fun l => l.all (okE 0 prog_1_method_41_code)) = true := all_c ck_175_0 (rfl)
set_option maxRecDepth 100000 in
theorem ck_176_0 : mk_176_0.all (okE 8 prog_7_method_9_code) = true := by decide +kernel
set_option maxRecDepth 100000 in
theorem ck_176_1 : mk_176_1.all (okE 8 prog_7_method_9_code) = true := by decide +kernel
set_option maxRecDepth 100000 in
theorem ck_176 : mk_176.all (fun l => l.all (okE 8 prog_7_method_9_code)) = true := all_c ck_176_0 (all_c ck_176_1 (rfl))
set_option maxRecDepth 100000 in
theorem ck_177_0 : mk_177_0.all (okE 0 prog_1_method_42_code) = true := by decide +kernel
set_option maxRecDepth 100000 in
theorem ck_177 : mk_177.all (fun l => l.all (okE 0 prog_1_method_42_code)) = true := all_c ck_177_0 (rfl)
set_option maxRecDepth 100000 in
theorem ck_178_0 : mk_178_0.all (okE 9 prog_12_method_2_code) = true := by decide +kernel
set_option maxRecDepth 100000 in
theorem ck_178_1 : mk_178_1.all (okE 9 prog_12_method_2_code) = true := by decide +kernel
set_option maxRecDepth 100000 in
theorem ck_178_2 : mk_178_2.all (okE 9 prog_12_method_2_code) = true := by decide +kernel
set_option maxRecDepth 100000 in
theorem ck_178 : mk_178.all (fun l => l.all (okE 9 prog_12_method_2_code)) = true := all_c ck_178_0 (all_c ck_178_1 (all_c ck_178_2 (rfl)))
set_option maxRecDepth 100000 in
theorem ck_179_0 : mk_179_0.all (okE 9 prog_12_method_4_code) = true := by decide +kernel
set_option maxRecDepth 100000 in
theorem ck_179_1 : mk_179_1.all (okE 9 prog_12_method_4_code) = true := by decide +kernel
set_option maxRecDepth 100000 in
theorem ck_179 : mk_179.all (fun l => l.all (okE 9 prog_12_method_4_code)) = true := all_c ck_179_0 (all_c ck_179_1 (rfl))
set_option maxRecDepth 100000 in
theorem ck_180_0 : mk_180_0.all (okE 9 prog_12_method_3_code) = true := by decide +kernel
set_option maxRecDepth 100000 in
theorem ck_180 : mk_180.all (fun l => l.all (okE 9 prog_12_method_3_code)) = true := all_c ck_180_0 (rfl)
set_option maxRecDepth 100000 in
theorem ck_181_0 : mk_181_0.all (okE 9 prog_12_method_5_code) = true := by decide +kernel
set_option maxRecDepth 100000 in
theorem ck_181_1 : mk_181_1.all (okE 9 prog_12_method_5_code) = true := by decide +kernel
set_option maxRecDepth 100000 in
theorem ck_181 : mk_181.all (fun l => l.all (okE 9 prog_12_method_5_code)) = true := all_c ck_181_0 (all_c ck_181_1 (rfl))
set_option maxRecDepth 100000 in
theorem ck_182_0 : mk_182_0.all (okE 0 prog_1_method_43_code) = true := by decide +kernel
set_option maxRecDepth 100000 in
theorem ck_182 : mk_182.all (fun l => l.all (okE 0 prog_1_method_43_code)) = true := all_c ck_182_0 (rfl)
set_option maxRecDepth 100000 in
theorem ck_183_0 : mk_183_0.all (okE 9 prog_12_method_6_code) = true := by decide +kernel
set_option maxRecDepth 100000 in
theorem ck_183_1 : mk_183_1.all (okE 9 prog_12_method_6_code) = true := by decide +kernel
set_option maxRecDepth 100000 in
theorem ck_183_2 : mk_183_2.all (okE 9 prog_12_method_6_code) = true := by decide +kernel
set_option maxRecDepth 100000 in
theorem ck_183_3 : mk_183_3.all (okE 9 prog_12_method_6_code) = true := by decide +kernel
set_option maxRecDepth 100000 in
theorem ck_183_4 : mk_183_4.all (okE 9 prog_12_method_6_code) = true := by decide +kernel
set_option maxRecDepth 100000 in
theorem ck_183_5 : mk_183_5.all (okE 9 prog_12_method_6_code) = true := by decide +kernel
set_option maxRecDepth 100000 in
theorem ck_183 : mk_183.all (fun l => l.all (okE 9 prog_12_method_6_code)) = true := all_c ck_183_0 (all_c ck_183_1 (all_c ck_183_2 (all_c ck_183_3 (all_c ck_183_4 (all_c ck_183_5 (rfl))))))
set_option maxRecDepth 100000 in
theorem ck_184_0 : mk_184_0.all (okE 7 prog_4_method_4_code) = true := by decide +kernel
set_option maxRecDepth 100000 in
theorem ck_184 : mk_184.all (fun l => l.all (okE 7 prog_4_method_4_code)) = true := all_c ck_184_0 (rfl)
set_option maxRecDepth 100000 in
theorem ck_185_0 : mk_185_0.all (okE 7 prog_4_method_3_code) = true := by decide +kernel
set_option maxRecDepth 100000 in
theorem ck_185 : mk_185.all (fun l => l.all (okE 7 prog_4_method_3_code)) = true := all_c ck_185_0 (rfl)
set_option maxRecDepth 100000 in
theorem ck_186_0 : mk_186_0.all (okE 9 prog_12_method_8_code) = true := by decide +kernel
set_option maxRecDepth 100000 in
theorem ck_186_1 : mk_186_1.all (okE 9 prog_12_method_8_code) = true := by decide +kernel
set_option maxRecDepth 100000 in
theorem ck_186_2 : mk_186_2.all (okE 9 prog_12_method_8_code) = true := by decide +kernel
set_option maxRecDepth 100000 in
theorem ck_186_3 : mk_186_3.all (okE 9 prog_12_method_8_code) = true := by decide +kernel
set_option maxRecDepth 100000 in
theorem ck_186_4 : mk_186_4.all (okE 9 prog_12_method_8_code) = true := by decide +kernel
set_option maxRecDepth 100000 in
theorem ck_186_5 : mk_186_5.all (okE 9 prog_12_method_8_code) = true := by decide +kernel
set_option maxRecDepth 100000 in
theorem ck_186_6 : mk_186_6.all (okE 9 prog_12_method_8_code) = true := by decide +kernel
set_option maxRecDepth 100000 in
theorem ck_186_7 : mk_186_7.all (okE 9 prog_12_method_8_code) = true := by decide +kernel
set_option maxRecDepth 100000 in
theorem ck_186 : mk_186.all (fun l => l.all (okE 9 prog_12_method_8_code)) = true := all_c ck_186_0 (all_c ck_186_1 (all_c ck_186_2 (all_c ck_186_3 (all_c ck_186_4 (all_c ck_186_5 (all_c ck_186_6 (all_c ck_186_7 (rfl))))))))
set_option maxRecDepth 100000 in
theorem ck_187_0 : mk_187_0.all (okE 9 prog_12_method_7_code) = true := by decide +kernel
set_option maxRecDepth 100000 in
theorem ck_187_1 : mk_187_1.all (okE 9 prog_12_method_7_code) = true := by decide +kernel
set_option maxRecDepth 100000 in
theorem ck_187 : mk_187.all (fun l => l.all (okE 9 prog_12_method_7_code)) = true := all_c ck_187_0 (all_c ck_187_1 (rfl))
set_option maxRecDepth 100000 in
theorem ck_188_0 : mk_188_0.all (okE 0 prog_1_method_44_code) = true := by decide +kernel
set_option maxRecDepth 100000 in
theorem ck_188 : mk_188.all (fun l => l.all (okE 0 prog_1_method_44_code)) = true := all_c ck_188_0 (rfl)
set_option maxRecDepth 100000 in
theorem ck_189_0 : mk_189_0.all (okE 9 prog_12_method_9_code) = true := by decide +kernel
set_option maxRecDepth 100000 in
theorem ck_189 : mk_189.all (fun l => l.all (okE 9 prog_12_method_9_code)) = true := all_c ck_189_0 (rfl)
set_option maxRecDepth 100000 in
theorem ck_190_0 : mk_190_0.all (okE 0 prog_1_method_45_code) = true := by decide +kernel
set_option maxRecDepth 100000 in
theorem ck_190 : mk_190.all (fun l => l.all (okE 0 prog_1_method_45_code)) = true := all_c ck_190_0 (rfl)
set_option maxRecDepth 100000 in
theorem ck_191_0 : mk_191_0.all (okE 10 prog_10_method_2_code) = true := by decide +kernel
set_option maxRecDepth 100000 in
theorem ck_191_1 : mk_191_1.all (okE 10 prog_10_method_2_code) = true := by decide +kernel
set_option maxRecDepth 100000 in
theorem ck_191_2 : mk_191_2.all (okE 10 prog_10_method_2_code) = true := by decide +kernel
set_option maxRecDepth 100000 in
theorem ck_191_3 : mk_191_3.all (okE 10 prog_10_method_2_code) = true := by decide +kernel
set_option maxRecDepth 100000 in
theorem ck_191_4 : mk_191_4.all (okE 10 prog_10_method_2_code) = true := by decide +kernel
set_option maxRecDepth 100000 in
theorem ck_191_5 : mk_191_5.all (okE 10 prog_10_method_2_code) = true := by decide +kernel
set_option maxRecDepth 100000 in
theorem ck_191 : mk_191.all (fun l => l.all (okE 10 prog_10_method_2_code)) = true := all_c ck_191_0 (all_c ck_191_1 (all_c ck_191_2 (all_c ck_191_3 (all_c ck_191_4 (all_c ck_191_5 (rfl))))))
set_option maxRecDepth 100000 in
theorem ck_192_0 : mk_192_0.all (okE 0 prog_1_method_46_code) = true := by decide +kernel
set_option maxRecDepth 100000 in
theorem ck_192 : mk_192.all (fun l => l.all (okE 0 prog_1_method_46_code)) = true := all_c ck_192_0 (rfl)
set_option maxRecDepth 100000 in
theorem ck_193_0 : mk_193_0.all (okE 10 prog_10_method_3_code) = true := by decide +kernel
set_option maxRecDepth 100000 in
theorem ck_193_1 : mk_193_1.all (okE 10 prog_10_method_3_code) = true := by decide +kernel
set_option maxRecDepth 100000 in
theorem ck_193_2 : mk_193_2.all (okE 10 prog_10_method_3_code) = true := by decide +kernel
set_option maxRecDepth 100000 in
theorem ck_193_3 : mk_193_3.all (okE 10 prog_10_method_3_code) = true := by decide +kernel
set_option maxRecDepth 100000 in
theorem ck_193_4 : mk_193_4.all (okE 10 prog_10_method_3_code) = true := by decide +kernel
set_option maxRecDepth 100000 in
theorem ck_193 : mk_193.all (fun l => l.all (okE 10 prog_10_method_3_code)) = true := all_c ck_193_0 (all_c ck_193_1 (all_c ck_193_2 (all_c ck_193_3 (all_c ck_193_4 (rfl)))))
set_option maxRecDepth 100000 in
theorem ck_194_0 : mk_194_0.all (okE 10 prog_10_method_4_code) = true := by decide +kernel
set_option maxRecDepth 100000 in
theorem ck_194_1 : mk_194_1.all (okE 10 prog_10_method_4_code) = true := by decide +kernel
set_option maxRecDepth 100000 in
theorem ck_194 : mk_194.all (fun l => l.all (okE 10 prog_10_method_4_code)) = true := all_c ck_194_0 (all_c ck_194_1 (rfl))
set_option maxRecDepth 100000 in
theorem ck_195_0 : mk_195_0.all (okE 10 prog_10_method_5_code) = true := by decide +kernel
set_option maxRecDepth 100000 in
theorem ck_195 : mk_195.all (fun l => l.all (okE 10 prog_10_method_5_code)) = true := all_c ck_195_0 (rfl)
set_option maxRecDepth 100000 in
theorem ck_196_0 : mk_196_0.all (okE 10 prog_10_method_6_code) = true := by decide +kernel
set_option maxRecDepth 100000 in
theorem ck_196 : mk_196.all (fun l => l.all (okE 10 prog_10_method_6_code)) = true := all_c ck_196_0 (rfl)
set_option maxRecDepth 100000 in
theorem ck_197_0 : mk_197_0.all (okE 10 prog_10_method_7_code) = true := by decide +kernel
set_option maxRecDepth 100000 in
theorem ck_197_1 : mk_197_1.all (okE 10 prog_10_method_7_code) = true := by decide +kernel
set_option maxRecDepth 100000 in
theorem ck_197_2 : mk_197_2.all (okE 10 prog_10_method_7_code) = true := by decide +kernel
set_option maxRecDepth 100000 in
theorem ck_197_3 : mk_197_3.all (okE 10 prog_10_method_7_code) = true := by decide +kernel
set_option maxRecDepth 100000 in
theorem ck_197 : mk_197.all (fun l => l.all (okE 10 prog_10_method_7_code)) = true := all_c ck_197_0 (all_c ck_197_1 (all_c ck_197_2 (all_c ck_197_3 (rfl))))
set_option maxRecDepth 100000 in
theorem ck_198_0 : mk_198_0.all (okE 0 prog_1_method_47_code) = true := by decide +kernel
set_option maxRecDepth 100000 in
theorem ck_198 : mk_198.all (fun l => l.all (okE 0 prog_1_method_47_code)) = true := all_c ck_198_0 (rfl)
set_option maxRecDepth 100000 in
theorem ck_199_0 : mk_199_0.all (okE 10 prog_10_method_8_code) = true := by decide +kernel
set_option maxRecDepth 100000 in
theorem ck_199 : mk_199.all (fun l => l.all (okE 10 prog_10_method_8_code)) = true := all_c ck_199_0 (rfl)
set_option maxRecDepth 100000 in
theorem ck_200_0 : mk_200_0.all (okE 0 prog_1_method_48_code) = true := by decide +kernel
set_option maxRecDepth 100000 in
theorem ck_200 : mk_200.all (fun l => l.all (okE 0 prog_1_method_48_code)) = true := all_c ck_200_0 (rfl)
set_option maxRecDepth 100000 in
theorem ck_201_0 : mk_201_0.all (okE 11 prog_5_method_2_code) = true := by decide +kernel
set_option maxRecDepth 100000 in
theorem ck_201_1 : mk_201_1.all (okE 11 prog_5_method_2_code) = true := by decide +kernel
set_option maxRecDepth 100000 in
theorem ck_201 : mk_201.all (fun l => l.all (okE 11 prog_5_method_2_code)) = true := all_c ck_201_0 (all_c ck_201_1 (rfl))
set_option maxRecDepth 100000 in
theorem ck_202_0 : mk_202_0.all (okE 0 prog_1_method_49_code) = true := by decide +kernel
set_option maxRecDepth 100000 in
theorem ck_202 : mk_202.all (fun l => l.all (okE 0 prog_1_method_49_code)) = true := all_c ck_202_0 (rfl)
set_option maxRecDepth 100000 in
theorem ck_203_0 : mk_203_0.all (okE 11 prog_5_method_3_code) = true := by decide +kernel
set_option maxRecDepth 100000 in
theorem ck_203_1 : mk_203_1.all (okE 11 prog_5_method_3_code) = true := by decide +kernel
set_option maxRecDepth 100000 in
theorem ck_203 : mk_203.all (fun l => l.all (okE 11 prog_5_method_3_code)) = true := all_c ck_203_0 (all_c ck_203_1 (rfl))
set_option maxRecDepth 100000 in
theorem ck_204_0 : mk_204_0.all (okE 0 prog_1_method_50_code) = true := by decide +kernel
set_option maxRecDepth 100000 in
theorem ck_204_1 : mk_204_1.all (okE 0 prog_1_method_50_code) = true := by decide +kernel
set_option maxRecDepth 100000 in
theorem ck_204 : mk_204.all (fun l => l.all (okE 0 prog_1_method_50_code)) = true := all_c ck_204_0 (all_c ck_204_1 (rfl))
set_option maxRecDepth 100000 in
theorem ck_205_0 : mk_205_0.all (okE 11 prog_5_method_4_code) = true := by decide +kernel
set_option maxRecDepth 100000 in
theorem ck_205_1 : mk_205_1.all (okE 11 prog_5_method_4_code) = true := by decide +kernel
set_option maxRecDepth 100000 in
theorem ck_205_2 : mk_205_2.all (okE 11 prog_5_method_4_code) = true := by decide +kernel
set_option maxRecDepth 100000 in
theorem ck_205_3 : mk_205_3.all (okE 11 prog_5_method_4_code) = true := by decide +kernel
set_option maxRecDepth 100000 in
theorem ck_205 : mk_205.all (fun l => l.all (okE 11 prog_5_method_4_code)) = true := all_c ck_205_0 (all_c ck_205_1 (all_c ck_205_2 (all_c ck_205_3 (rfl))))
set_option maxRecDepth 100000 in
theorem ck_206_0 : mk_206_0.all (okE 11 prog_5_method_5_code) = true := by decide +kernel
set_option maxRecDepth 100000 in
theorem ck_206_1 : mk_206_1.all (okE 11 prog_5_method_5_code) = true := by decide +kernel
set_option maxRecDepth 100000 in
theorem ck_206_2 : mk_206_2.all (okE 11 prog_5_method_5_code) = true := by decide +kernel
set_option maxRecDepth 100000 in
theorem ck_206 : mk_206.all (fun l => l.all (okE 11 prog_5_method_5_code)) = true := all_c ck_206_0 (all_c ck_206_1 (all_c ck_206_2 (rfl)))
set_option maxRecDepth 100000 in
theorem ck_207_0 : mk_207_0.all (okE 11 prog_5_method_6_code) = true := by decide +kernel
set_option maxRecDepth 100000 in
theorem ck_207_1 : mk_207_1.all (okE 11 prog_5_method_6_code) = true := by decide +kernel
set_option maxRecDepth 100000 in
theorem ck_207 : mk_207.all (fun l => l.all (okE 11 prog_5_method_6_code)) = true := all_c ck_207_0 (all_c ck_207_1 (rfl))
set_option maxRecDepth 100000 in
theorem ck_208_0 : mk_208_0.all (okE 0 prog_1_method_51_code) = true := by decide +kernel
set_option maxRecDepth 100000 in
theorem ck_208 : mk_208.all (fun l => l.all (okE 0 prog_1_method_51_code)) = true := all_c ck_208_0 (rfl)
set_option maxRecDepth 100000 in
theorem ck_209_0 : mk_209_0.all (okE 2 prog_2_method_34_code) = true := by decide +kernel
set_option maxRecDepth 100000 in
theorem ck_209_1 : mk_209_1.all (okE 2 prog_2_method_34_code) = true := by decide +kernel
set_option maxRecDepth 100000 in
theorem ck_209 : mk_209.all (fun l => l.all (okE 2 prog_2_method_34_code)) = true := all_c ck_209_0 (all_c ck_209_1 (rfl))
set_option maxRecDepth 100000 in
theorem ck_210_0 : mk_210_0.all (okE 2 prog_2_method_37_code) = true := by decide +kernel
set_option maxRecDepth 100000 in
theorem ck_210_1 : mk_210_1.all (okE 2 prog_2_method_37_code) = true := by decide +kernel
set_option maxRecDepth 100000 in
theorem ck_210_2 : mk_210_2.all (okE 2 prog_2_method_37_code) = true := by decide +kernel
set_option maxRecDepth 100000 in
theorem ck_210_3 : mk_210_3.all (okE 2 prog_2_method_37_code) = true := by decide +kernel
set_option maxRecDepth 100000 in
theorem ck_210_4 : mk_210_4.all (okE 2 prog_2_method_37_code) = true := by decide +kernel
set_option maxRecDepth 100000 in
theorem ck_210 : mk_210.all (fun l => l.all (okE 2 prog_2_method_37_code)) = true := all_c ck_210_0 (all_c ck_210_1 (all_c ck_210_2 (all_c ck_210_3 (all_c ck_210_4 (rfl)))))
set_option maxRecDepth 100000 in
theorem ck_211_0 : mk_211_0.all (okE 2 prog_2_method_38_code) = true := by decide +kernel
set_option maxRecDepth 100000 in
theorem ck_211_1 : mk_211_1.all (okE 2 prog_2_method_38_code) = true := by decide +kernel
set_option maxRecDepth 100000 in
theorem ck_211_2 : mk_211_2.all (okE 2 prog_2_method_38_code) = true := by decide +kernel
set_option maxRecDepth 100000 in
theorem ck_211_3 : mk_211_3.all (okE 2 prog_2_method_38_code) = true := by decide +kernel
set_option maxRecDepth 100000 in
theorem ck_211_4 : mk_211_4.all (okE 2 prog_2_method_38_code) = true := by decide +kernel
set_option maxRecDepth 100000 in
theorem ck_211 : mk_211.all (fun l => l.all (okE 2 prog_2_method_38_code)) = true := all_c ck_211_0 (all_c ck_211_1 (all_c ck_211_2 (all_c ck_211_3 (all_c ck_211_4 (rfl)))))
set_option maxRecDepth 100000 in
theorem ck_212_0 : mk_212_0.all (okE 2 prog_2_method_36_code) = true := by decide +kernel
set_option maxRecDepth 100000 in
theorem ck_212 : mk_212.all (fun l => l.all (okE 2 prog_2_method_36_code)) = true := all_c ck_212_0 (rfl)
set_option maxRecDepth 100000 in
theorem ck_213_0 : mk_213_0.all (okE 2 prog_2_method_39_code) = true := by decide +kernel
set_option maxRecDepth 100000 in
theorem ck_213_1 : mk_213_1.all (okE 2 prog_2_method_39_code) = true := by decide +kernel
set_option maxRecDepth 100000 in
theorem ck_213_2 : mk_213_2.all (okE 2 prog_2_method_39_code) = true := by decide +kernel
set_option maxRecDepth 100000 in
theorem ck_213_3 : mk_213_3.all (okE 2 prog_2_method_39_code) = true := by decide +kernel
set_option maxRecDepth 100000 in
theorem ck_213_4 : mk_213_4.all (okE 2 prog_2_method_39_code) = true := by decide +kernel
set_option maxRecDepth 100000 in
theorem ck_213_5 : mk_213_5.all (okE 2 prog_2_method_39_code) = true := by decide +kernel
set_option maxRecDepth 100000 in
theorem ck_213 : mk_213.all (fun l => l.all (okE 2 prog_2_method_39_code)) = true := all_c ck_213_0 (all_c ck_213_1 (all_c ck_213_2 (all_c ck_213_3 (all_c ck_213_4 (all_c ck_213_5 (rfl))))))
set_option maxRecDepth 100000 in
theorem ck_214_0 : mk_214_0.all (okE 2 prog_2_method_40_code) = true := by decide +kernel
set_option maxRecDepth 100000 in
theorem ck_214_1 : mk_214_1.all (okE 2 prog_2_method_40_code) = true := by decide +kernel
set_option maxRecDepth 100000 in
theorem ck_214 : mk_214.all (fun l => l.all (okE 2 prog_2_method_40_code)) = true := all_c ck_214_0 (all_c ck_214_1 (rfl))
set_option maxRecDepth 100000 in
theorem ck_215_0 : mk_215_0.all (okE 0 prog_1_method_52_code) = true := by decide +kernel
set_option maxRecDepth 100000 in
theorem ck_215 : mk_215.all (fun l => l.all (okE 0 prog_1_method_52_code)) = true := all_c ck_215_0 (rfl)
set_option maxRecDepth 100000 in
theorem ck_216_0 : mk_216_0.all (okE 2 prog_2_method_35_code) = true := by decide +kernel
set_option maxRecDepth 100000 in
theorem ck_216 : mk_216.all (fun l => l.all (okE 2 prog_2_method_35_code)) = true := all_c ck_216_0 (rfl)
set_option maxRecDepth 100000 in
theorem ck_217_0 : mk_217_0.all (okE 0 prog_1_method_53_code) = true := by decide +kernel
set_option maxRecDepth 100000 in
theorem ck_217_1 : mk_217_1.all (okE 0 prog_1_method_53_code) = true := by decide +kernel
set_option maxRecDepth 100000 in
theorem ck_217 : mk_217.all (fun l => l.all (okE 0 prog_1_method_53_code)) = true := all_c ck_217_0 (all_c ck_217_1 (rfl))
set_option maxRecDepth 100000 in
theorem ck_218_0 : mk_218_0.all (okE 3 prog_9_method_3_code) = true := by decide +kernel
set_option maxRecDepth 100000 in
theorem ck_218 : mk_218.all (fun l => l.all (okE 3 prog_9_method_3_code)) = true := all_c ck_218_0 (rfl)
set_option maxRecDepth 100000 in
theorem ck_219_0 : mk_219_0.all (okE 0 prog_1_method_54_code) = true := by decide +kernel
set_option maxRecDepth 100000 in
theorem ck_219 : mk_219.all (fun l => l.all (okE 0 prog_1_method_54_code)) = true := all_c ck_219_0 (rfl)
set_option maxRecDepth 100000 in
theorem ck_220_0 : mk_220_0.all (okE 3 prog_9_method_4_code) = true := by decide +kernel
set_option maxRecDepth 100000 in
theorem ck_220_1 : mk_220_1.all (okE 3 prog_9_method_4_code) = true := by decide +kernel
set_option maxRecDepth 100000 in
theorem ck_220_2 : mk_220_2.all (okE 3 prog_9_method_4_code) = true := by decide +kernel
set_option maxRecDepth 100000 in
theorem ck_220 : mk_220.all (fun l => l.all (okE 3 prog_9_method_4_code)) = true := all_c ck_220_0 (all_c ck_220_1 (all_c ck_220_2 (rfl)))
set_option maxRecDepth 100000 in
theorem ck_221_0 : mk_221_0.all (okE 0 prog_1_method_55_code) = true := by decide +kernel
set_option maxRecDepth 100000 in
theorem ck_221 : mk_221.all (fun l => l.all (okE 0 prog_1_method_55_code)) = true := all_c ck_221_0 (rfl)
set_option maxRecDepth 100000 in
theorem ck_222_0 : mk_222_0.all (okE 3 prog_9_method_9_code) = true := by decide +kernel
set_option maxRecDepth 100000 in
theorem ck_222 : mk_222.all (fun l => l.all (okE 3 prog_9_method_9_code)) = true := all_c ck_222_0 (rfl)
set_option maxRecDepth 100000 in
theorem ck_223_0 : mk_223_0.all (okE 3 prog_9_method_10_code) = true := by decide +kernel
set_option maxRecDepth 100000 in
theorem ck_223_1 : mk_223_1.all (okE 3 prog_9_method_10_code) = true := by decide +kernel
set_option maxRecDepth 100000 in
theorem ck_223 : mk_223.all (fun l => l.all (okE 3 prog_9_method_10_code)) = true := all_c ck_223_0 (all_c ck_223_1 (rfl))
set_option maxRecDepth 100000 in
theorem ck_224_0 : mk_224_0.all (okE 0 prog_1_method_56_code) = true := by decide +kernel
set_option maxRecDepth 100000 in
theorem ck_224 : mk_224.all (fun l => l.all (okE 0 prog_1_method_56_code)) = true := all_c ck_224_0 (rfl)
set_option maxRecDepth 100000 in
theorem ck_225_0 : mk_225_0.all (okE 0 prog_1_method_57_code) = true := by decide +kernel
set_option maxRecDepth 100000 in
theorem ck_225 : mk_225.all (fun l => l.all (okE 0 prog_1_method_57_code)) = true := all_c ck_225_0 (rfl)
set_option maxRecDepth 100000 in
theorem ck_226_0 : mk_226_0.all (okE 3 prog_9_method_11_code) = true := by decide +kernel
set_option maxRecDepth 100000 in
theorem ck_226_1 : mk_226_1.all (okE 3 prog_9_method_11_code) = true := by decide +kernel
set_option maxRecDepth 100000 in
theorem ck_226_2 : mk_226_2.all (okE 3 prog_9_method_11_code) = true := by decide +kernel
set_option maxRecDepth 100000 in
theorem ck_226_3 : mk_226_3.all (okE 3 prog_9_method_11_code) = true := by decide +kernel
set_option maxRecDepth 100000 in
theorem ck_226_4 : mk_226_4.all (okE 3 prog_9_method_11_code) = true := by decide +kernel
set_option maxRecDepth 100000 in
theorem ck_226 : mk_226.all (fun l => l.all (okE 3 prog_9_method_11_code)) = true := all_c ck_226_0 (all_c ck_226_1 (all_c ck_226_2 (all_c ck_226_3 (all_c ck_226_4 (rfl)))))
set_option maxRecDepth 100000 in
theorem ck_227_0 : mk_227_0.all (okE 0 prog_1_method_58_code) = true := by decide +kernel
set_option maxRecDepth 100000 in
theorem ck_227_1 : mk_227_1.all (okE 0 prog_1_method_58_code) = true := by decide +kernel
set_option maxRecDepth 100000 in
theorem ck_227_2 : mk_227_2.all (okE 0 prog_1_method_58_code) = true := by decide +kernel
set_option maxRecDepth 100000 in
theorem ck_227 : mk_227.all (fun l => l.all (okE 0 prog_1_method_58_code)) = true := all_c ck_227_0 (all_c ck_227_1 (all_c ck_227_2 (rfl)))
set_option maxRecDepth 100000 in
theorem ck_228_0 : mk_228_0.all (okE 0 prog_1_method_59_code) = true := by decide +kernel
set_option maxRecDepth 100000 in
theorem ck_228_1 : mk_228_1.all (okE 0 prog_1_method_59_code) = true := by decide +kernel
set_option maxRecDepth 100000 in
theorem ck_228 : mk_228.all (fun l => l.all (okE 0 prog_1_method_59_code)) = true := all_c ck_228_0 (all_c ck_228_1 (rfl))
set_option maxRecDepth 100000 in
theorem ck_229_0 : mk_229_0.all (okE 2 prog_2_method_20_code) = true := by decide +kernel
set_option maxRecDepth 100000 in
theorem ck_229_1 : mk_229_1.all (okE 2 prog_2_method_20_code) = true := by decide +kernel
set_option maxRecDepth 100000 in
theorem ck_229 : mk_229.all (fun l => l.all (okE 2 prog_2_method_20_code)) = true := all_c ck_229_0 (all_c ck_229_1 (rfl))
set_option maxRecDepth 100000 in
theorem ck_230_0 : mk_230_0.all (okE 7 prog_4_method_21_code) = true := by decide +kernel
set_option maxRecDepth 100000 in
theorem ck_230_1 : mk_230_1.all (okE 7 prog_4_method_21_code) = true := by decide +kernel
set_option maxRecDepth 100000 in
theorem ck_230 : mk_230.all (fun l => l.all (okE 7 prog_4_method_21_code)) = true := all_c ck_230_0 (all_c ck_230_1 (rfl))
set_option maxRecDepth 100000 in
theorem ck_231_0 : mk_231_0.all (okE 2 prog_2_method_22_code) = true := by decide +kernel
set_option maxRecDepth 100000 in
theorem ck_231_1 : mk_231_1.all (okE 2 prog_2_method_22_code) = true := by decide +kernel
set_option maxRecDepth 100000 in
theorem ck_231 : mk_231.all (fun l => l.all (okE 2 prog_2_method_22_code)) = true := all_c ck_231_0 (all_c ck_231_1 (rfl))
set_option maxRecDepth 100000 in
theorem ck_232_0 : mk_232_0.all (okE 0 prog_1_method_60_code) = true := by decide +kernel
set_option maxRecDepth 100000 in
theorem ck_232_1 : mk_232_1.all (okE 0 prog_1_method_60_code) = true := by decide +kernel
set_option maxRecDepth 100000 in
theorem ck_232_2 : mk_232_2.all (okE 0 prog_1_method_60_code) = true := by decide +kernel
set_option maxRecDepth 100000 in
theorem ck_232_3 : mk_232_3.all (okE 0 prog_1_method_60_code) = true := by decide +kernel
set_option maxRecDepth 100000 in
theorem ck_232_4 : mk_232_4.all (okE 0 prog_1_method_60_code) = true := by decide +kernel
set_option maxRecDepth 100000 in
theorem ck_232_5 : mk_232_5.all (okE 0 prog_1_method_60_code) = true := by decide +kernel
set_option maxRecDepth 100000 in
theorem ck_232 : mk_232.all (fun l => l.all (okE 0 prog_1_method_60_code)) = true := all_c ck_232_0 (all_c ck_232_1 (all_c ck_232_2 (all_c ck_232_3 (all_c ck_232_4 (all_c ck_232_5 (rfl))))))
set_option maxRecDepth 100000 in
theorem ck_233_0 : mk_233_0.all (okE 2 prog_2_method_16_code) = true := by decide +kernel
set_option maxRecDepth 100000 in
theorem ck_233_1 : mk_233_1.all (okE 2 prog_2_method_16_code) = true := by decide +kernel
set_option maxRecDepth 100000 in
theorem ck_233 : mk_233.all (fun l => l.all (okE 2 prog_2_method_16_code)) = true := all_c ck_233_0 (all_c ck_233_1 (rfl))
set_option maxRecDepth 100000 in
theorem ck_234_0 : mk_234_0.all (okE 12 prog_14_method_1_code) = true := by decide +kernel
set_option maxRecDepth 100000 in
theorem ck_234_1 : mk_234_1.all (okE 12 prog_14_method_1_code) = true := by decide +kernel
set_option maxRecDepth 100000 in
theorem ck_234_2 : mk_234_2.all (okE 12 prog_14_method_1_code) = true := by decide +kernel
set_option maxRecDepth 100000 in
theorem ck_234_3 : mk_234_3.all (okE 12 prog_14_method_1_code) = true := by decide +kernel
set_option maxRecDepth 100000 in
theorem ck_234_4 : mk_234_4.all (okE 12 prog_14_method_1_code) = true := by decide +kernel
set_option maxRecDepth 100000 in
theorem ck_234_5 : mk_234_5.all (okE 12 prog_14_method_1_code) = true := by decide +kernel
set_option maxRecDepth 100000 in
theorem ck_234_6 : mk_234_6.all (okE 12 prog_14_method_1_code) = true := by decide +kernel
set_option maxRecDepth 100000 in
theorem ck_234_7 : mk_234_7.all (okE 12 prog_14_method_1_code) = true := by decide +kernel
set_option maxRecDepth 100000 in
theorem ck_234_8 : mk_234_8.all (okE 12 prog_14_method_1_code) = true := by decide +kernel
set_option maxRecDepth 100000 in
theorem ck_234_9 : mk_234_9.all (okE 12 prog_14_method_1_code) = true := by decide +kernel
set_option maxRecDepth 100000 in
theorem ck_234_10 : mk_234_10.all (okE 12 prog_14_method_1_code) = true := by decide +kernel
set_option maxRecDepth 100000 in
theorem ck_234_11 : mk_234_11.all (okE 12 prog_14_method_1_code) = true := by decide +kernel
set_option maxRecDepth 100000 in
theorem ck_234_12 : mk_234_12.all (okE 12 prog_14_method_1_code) = true := by decide +kernel
set_option maxRecDepth 100000 in
theorem ck_234_13 : mk_234_13.all (okE 12 prog_14_method_1_code) = true := by decide +kernel
set_option maxRecDepth 100000 in
theorem ck_234_14 : mk_234_14.all (okE 12 prog_14_method_1_code) = true := by decide +kernel
set_option maxRecDepth 100000 in
theorem ck_234_15 : mk_234_15.all (okE 12 prog_14_method_1_code) = true := by decide +kernel
set_option maxRecDepth 100000 in
theorem ck_234_16 : mk_234_16.all (okE 12 prog_14_method_1_code) = true := by decide +kernel
set_option maxRecDepth 100000 in
theorem ck_234_17 : mk_234_17.all (okE 12 prog_14_method_1_code) = true := by decide +kernel
set_option maxRecDepth 100000 in
theorem ck_234_18 : mk_234_18.all (okE 12 prog_14_method_1_code) = true := by decide +kernel
set_option maxRecDepth 100000 in
theorem ck_234_19 : mk_234_19.all (okE 12 prog_14_method_1_code) = true := by decide +kernel
set_option maxRecDepth 100000 in
theorem ck_234_20 : mk_234_20.all (okE 12 prog_14_method_1_code) = true := by decide +kernel
set_option maxRecDepth 100000 in
theorem ck_234_21 : mk_234_21.all (okE 12 prog_14_method_1_code) = true := by decide +kernel
set_option maxRecDepth 100000 in
theorem ck_234 : mk_234.all (fun l => l.all (okE 12 prog_14_method_1_code)) = true := all_c ck_234_0 (all_c ck_234_1 (all_c ck_234_2 (all_c ck_234_3 (all_c ck_234_4 (all_c ck_234_5 (all_c ck_234_6 (all_c ck_234_7 (all_c ck_234_8 (all_c ck_234_9 (all_c ck_234_10 (all_c ck_234_11 (all_c ck_234_12 (all_c ck_234_13 (all_c ck_234_14 (all_c ck_234_15 (all_c ck_234_16 (all_c ck_234_17 (all_c ck_234_18 (all_c ck_234_19 (all_c ck_234_20 (all_c ck_234_21 (rfl))))))))))))))))))))))
