/-! a large certificate: cuts one by one (wip/gencert.py) -/
set_option maxRecDepth 1000000 in
theorem cq_215_146 : cy_215_146.all (cok stp_215 (csOf ct_215) 1 654) = true := by decide +kernel
set_option maxRecDepth 1000000 in
theorem cq_215_147 : cy_215_147.all (cok stp_215 (csOf ct_215) 1 654) = true := by decide +kernel
set_option maxRecDepth 1000000 in
theorem cq_215_148 : cy_215_148.all (cok stp_215 (csOf ct_215) 1 654) = true := by decide +kernel
set_option maxRecDepth 1000000 in
theorem cq_215_149 : cy_215_149.all (cok stp_215 (csOf ct_215) 1 654) = true := by decide +kernel
set_option maxRecDepth 1000000 in
theorem cq_215_150 : cy_215_150.all (cok stp_215 (csOf ct_215) 1 654) = true := by decide +kernel
set_option maxRecDepth 1000000 in
theorem cq_215_151 : cy_215_151.all (cok stp_215 (csOf ct_215) 1 654) = true := by decide +kernel
set_option maxRecDepth 1000000 in
theorem cq_215_152 : cy_215_152.all (cok stp_215 (csOf ct_215) 1 654) = true := by decide +kernel
set_option maxRecDepth 1000000 in
theorem cq_215_153 : cy_215_153.all (cok stp_215 (csOf ct_215) 1 654) = true := by decide +kernel
set_option maxRecDepth 1000000 in
theorem cq_215_154 : cy_215_154.all (cok stp_215 (csOf ct_215) 1 654) = true := by decide +kernel
set_option maxRecDepth 1000000 in
theorem cq_215_155 : cy_215_155.all (cok stp_215 (csOf ct_215) 1 654) = true := by decide +kernel
set_option maxRecDepth 1000000 in
theorem cq_215_156 : cy_215_156.all (cok stp_215 (csOf ct_215) 1 654) = true := by decide +kernel
set_option maxRecDepth 1000000 in
theorem cq_215_157 : cy_215_157.all (cok stp_215 (csOf ct_215) 1 654) = true := by decide +kernel
set_option maxRecDepth 1000000 in
theorem cq_215_158 : cy_215_158.all (cok stp_215 (csOf ct_215) 1 654) = true := by decide +kernel
set_option maxRecDepth 1000000 in
theorem cq_215_159 : cy_215_159.all (cok stp_215 (csOf ct_215) 1 654) = true := by decide +kernel
set_option maxRecDepth 1000000 in
theorem cq_215_160 : cy_215_160.all (cok stp_215 (csOf ct_215) 1 654) = true := by decide +kernel
set_option maxRecDepth 1000000 in
theorem cq_215_161 : cy_215_161.all (cok stp_215 (csOf ct_215) 1 654) = true := by decide +kernel
set_option maxRecDepth 1000000 in
theorem cq_215_162 : cy_215_162.all (cok stp_215 (csOf ct_215) 1 654) = true := by decide +kernel
set_option maxRecDepth 1000000 in
theorem cq_215_163 : cy_215_163.all (cok stp_215 (csOf ct_215) 1 654) = true := by decide +kernel
set_option maxRecDepth 1000000 in
theorem cq_215_164 : cy_215_164.all (cok stp_215 (csOf ct_215) 1 654) = true := by decide +kernel
set_option maxRecDepth 1000000 in
theorem cq_215_165 : cy_215_165.all (cok stp_215 (csOf ct_215) 1 654) = true := by decide +kernel
set_option maxRecDepth 1000000 in
theorem cq_215_166 : cy_215_166.all (cok stp_215 (csOf ct_215) 1 654) = true := by decide +kernel
set_option maxRecDepth 1000000 in
theorem cq_215_167 : cy_215_167.all (cok stp_215 (csOf ct_215) 1 654) = true := by decide +kernel
set_option maxRecDepth 1000000 in
theorem cq_215_168 : cy_215_168.all (cok stp_215 (csOf ct_215) 1 654) = true := by decide +kernel
set_option maxRecDepth 1000000 in
theorem cq_215_169 : cy_215_169.all (cok stp_215 (csOf ct_215) 1 654) = true := by decide +kernel
set_option maxRecDepth 1000000 in
theorem cq_215_170 : cy_215_170.all (cok stp_215 (csOf ct_215) 1 654) = true := by decide +kernel
set_option maxRecDepth 1000000 in
theorem cq_215_171 : cy_215_171.all (cok stp_215 (csOf ct_215) 1 654) = true := by decide +kernel
set_option maxRecDepth 1000000 in
theorem cq_215_172 : cy_215_172.all (cok stp_215 (csOf ct_215) 1 654) = true := by decide +kernel
set_option maxRecDepth 1000000 in
theorem cq_215_173 : cy_215_173.all (cok stp_215 (csOf ct_215) 1 654) = true := by decide +kernel
set_option maxRecDepth 1000000 in
theorem cq_215_174 : cy_215_174.all (cok stp_215 (csOf ct_215) 1 654) = true := by decide +kernel
set_option maxRecDepth 1000000 in
theorem cq_215_175 : cy_215_175.all (cok stp_215 (csOf ct_215) 1 654) = true := by decide +kernel
set_option maxRecDepth 1000000 in
theorem cq_215_176 : cy_215_176.all (cok stp_215 (csOf ct_215) 1 654) = true := by decide +kernel
set_option maxRecDepth 1000000 in
theorem cq_215_177 : cy_215_177.all (cok stp_215 (csOf ct_215) 1 654) = true := by decide +kernel
set_option maxRecDepth 1000000 in
theorem cq_215_178 : cy_215_178.all (cok stp_215 (csOf ct_215) 1 654) = true := by decide +kernel
set_option maxRecDepth 1000000 in
theorem cq_215_179 : cy_215_179.all (cok stp_215 (csOf ct_215) 1 654) = true := by decide +kernel
set_option maxRecDepth 1000000 in
theorem cq_215_180 : cy_215_180.all (cok stp_215 (csOf ct_215) 1 654) = true := by decide +kernel
set_option maxRecDepth 1000000 in
theorem cq_215_181 : cy_215_181.all (cok stp_215 (csOf ct_215) 1 654) = true := by decide +kernel
set_option maxRecDepth 1000000 in
theorem cq_215_182 : cy_215_182.all (cok stp_215 (csOf ct_215) 1 654) = true := by decide +kernel
set_option maxRecDepth 1000000 in
theorem cq_215_183 : cy_215_183.all (cok stp_215 (csOf ct_215) 1 654) = true := by decide +kernel
set_option maxRecDepth 1000000 in
theorem cq_215_184 : cy_215_184.all (cok stp_215 (csOf ct_215) 1 654) = true := by decide +kernel
set_option maxRecDepth 1000000 in
theorem cq_215_185 : cy_215_185.all (cok stp_215 (csOf ct_215) 1 654) = true := by decide +kernel
set_option maxRecDepth 1000000 in
theorem cq_215_186 : cy_215_186.all (cok stp_215 (csOf ct_215) 1 654) = true := by decide +kernel
set_option maxRecDepth 1000000 in
theorem cq_215_187 : cy_215_187.all (cok stp_215 (csOf ct_215) 1 654) = true := by decide +kernel
set_option maxRecDepth 1000000 in
theorem cq_215_188 : cy_215_188.all (cok stp_215 (csOf ct_215) 1 654) = true := by decide +kernel
set_option maxRecDepth 1000000 in
theorem cq_215_189 : cy_215_189.all (cok stp_215 (csOf ct_215) 1 654) = true := by decide +kernel
set_option maxRecDepth 1000000 in
theorem cq_215_190 : cy_215_190.all (cok stp_215 (csOf ct_215) 1 654) = true := by decide +kernel
set_option maxRecDepth 1000000 in
theorem cq_215_191 : cy_215_191.all (cok stp_215 (csOf ct_215) 1 654) = true := by decide +kernel
set_option maxRecDepth 1000000 in
theorem cq_215_192 : cy_215_192.all (cok stp_215 (csOf ct_215) 1 654) = true := by decide +kernel
set_option maxRecDepth 1000000 in
theorem cq_215_193 : cy_215_193.all (cok stp_215 (csOf ct_215) 1 654) = true := by decide +kernel
set_option maxRecDepth 1000000 in
theorem cq_215_194 : cy_215_194.all (cok stp_215 (csOf ct_215) 1 654) = true := by decide +kernel
set_option maxRecDepth 1000000 in
theorem cq_215_195 : cy_215_195.all (cok stp_215 (csOf ct_215) 1 654) = true := by decide +kernel
set_option maxRecDepth 1000000 in
theorem cq_215_196 : cy_215_196.all (cok stp_215 (csOf ct_215) 1 654) = true := by decide +kernel
set_option maxRecDepth 1000000 in
theorem cq_215_197 : cy_215_197.all (cok stp_215 (csOf ct_215) 1 654) = true := by decide +kernel
set_option maxRecDepth 1000000 in
theorem cq_215_198 : cy_215_198.all (cok stp_215 (csOf ct_215) 1 654) = true := by decide +kernel
set_option maxRecDepth 1000000 in
theorem cq_215_199 : cy_215_199.all (cok stp_215 (csOf ct_215) 1 654) = true := by decide +kernel
set_option maxRecDepth 1000000 in
theorem cq_215_200 : cy_215_200.all (cok stp_215 (csOf ct_215) 1 654) = true := by decide +kernel
set_option maxRecDepth 1000000 in
theorem cq_215_201 : cy_215_201.all (cok stp_215 (csOf ct_215) 1 654) = true := by decide +kernel
set_option maxRecDepth 1000000 in
theorem cq_215_202 : cy_215_202.all (cok stp_215 (csOf ct_215) 1 654) = true := by decide +kernel
set_option maxRecDepth 1000000 in
theorem cq_215_203 : cy_215_203.all (cok stp_215 (csOf ct_215) 1 654) = true := by decide +kernel
set_option maxRecDepth 1000000 in
theorem cq_215_204 : cy_215_204.all (cok stp_215 (csOf ct_215) 1 654) = true := by decide +kernel
set_option maxRecDepth 1000000 in
theorem cq_215_205 : cy_215_205.all (cok stp_215 (csOf ct_215) 1 654) = true := by decide +kernel
set_option maxRecDepth 1000000 in
theorem cq_215_206 : cy_215_206.all (cok stp_215 (csOf ct_215) 1 654) = true := by decide +kernel
set_option maxRecDepth 1000000 in
theorem cq_215_207 : cy_215_207.all (cok stp_215 (csOf ct_215) 1 654) = true := by decide +kernel
set_option maxRecDepth 1000000 in
theorem cq_215_208 : cy_215_208.all (cok stp_215 (csOf ct_215) 1 654) = true := by decide +kernel
set_option maxRecDepth 1000000 in
theorem cq_215_209 : cy_215_209.all (cok stp_215 (csOf ct_215) 1 654) = true := by decide +kernel
set_option maxRecDepth 1000000 in
theorem cq_215_210 : cy_215_210.all (cok stp_215 (csOf ct_215) 1 654) = true := by decide +kernel
set_option maxRecDepth 1000000 in
theorem cq_215_211 : cy_215_211.all (cok stp_215 (csOf ct_215) 1 654) = true := by decide +kernel
set_option maxRecDepth 1000000 in
theorem cq_215_212 : cy_215_212.all (cok stp_215 (csOf ct_215) 1 654) = true := by decide +kernel
set_option maxRecDepth 1000000 in
theorem cq_215_213 : cy_215_213.all (cok stp_215 (csOf ct_215) 1 654) = true := by decide +kernel
set_option maxRecDepth 1000000 in
theorem cq_215_214 : cy_215_214.all (cok stp_215 (csOf ct_215) 1 654) = true := by decide +kernel
set_option maxRecDepth 1000000 in
theorem cq_215_215 : cy_215_215.all (cok stp_215 (csOf ct_215) 1 654) = true := by decide +kernel
set_option maxRecDepth 1000000 in
theorem cq_215_216 : cy_215_216.all (cok stp_215 (csOf ct_215) 1 654) = true := by decide +kernel
set_option maxRecDepth 1000000 in
theorem cq_215_217 : cy_215_217.all (cok stp_215 (csOf ct_215) 1 654) = true := by decide +kernel
set_option maxRecDepth 1000000 in
theorem cn_215 : (match eA (mkT vV Lc_215) 208 [.inr (some 0), .inl ((-2147483648), 2147483647), .inl ((-2147483648), 2147483647), .inl ((-2147483648), 2147483647)] [] [] with | some A => expl stp_215 (csOf ct_215) (rk0 1) 654 A | none => false) = true := by decide +kernel
