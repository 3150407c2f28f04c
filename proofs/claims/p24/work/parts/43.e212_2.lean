/-! a large certificate: cuts one by one (wip/gencert.py) -/
set_option maxRecDepth 1000000 in
theorem cq_212_146 : cy_212_146.all (cok stp_212 (csOf ct_212) 1 654) = true := by decide +kernel
set_option maxRecDepth 1000000 in
theorem cq_212_147 : cy_212_147.all (cok stp_212 (csOf ct_212) 1 654) = true := by decide +kernel
set_option maxRecDepth 1000000 in
theorem cq_212_148 : cy_212_148.all (cok stp_212 (csOf ct_212) 1 654) = true := by decide +kernel
set_option maxRecDepth 1000000 in
theorem cq_212_149 : cy_212_149.all (cok stp_212 (csOf ct_212) 1 654) = true := by decide +kernel
set_option maxRecDepth 1000000 in
theorem cq_212_150 : cy_212_150.all (cok stp_212 (csOf ct_212) 1 654) = true := by decide +kernel
set_option maxRecDepth 1000000 in
theorem cq_212_151 : cy_212_151.all (cok stp_212 (csOf ct_212) 1 654) = true := by decide +kernel
set_option maxRecDepth 1000000 in
theorem cq_212_152 : cy_212_152.all (cok stp_212 (csOf ct_212) 1 654) = true := by decide +kernel
set_option maxRecDepth 1000000 in
theorem cq_212_153 : cy_212_153.all (cok stp_212 (csOf ct_212) 1 654) = true := by decide +kernel
set_option maxRecDepth 1000000 in
theorem cq_212_154 : cy_212_154.all (cok stp_212 (csOf ct_212) 1 654) = true := by decide +kernel
set_option maxRecDepth 1000000 in
theorem cq_212_155 : cy_212_155.all (cok stp_212 (csOf ct_212) 1 654) = true := by decide +kernel
set_option maxRecDepth 1000000 in
theorem cq_212_156 : cy_212_156.all (cok stp_212 (csOf ct_212) 1 654) = true := by decide +kernel
set_option maxRecDepth 1000000 in
theorem cq_212_157 : cy_212_157.all (cok stp_212 (csOf ct_212) 1 654) = true := by decide +kernel
set_option maxRecDepth 1000000 in
theorem cq_212_158 : cy_212_158.all (cok stp_212 (csOf ct_212) 1 654) = true := by decide +kernel
set_option maxRecDepth 1000000 in
theorem cq_212_159 : cy_212_159.all (cok stp_212 (csOf ct_212) 1 654) = true := by decide +kernel
set_option maxRecDepth 1000000 in
theorem cq_212_160 : cy_212_160.all (cok stp_212 (csOf ct_212) 1 654) = true := by decide +kernel
set_option maxRecDepth 1000000 in
theorem cq_212_161 : cy_212_161.all (cok stp_212 (csOf ct_212) 1 654) = true := by decide +kernel
set_option maxRecDepth 1000000 in
theorem cq_212_162 : cy_212_162.all (cok stp_212 (csOf ct_212) 1 654) = true := by decide +kernel
set_option maxRecDepth 1000000 in
theorem cq_212_163 : cy_212_163.all (cok stp_212 (csOf ct_212) 1 654) = true := by decide +kernel
set_option maxRecDepth 1000000 in
theorem cq_212_164 : cy_212_164.all (cok stp_212 (csOf ct_212) 1 654) = true := by decide +kernel
set_option maxRecDepth 1000000 in
theorem cq_212_165 : cy_212_165.all (cok stp_212 (csOf ct_212) 1 654) = true := by decide +kernel
set_option maxRecDepth 1000000 in
theorem cq_212_166 : cy_212_166.all (cok stp_212 (csOf ct_212) 1 654) = true := by decide +kernel
set_option maxRecDepth 1000000 in
theorem cq_212_167 : cy_212_167.all (cok stp_212 (csOf ct_212) 1 654) = true := by decide +kernel
set_option maxRecDepth 1000000 in
theorem cq_212_168 : cy_212_168.all (cok stp_212 (csOf ct_212) 1 654) = true := by decide +kernel
set_option maxRecDepth 1000000 in
theorem cq_212_169 : cy_212_169.all (cok stp_212 (csOf ct_212) 1 654) = true := by decide +kernel
set_option maxRecDepth 1000000 in
theorem cq_212_170 : cy_212_170.all (cok stp_212 (csOf ct_212) 1 654) = true := by decide +kernel
set_option maxRecDepth 1000000 in
theorem cq_212_171 : cy_212_171.all (cok stp_212 (csOf ct_212) 1 654) = true := by decide +kernel
set_option maxRecDepth 1000000 in
theorem cq_212_172 : cy_212_172.all (cok stp_212 (csOf ct_212) 1 654) = true := by decide +kernel
set_option maxRecDepth 1000000 in
theorem cq_212_173 : cy_212_173.all (cok stp_212 (csOf ct_212) 1 654) = true := by decide +kernel
set_option maxRecDepth 1000000 in
theorem cq_212_174 : cy_212_174.all (cok stp_212 (csOf ct_212) 1 654) = true := by decide +kernel
set_option maxRecDepth 1000000 in
theorem cq_212_175 : cy_212_175.all (cok stp_212 (csOf ct_212) 1 654) = true := by decide +kernel
set_option maxRecDepth 1000000 in
theorem cq_212_176 : cy_212_176.all (cok stp_212 (csOf ct_212) 1 654) = true := by decide +kernel
set_option maxRecDepth 1000000 in
theorem cq_212_177 : cy_212_177.all (cok stp_212 (csOf ct_212) 1 654) = true := by decide +kernel
set_option maxRecDepth 1000000 in
theorem cq_212_178 : cy_212_178.all (cok stp_212 (csOf ct_212) 1 654) = true := by decide +kernel
set_option maxRecDepth 1000000 in
theorem cq_212_179 : cy_212_179.all (cok stp_212 (csOf ct_212) 1 654) = true := by decide +kernel
set_option maxRecDepth 1000000 in
theorem cq_212_180 : cy_212_180.all (cok stp_212 (csOf ct_212) 1 654) = true := by decide +kernel
set_option maxRecDepth 1000000 in
theorem cq_212_181 : cy_212_181.all (cok stp_212 (csOf ct_212) 1 654) = true := by decide +kernel
set_option maxRecDepth 1000000 in
theorem cq_212_182 : cy_212_182.all (cok stp_212 (csOf ct_212) 1 654) = true := by decide +kernel
set_option maxRecDepth 1000000 in
theorem cq_212_183 : cy_212_183.all (cok stp_212 (csOf ct_212) 1 654) = true := by decide +kernel
set_option maxRecDepth 1000000 in
theorem cq_212_184 : cy_212_184.all (cok stp_212 (csOf ct_212) 1 654) = true := by decide +kernel
set_option maxRecDepth 1000000 in
theorem cq_212_185 : cy_212_185.all (cok stp_212 (csOf ct_212) 1 654) = true := by decide +kernel
set_option maxRecDepth 1000000 in
theorem cq_212_186 : cy_212_186.all (cok stp_212 (csOf ct_212) 1 654) = true := by decide +kernel
set_option maxRecDepth 1000000 in
theorem cq_212_187 : cy_212_187.all (cok stp_212 (csOf ct_212) 1 654) = true := by decide +kernel
set_option maxRecDepth 1000000 in
theorem cq_212_188 : cy_212_188.all (cok stp_212 (csOf ct_212) 1 654) = true := by decide +kernel
set_option maxRecDepth 1000000 in
theorem cq_212_189 : cy_212_189.all (cok stp_212 (csOf ct_212) 1 654) = true := by decide +kernel
set_option maxRecDepth 1000000 in
theorem cq_212_190 : cy_212_190.all (cok stp_212 (csOf ct_212) 1 654) = true := by decide +kernel
set_option maxRecDepth 1000000 in
theorem cq_212_191 : cy_212_191.all (cok stp_212 (csOf ct_212) 1 654) = true := by decide +kernel
set_option maxRecDepth 1000000 in
theorem cq_212_192 : cy_212_192.all (cok stp_212 (csOf ct_212) 1 654) = true := by decide +kernel
set_option maxRecDepth 1000000 in
theorem cq_212_193 : cy_212_193.all (cok stp_212 (csOf ct_212) 1 654) = true := by decide +kernel
set_option maxRecDepth 1000000 in
theorem cq_212_194 : cy_212_194.all (cok stp_212 (csOf ct_212) 1 654) = true := by decide +kernel
set_option maxRecDepth 1000000 in
theorem cq_212_195 : cy_212_195.all (cok stp_212 (csOf ct_212) 1 654) = true := by decide +kernel
set_option maxRecDepth 1000000 in
theorem cq_212_196 : cy_212_196.all (cok stp_212 (csOf ct_212) 1 654) = true := by decide +kernel
set_option maxRecDepth 1000000 in
theorem cq_212_197 : cy_212_197.all (cok stp_212 (csOf ct_212) 1 654) = true := by decide +kernel
set_option maxRecDepth 1000000 in
theorem cq_212_198 : cy_212_198.all (cok stp_212 (csOf ct_212) 1 654) = true := by decide +kernel
set_option maxRecDepth 1000000 in
theorem cq_212_199 : cy_212_199.all (cok stp_212 (csOf ct_212) 1 654) = true := by decide +kernel
set_option maxRecDepth 1000000 in
theorem cq_212_200 : cy_212_200.all (cok stp_212 (csOf ct_212) 1 654) = true := by decide +kernel
set_option maxRecDepth 1000000 in
theorem cq_212_201 : cy_212_201.all (cok stp_212 (csOf ct_212) 1 654) = true := by decide +kernel
set_option maxRecDepth 1000000 in
theorem cq_212_202 : cy_212_202.all (cok stp_212 (csOf ct_212) 1 654) = true := by decide +kernel
set_option maxRecDepth 1000000 in
theorem cq_212_203 : cy_212_203.all (cok stp_212 (csOf ct_212) 1 654) = true := by decide +kernel
set_option maxRecDepth 1000000 in
theorem cq_212_204 : cy_212_204.all (cok stp_212 (csOf ct_212) 1 654) = true := by decide +kernel
set_option maxRecDepth 1000000 in
theorem cq_212_205 : cy_212_205.all (cok stp_212 (csOf ct_212) 1 654) = true := by decide +kernel
set_option maxRecDepth 1000000 in
theorem cq_212_206 : cy_212_206.all (cok stp_212 (csOf ct_212) 1 654) = true := by decide +kernel
set_option maxRecDepth 1000000 in
theorem cq_212_207 : cy_212_207.all (cok stp_212 (csOf ct_212) 1 654) = true := by decide +kernel
set_option maxRecDepth 1000000 in
theorem cq_212_208 : cy_212_208.all (cok stp_212 (csOf ct_212) 1 654) = true := by decide +kernel
set_option maxRecDepth 1000000 in
theorem cq_212_209 : cy_212_209.all (cok stp_212 (csOf ct_212) 1 654) = true := by decide +kernel
set_option maxRecDepth 1000000 in
theorem cq_212_210 : cy_212_210.all (cok stp_212 (csOf ct_212) 1 654) = true := by decide +kernel
set_option maxRecDepth 1000000 in
theorem cq_212_211 : cy_212_211.all (cok stp_212 (csOf ct_212) 1 654) = true := by decide +kernel
set_option maxRecDepth 1000000 in
theorem cq_212_212 : cy_212_212.all (cok stp_212 (csOf ct_212) 1 654) = true := by decide +kernel
set_option maxRecDepth 1000000 in
theorem cq_212_213 : cy_212_213.all (cok stp_212 (csOf ct_212) 1 654) = true := by decide +kernel
set_option maxRecDepth 1000000 in
theorem cq_212_214 : cy_212_214.all (cok stp_212 (csOf ct_212) 1 654) = true := by decide +kernel
set_option maxRecDepth 1000000 in
theorem cq_212_215 : cy_212_215.all (cok stp_212 (csOf ct_212) 1 654) = true := by decide +kernel
set_option maxRecDepth 1000000 in
theorem cq_212_216 : cy_212_216.all (cok stp_212 (csOf ct_212) 1 654) = true := by decide +kernel
set_option maxRecDepth 1000000 in
theorem cq_212_217 : cy_212_217.all (cok stp_212 (csOf ct_212) 1 654) = true := by decide +kernel
set_option maxRecDepth 1000000 in
theorem cn_212 : (match eA (mkT vV Lc_212) 208 [.inr (some 0), .inl ((-2147483648), 2147483647), .inl ((-2147483648), 2147483647), .inl ((-2147483648), 2147483647)] [] [] with | some A => expl stp_212 (csOf ct_212) (rk0 1) 654 A | none => false) = true := by decide +kernel
