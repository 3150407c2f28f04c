/-! the code tables hold, by the kernel -/
set_option maxRecDepth 100000 in
theorem ck_368_0 : mk_368_0.all (okE 12 prog_14_method_136_code) = true := by decide +kernel
set_option maxRecDepth 100000 in
theorem ck_368_1 : mk_368_1.all (okE 12 prog_14_method_136_code) = true := by decide +kernel
set_option maxRecDepth 100000 in
theorem ck_368_2 : mk_368_2.all (okE 12 prog_14_method_136_code) = true := by decide +kernel
set_option maxRecDepth 100000 in
theorem ck_368 : mk_368.all (fun l => l.all (okE 12 prog_14_method_136_code)) = true := all_c ck_368_0 (all_c ck_368_1 (all_c ck_368_2 (rfl)))
set_option maxRecDepth 100000 in
theorem ck_369_0 : mk_369_0.all (okE 12 prog_14_method_137_code) = true := by decide +kernel
set_option maxRecDepth 100000 in
theorem ck_369_1 : mk_369_1.all (okE 12 prog_14_method_137_code) = true := by decide +kernel
set_option maxRecDepth 100000 in
theorem ck_369_2 : mk_369_2.all (okE 12 prog_14_method_137_code) = true := by decide +kernel
set_option maxRecDepth 100000 in
theorem ck_369_3 : mk_369_3.all (okE 12 prog_14_method_137_code) = true := by decide +kernel
set_option maxRecDepth 100000 in
theorem ck_369_4 : mk_369_4.all (okE 12 prog_14_method_137_code) = true := by decide +kernel
set_option maxRecDepth 100000 in
theorem ck_369_5 : mk_369_5.all (okE 12 prog_14_method_137_code) = true := by decide +kernel
set_option maxRecDepth 100000 in
theorem ck_369_6 : mk_369_6.all (okE 12 prog_14_method_137_code) = true := by decide +kernel
set_option maxRecDepth 100000 in
theorem ck_369_7 : mk_369_7.all (okE 12 prog_14_method_137_code) = true := by decide +kernel
set_option maxRecDepth 100000 in
theorem ck_369_8 : mk_369_8.all (okE 12 prog_14_method_137_code) = true := by decide +kernel
set_option maxRecDepth 100000 in
theorem ck_369 : mk_369.all (fun l => l.all (okE 12 prog_14_method_137_code)) = true := all_c ck_369_0 (all_c ck_369_1 (all_c ck_369_2 (all_c ck_369_3 (all_c ck_369_4 (all_c ck_369_5 (all_c ck_369_6 (all_c ck_369_7 (all_c ck_369_8 (rfl)))))))))
set_option maxRecDepth 100000 in
theorem ck_370_0 : mk_370_0.all (okE 12 prog_14_method_138_code) = true := by decide +kernel
set_option maxRecDepth 100000 in
theorem ck_370_1 : mk_370_1.all (okE 12 prog_14_method_138_code) = true := by decide +kernel
set_option maxRecDepth 100000 in
theorem ck_370_2 : mk_370_2.all (okE 12 prog_14_method_138_code) = true := by decide +kernel
set_option maxRecDepth 100000 in
theorem ck_370_3 : mk_370_3.all (okE 12 prog_14_method_138_code) = true := by decide +kernel
set_option maxRecDepth 100000 in
theorem ck_370_4 : mk_370_4.all (okE 12 prog_14_method_138_code) = true := by decide +kernel
set_option maxRecDepth 100000 in
theorem ck_370_5 : mk_370_5.all (okE 12 prog_14_method_138_code) = true := by decide +kernel
set_option maxRecDepth 100000 in
theorem ck_370_6 : mk_370_6.all (okE 12 prog_14_method_138_code) = true := by decide +kernel
set_option maxRecDepth 100000 in
theorem ck_370 : mk_370.all (fun l => l.all (okE 12 prog_14_method_138_code)) = true := all_c ck_370_0 (all_c ck_370_1 (all_c ck_370_2 (all_c ck_370_3 (all_c ck_370_4 (all_c ck_370_5 (all_c ck_370_6 (rfl)))))))
