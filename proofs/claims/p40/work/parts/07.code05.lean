/-! the code tables hold, by the kernel -/
set_option maxRecDepth 100000 in
theorem ck_279_0 : mk_279_0.all (okE 12 prog_14_method_44_code) = true := by decide +kernel
set_option maxRecDepth 100000 in
theorem ck_279 : mk_279.all (fun l => l.all (okE 12 prog_14_method_44_code)) = true := all_c ck_279_0 (rfl)
set_option maxRecDepth 100000 in
theorem ck_280_0 : mk_280_0.all (okE 12 prog_14_method_45_code) = true := by decide +kernel
set_option maxRecDepth 100000 in
theorem ck_280 : mk_280.all (fun l => l.all (okE 12 prog_14_method_45_code)) = true := all_c ck_280_0 (rfl)
set_option maxRecDepth 100000 in
theorem ck_281_0 : mk_281_0.all (okE 12 prog_14_method_59_code) = true := by decide +kernel
set_option maxRecDepth 100000 in
theorem ck_281_1 : mk_281_1.all (okE 12 prog_14_method_59_code) = true := by decide +kernel
set_option maxRecDepth 100000 in
theorem ck_281_2 : mk_281_2.all (okE 12 prog_14_method_59_code) = true := by decide +kernel
set_option maxRecDepth 100000 in
theorem ck_281_3 : mk_281_3.all (okE 12 prog_14_method_59_code) = true := by decide +kernel
set_option maxRecDepth 100000 in
theorem ck_281_4 : mk_281_4.all (okE 12 prog_14_method_59_code) = true := by decide +kernel
set_option maxRecDepth 100000 in
theorem ck_281_5 : mk_281_5.all (okE 12 prog_14_method_59_code) = true := by decide +kernel
set_option maxRecDepth 100000 in
theorem ck_281_6 : mk_281_6.all (okE 12 prog_14_method_59_code) = true := by decide +kernel
set_option maxRecDepth 100000 in
theorem ck_281_7 : mk_281_7.all (okE 12 prog_14_method_59_code) = true := by decide +kernel
set_option maxRecDepth 100000 in
theorem ck_281 : mk_281.all (fun l => l.all (okE 12 prog_14_method_59_code)) = true := all_c ck_281_0 (all_c ck_281_1 (all_c ck_281_2 (all_c ck_281_3 (all_c ck_281_4 (all_c ck_281_5 (all_c ck_281_6 (all_c ck_281_7 (rfl))))))))
set_option maxRecDepth 100000 in
theorem ck_282_0 : mk_282_0.all (okE 12 prog_14_method_47_code) = true := by decide +kernel
set_option maxRecDepth 100000 in
theorem ck_282_1 : mk_282_1.all (okE 12 prog_14_method_47_code) = true := by decide +kernel
set_option maxRecDepth 100000 in
theorem ck_282_2 : mk_282_2.all (okE 12 prog_14_method_47_code) = true := by decide +kernel
set_option maxRecDepth 100000 in
theorem ck_282 : mk_282.all (fun l => l.all (okE 12 prog_14_method_47_code)) = true := all_c ck_282_0 (all_c ck_282_1 (all_c ck_282_2 (rfl)))
set_option maxRecDepth 100000 in
theorem ck_283_0 : mk_283_0.all (okE 12 prog_14_method_48_code) = true := by decide +kernel
set_option maxRecDepth 100000 in
theorem ck_283 : mk_283.all (fun l => l.all (okE 12 prog_14_method_48_code)) = true := all_c ck_283_0 (rfl)
set_option maxRecDepth 100000 in
theorem ck_284_0 : mk_284_0.all (okE 12 prog_14_method_55_code) = true := by decide +kernel
set_option maxRecDepth 100000 in
theorem ck_284_1 : mk_284_1.all (okE 12 prog_14_method_55_code) = true := by decide +kernel
set_option maxRecDepth 100000 in
theorem ck_284 : mk_284.all (fun l => l.all (okE 12 prog_14_method_55_code)) = true := all_c ck_284_0 (all_c ck_284_1 (rfl))
set_option maxRecDepth 100000 in
theorem ck_285_0 : mk_285_0.all (okE 12 prog_14_method_54_code) = true := by decide +kernel
set_option maxRecDepth 100000 in
theorem ck_285_1 : mk_285_1.all (okE 12 prog_14_method_54_code) = true := by decide +kernel
set_option maxRecDepth 100000 in
theorem ck_285 : mk_285.all (fun l => l.all (okE 12 prog_14_method_54_code)) = true := all_c ck_285_0 (all_c ck_285_1 (rfl))
set_option maxRecDepth 100000 in
theorem ck_286_0 : mk_286_0.all (okE 12 prog_14_method_53_code) = true := by decide +kernel
set_option maxRecDepth 100000 in
theorem ck_286_1 : mk_286_1.all (okE 12 prog_14_method_53_code) = true := by decide +kernel
set_option maxRecDepth 100000 in
theorem ck_286_2 : mk_286_2.all (okE 12 prog_14_method_53_code) = true := by decide +kernel
set_option maxRecDepth 100000 in
theorem ck_286 : mk_286.all (fun l => l.all (okE 12 prog_14_method_53_code)) = true := all_c ck_286_0 (all_c ck_286_1 (all_c ck_286_2 (rfl)))
set_option maxRecDepth 100000 in
theorem ck_287_0 : mk_287_0.all (okE 12 prog_14_method_49_code) = true := by decide +kernel
set_option maxRecDepth 100000 in
theorem ck_287_1 : mk_287_1.all (okE 12 prog_14_method_49_code) = true := by decide +kernel
set_option maxRecDepth 100000 in
theorem ck_287 : mk_287.all (fun l => l.all (okE 12 prog_14_method_49_code)) = true := all_c ck_287_0 (all_c ck_287_1 (rfl))
set_option maxRecDepth 100000 in
theorem ck_288_0 : mk_288_0.all (okE 12 prog_14_method_50_code) = true := by decide +kernel
set_option maxRecDepth 100000 in
theorem ck_288 : mk_288.all (fun l => l.all (okE 12 prog_14_method_50_code)) = true := all_c ck_288_0 (rfl)
set_option maxRecDepth 100000 in
theorem ck_289_0 : mk_289_0.all (okE 12 prog_14_method_51_code) = true := by decide +kernel
set_option maxRecDepth 100000 in
theorem ck_289 : mk_289.all (fun l => l.all (okE 12 prog_14_method_51_code)) = true := all_c ck_289_0 (rfl)
set_option maxRecDepth 100000 in
theorem ck_290_0 : mk_290_0.all (okE 12 prog_14_method_52_code) = true := by decide +kernel
set_option maxRecDepth 100000 in
theorem ck_290 : mk_290.all (fun l => l.all (okE 12 prog_14_method_52_code)) = true := all_c ck_290_0 (rfl)
set_option maxRecDepth 100000 in
theorem ck_291_0 : mk_291_0.all (okE 12 prog_14_method_58_code) = true := by decide +kernel
set_option maxRecDepth 100000 in
theorem ck_291_1 : mk_291_1.all (okE 12 prog_14_method_58_code) = true := by decide +kernel
set_option maxRecDepth 100000 in
theorem ck_291 : mk_291.all (fun l => l.all (okE 12 prog_14_method_58_code)) = true := all_c ck_291_0 (all_c ck_291_1 (rfl))
set_option maxRecDepth 100000 in
theorem ck_292_0 : mk_292_0.all (okE 12 prog_14_method_57_code) = true := by decide +kernel
set_option maxRecDepth 100000 in
theorem ck_292_1 : mk_292_1.all (okE 12 prog_14_method_57_code) = true := by decide +kernel
set_option maxRecDepth 100000 in
theorem ck_292 : mk_292.all (fun l => l.all (okE 12 prog_14_method_57_code)) = true := all_c ck_292_0 (all_c ck_292_1 (rfl))
set_option maxRecDepth 100000 in
theorem ck_293_0 : mk_293_0.all (okE 12 prog_14_method_56_code) = true := by decide +kernel
set_option maxRecDepth 100000 in
theorem ck_293_1 : mk_293_1.all (okE 12 prog_14_method_56_code) = true := by decide +kernel
set_option maxRecDepth 100000 in
theorem ck_293_2 : mk_293_2.all (okE 12 prog_14_method_56_code) = true := by decide +kernel
set_option maxRecDepth 100000 in
theorem ck_293_3 : mk_293_3.all (okE 12 prog_14_method_56_code) = true := by decide +kernel
set_option maxRecDepth 100000 in
theorem ck_293_4 : mk_293_4.all (okE 12 prog_14_method_56_code) = true := by decide +kernel
set_option maxRecDepth 100000 in
theorem ck_293 : mk_293.all (fun l => l.all (okE 12 prog_14_method_56_code)) = true := all_c ck_293_0 (all_c ck_293_1 (all_c ck_293_2 (all_c ck_293_3 (all_c ck_293_4 (rfl)))))
set_option maxRecDepth 100000 in
theorem ck_294_0 : mk_294_0.all (okE 12 prog_14_method_62_code) = true := by decide +kernel
set_option maxRecDepth 100000 in
theorem ck_294_1 : mk_294_1.all (okE 12 prog_14_method_62_code) = true := by decide +kernel
set_option maxRecDepth 100000 in
theorem ck_294 : mk_294.all (fun l => l.all (okE 12 prog_14_method_62_code)) = true := all_c ck_294_0 (all_c ck_294_1 (rfl))
set_option maxRecDepth 100000 in
theorem ck_295_0 : mk_295_0.all (okE 12 prog_14_method_61_code) = true := by decide +kernel
set_option maxRecDepth 100000 in
theorem ck_295_1 : mk_295_1.all (okE 12 prog_14_method_61_code) = true := by decide +kernel
set_option maxRecDepth 100000 in
theorem ck_295 : mk_295.all (fun l => l.all (okE 12 prog_14_method_61_code)) = true := all_c ck_295_0 (all_c ck_295_1 (rfl))
set_option maxRecDepth 100000 in
theorem ck_296_0 : mk_296_0.all (okE 12 prog_14_method_71_code) = true := by decide +kernel
set_option maxRecDepth 100000 in
theorem ck_296_1 : mk_296_1.all (okE 12 prog_14_method_71_code) = true := by decide +kernel
set_option maxRecDepth 100000 in
theorem ck_296_2 : mk_296_2.all (okE 12 prog_14_method_71_code) = true := by decide +kernel
set_option maxRecDepth 100000 in
theorem ck_296_3 : mk_296_3.all (okE 12 prog_14_method_71_code) = true := by decide +kernel
set_option maxRecDepth 100000 in
theorem ck_296_4 : mk_296_4.all (okE 12 prog_14_method_71_code) = true := by decide +kernel
set_option maxRecDepth 100000 in
theorem ck_296_5 : mk_296_5.all (okE 12 prog_14_method_71_code) = true := by decide +kernel
set_option maxRecDepth 100000 in
theorem ck_296 : mk_296.all (fun l => l.all (okE 12 prog_14_method_71_code)) = true := all_c ck_296_0 (all_c ck_296_1 (all_c ck_296_2 (all_c ck_296_3 (all_c ck_296_4 (all_c ck_296_5 (rfl))))))
set_option maxRecDepth 100000 in
theorem ck_297_0 : mk_297_0.all (okE 12 prog_14_method_70_code) = true := by decide +kernel
set_option maxRecDepth 100000 in
theorem ck_297 : mk_297.all (fun l => l.all (okE 12 prog_14_method_70_code)) = true := all_c ck_297_0 (rfl)
set_option maxRecDepth 100000 in
theorem ck_298_0 : mk_298_0.all (okE 12 prog_14_method_66_code) = true := by decide +kernel
set_option maxRecDepth 100000 in
theorem ck_298_1 : mk_298_1.all (okE 12 prog_14_method_66_code) = true := by decide +kernel
set_option maxRecDepth 100000 in
theorem ck_298_2 : mk_298_2.all (okE 12 prog_14_method_66_code) = true := by decide +kernel
set_option maxRecDepth 100000 in
theorem ck_298_3 : mk_298_3.all (okE 12 prog_14_method_66_code) = true := by decide +kernel
set_option maxRecDepth 100000 in
theorem ck_298_4 : mk_298_4.all (okE 12 prog_14_method_66_code) = true := by decide +kernel
set_option maxRecDepth 100000 in
theorem ck_298_5 : mk_298_5.all (okE 12 prog_14_method_66_code) = true := by decide +kernel
set_option maxRecDepth 100000 in
theorem ck_298_6 : mk_298_6.all (okE 12 prog_14_method_66_code) = true := by decide +kernel
set_option maxRecDepth 100000 in
theorem ck_298_7 : mk_298_7.all (okE 12 prog_14_method_66_code) = true := by decide +kernel
set_option maxRecDepth 100000 in
theorem ck_298_8 : mk_298_8.all (okE 12 prog_14_method_66_code) = true := by decide +kernel
set_option maxRecDepth 100000 in
theorem ck_298_9 : mk_298_9.all (okE 12 prog_14_method_66_code) = true := by decide +kernel
set_option maxRecDepth 100000 in
theorem ck_298_10 : mk_298_10.all (okE 12 prog_14_method_66_code) = true := by decide +kernel
set_option maxRecDepth 100000 in
theorem ck_298_11 : mk_298_11.all (okE 12 prog_14_method_66_code) = true := by decide +kernel
set_option maxRecDepth 100000 in
theorem ck_298_12 : mk_298_12.all (okE 12 prog_14_method_66_code) = true := by decide +kernel
set_option maxRecDepth 100000 in
theorem ck_298 : mk_298.all (fun l => l.all (okE 12 prog_14_method_66_code)) = true := all_c ck_298_0 (all_c ck_298_1 (all_c ck_298_2 (all_c ck_298_3 (all_c ck_298_4 (all_c ck_298_5 (all_c ck_298_6 (all_c ck_298_7 (all_c ck_298_8 (all_c ck_298_9 (all_c ck_298_10 (all_c ck_298_11 (all_c ck_298_12 (rfl)))))))))))))
set_option maxRecDepth 100000 in
theorem ck_299_0 : mk_299_0.all (okE 12 prog_14_method_65_code) = true := by decide +kernel
set_option maxRecDepth 100000 in
theorem ck_299_1 : mk_299_1.all (okE 12 prog_14_method_65_code) = true := by decide +kernel
set_option maxRecDepth 100000 in
theorem ck_299 : mk_299.all (fun l => l.all (okE 12 prog_14_method_65_code)) = true := all_c ck_299_0 (all_c ck_299_1 (rfl))
set_option maxRecDepth 100000 in
theorem ck_300_0 : mk_300_0.all (okE 12 prog_14_method_64_code) = true := by decide +kernel
set_option maxRecDepth 100000 in
theorem ck_300_1 : mk_300_1.all (okE 12 prog_14_method_64_code) = true := by decide +kernel
set_option maxRecDepth 100000 in
theorem ck_300_2 : mk_300_2.all (okE 12 prog_14_method_64_code) = true := by decide +kernel
set_option maxRecDepth 100000 in
theorem ck_300_3 : mk_300_3.all (okE 12 prog_14_method_64_code) = true := by decide +kernel
set_option maxRecDepth 100000 in
theorem ck_300_4 : mk_300_4.all (okE 12 prog_14_method_64_code) = true := by decide +kernel
set_option maxRecDepth 100000 in
theorem ck_300_5 : mk_300_5.all (okE 12 prog_14_method_64_code) = true := by decide +kernel
set_option maxRecDepth 100000 in
theorem ck_300 : mk_300.all (fun l => l.all (okE 12 prog_14_method_64_code)) = true := all_c ck_300_0 (all_c ck_300_1 (all_c ck_300_2 (all_c ck_300_3 (all_c ck_300_4 (all_c ck_300_5 (rfl))))))
set_option maxRecDepth 100000 in
theorem ck_301_0 : mk_301_0.all (okE 12 prog_14_method_63_code) = true := by decide +kernel
set_option maxRecDepth 100000 in
theorem ck_301_1 : mk_301_1.all (okE 12 prog_14_method_63_code) = true := by decide +kernel
set_option maxRecDepth 100000 in
theorem ck_301_2 : mk_301_2.all (okE 12 prog_14_method_63_code) = true := by decide +kernel
set_option maxRecDepth 100000 in
theorem ck_301_3 : mk_301_3.all (okE 12 prog_14_method_63_code) = true := by decide +kernel
set_option maxRecDepth 100000 in
theorem ck_301_4 : mk_301_4.all (okE 12 prog_14_method_63_code) = true := by decide +kernel
set_option maxRecDepth 100000 in
theorem ck_301_5 : mk_301_5.all (okE 12 prog_14_method_63_code) = true := by decide +kernel
set_option maxRecDepth 100000 in
theorem ck_301 : mk_301.all (fun l => l.all (okE 12 prog_14_method_63_code)) = true := all_c ck_301_0 (all_c ck_301_1 (all_c ck_301_2 (all_c ck_301_3 (all_c ck_301_4 (all_c ck_301_5 (rfl))))))
set_option maxRecDepth 100000 in
theorem ck_302_0 : mk_302_0.all (okE 12 prog_14_method_69_code) = true := by decide +kernel
set_option maxRecDepth 100000 in
theorem ck_302_1 : mk_302_1.all (okE 12 prog_14_method_69_code) = true := by decide +kernel
set_option maxRecDepth 100000 in
theorem ck_302 : mk_302.all (fun l => l.all (okE 12 prog_14_method_69_code)) = true := all_c ck_302_0 (all_c ck_302_1 (rfl))
set_option maxRecDepth 100000 in
theorem ck_303_0 : mk_303_0.all (okE 12 prog_14_method_68_code) = true := by decide +kernel
set_option maxRecDepth 100000 in
theorem ck_303_1 : mk_303_1.all (okE 12 prog_14_method_68_code) = true := by decide +kernel
set_option maxRecDepth 100000 in
theorem ck_303 : mk_303.all (fun l => l.all (okE 12 prog_14_method_68_code)) = true := all_c ck_303_0 (all_c ck_303_1 (rfl))
set_option maxRecDepth 100000 in
theorem ck_304_0 : mk_304_0.all (okE 12 prog_14_method_67_code) = true := by decide +kernel
set_option maxRecDepth 100000 in
theorem ck_304_1 : mk_304_1.all (okE 12 prog_14_method_67_code) = true := by decide +kernel
set_option maxRecDepth 100000 in
theorem ck_304 : mk_304.all (fun l => l.all (okE 12 prog_14_method_67_code)) = true := all_c ck_304_0 (all_c ck_304_1 (rfl))
set_option maxRecDepth 100000 in
theorem ck_305_0 : mk_305_0.all (okE 12 prog_14_method_72_code) = true := by decide +kernel
set_option maxRecDepth 100000 in
theorem ck_305_1 : mk_305_1.all (okE 12 prog_14_method_72_code) = true := by decide +kernel
set_option maxRecDepth 100000 in
theorem ck_305_2 : mk_305_2.all (okE 12 prog_14_method_72_code) = true := by decide +kernel
set_option maxRecDepth 100000 in
theorem ck_305_3 : mk_305_3.all (okE 12 prog_14_method_72_code) = true := by decide +kernel
set_option maxRecDepth 100000 in
theorem ck_305_4 : mk_305_4.all (okE 12 prog_14_method_72_code) = true := by decide +kernel
set_option maxRecDepth 100000 in
theorem ck_305_5 : mk_305_5.all (okE 12 prog_14_method_72_code) = true := by decide +kernel
set_option maxRecDepth 100000 in
theorem ck_305 : mk_305.all (fun l => l.all (okE 12 prog_14_method_72_code)) = true := all_c ck_305_0 (all_c ck_305_1 (all_c ck_305_2 (all_c ck_305_3 (all_c ck_305_4 (all_c ck_305_5 (rfl))))))
set_option maxRecDepth 100000 in
theorem ck_306_0 : mk_306_0.all (okE 12 prog_14_method_74_code) = true := by decide +kernel
set_option maxRecDepth 100000 in
theorem ck_306_1 : mk_306_1.all (okE 12 prog_14_method_74_code) = true := by decide +kernel
set_option maxRecDepth 100000 in
theorem ck_306_2 : mk_306_2.all (okE 12 prog_14_method_74_code) = true := by decide +kernel
set_option maxRecDepth 100000 in
theorem ck_306_3 : mk_306_3.all (okE 12 prog_14_method_74_code) = true := by decide +kernel
set_option maxRecDepth 100000 in
theorem ck_306_4 : mk_306_4.all (okE 12 prog_14_method_74_code) = true := by decide +kernel
set_option maxRecDepth 100000 in
theorem ck_306_5 : mk_306_5.all (okE 12 prog_14_method_74_code) = true := by decide +kernel
set_option maxRecDepth 100000 in
theorem ck_306_6 : mk_306_6.all (okE 12 prog_14_method_74_code) = true := by decide +kernel
set_option maxRecDepth 100000 in
theorem ck_306 : mk_306.all (fun l => l.all (okE 12 prog_14_method_74_code)) = true := all_c ck_306_0 (all_c ck_306_1 (all_c ck_306_2 (all_c ck_306_3 (all_c ck_306_4 (all_c ck_306_5 (all_c ck_306_6 (rfl)))))))
set_option maxRecDepth 100000 in
theorem ck_307_0 : mk_307_0.all (okE 12 prog_14_method_73_code) = true := by decide +kernel
set_option maxRecDepth 100000 in
theorem ck_307_1 : mk_307_1.all (okE 12 prog_14_method_73_code) = true := by decide +kernel
set_option maxRecDepth 100000 in
theorem ck_307_2 : mk_307_2.all (okE 12 prog_14_method_73_code) = true := by decide +kernel
set_option maxRecDepth 100000 in
theorem ck_307_3 : mk_307_3.all (okE 12 prog_14_method_73_code) = true := by decide +kernel
set_option maxRecDepth 100000 in
theorem ck_307_4 : mk_307_4.all (okE 12 prog_14_method_73_code) = true := by decide +kernel
set_option maxRecDepth 100000 in
theorem ck_307 : mk_307.all (fun l => l.all (okE 12 prog_14_method_73_code)) = true := all_c ck_307_0 (all_c ck_307_1 (all_c ck_307_2 (all_c ck_307_3 (all_c ck_307_4 (rfl)))))
set_option maxRecDepth 100000 in
theorem ck_308_0 : mk_308_0.all (okE 12 prog_14_method_77_code) = true := by decide +kernel
set_option maxRecDepth 100000 in
theorem ck_308_1 : mk_308_1.all (okE 12 prog_14_method_77_code) = true := by decide +kernel
set_option maxRecDepth 100000 in
theorem ck_308_2 : mk_308_2.all (okE 12 prog_14_method_77_code) = true := by decide +kernel
set_option maxRecDepth 100000 in
theorem ck_308_3 : mk_308_3.all (okE 12 prog_14_method_77_code) = true := by decide +kernel
set_option maxRecDepth 100000 in
theorem ck_308 : mk_308.all (fun l => l.all (okE 12 prog_14_method_77_code)) = true := all_c ck_308_0 (all_c ck_308_1 (all_c ck_308_2 (all_c ck_308_3 (rfl))))
set_option maxRecDepth 100000 in
theorem ck_309_0 : mk_309_0.all (okE 12 prog_14_method_76_code) = true := by decide +kernel
set_option maxRecDepth 100000 in
theorem ck_309 : mk_309.all (fun l => l.all (okE 12 prog_14_method_76_code)) = true := all_c ck_309_0 (rfl)
set_option maxRecDepth 100000 in
theorem ck_310_0 : mk_310_0.all (okE 12 prog_14_method_79_code) = true := by decide +kernel
set_option maxRecDepth 100000 in
theorem ck_310_1 : mk_310_1.all (okE 12 prog_14_method_79_code) = true := by decide +kernel
set_option maxRecDepth 100000 in
theorem ck_310 : mk_310.all (fun l => l.all (okE 12 prog_14_method_79_code)) = true := all_c ck_310_0 (all_c ck_310_1 (rfl))
set_option maxRecDepth 100000 in
theorem ck_311_0 : mk_311_0.all (okE 12 prog_14_method_75_code) = true := by decide +kernel
set_option maxRecDepth 100000 in
theorem ck_311 : mk_311.all (fun l => l.all (okE 12 prog_14_method_75_code)) = true := all_c ck_311_0 (rfl)
set_option maxRecDepth 100000 in
theorem ck_312_0 : mk_312_0.all (okE 12 prog_14_method_83_code) = true := by decide +kernel
set_option maxRecDepth 100000 in
theorem ck_312 : mk_312.all (fun l => l.all (okE 12 prog_14_method_83_code)) = true := all_c ck_312_0 (rfl)
set_option maxRecDepth 100000 in
theorem ck_313_0 : mk_313_0.all (okE 12 prog_14_method_82_code) = true := by decide +kernel
set_option maxRecDepth 100000 in
theorem ck_313_1 : mk_313_1.all (okE 12 prog_14_method_82_code) = true := by decide +kernel
set_option maxRecDepth 100000 in
theorem ck_313_2 : mk_313_2.all (okE 12 prog_14_method_82_code) = true := by decide +kernel
set_option maxRecDepth 100000 in
theorem ck_313_3 : mk_313_3.all (okE 12 prog_14_method_82_code) = true := by decide +kernel
set_option maxRecDepth 100000 in
theorem ck_313_4 : mk_313_4.all (okE 12 prog_14_method_82_code) = true := by decide +kernel
set_option maxRecDepth 100000 in
theorem ck_313 : mk_313.all (fun l => l.all (okE 12 prog_14_method_82_code)) = true := all_c ck_313_0 (all_c ck_313_1 (all_c ck_313_2 (all_c ck_313_3 (all_c ck_313_4 (rfl)))))
set_option maxRecDepth 100000 in
theorem ck_314_0 : mk_314_0.all (okE 12 prog_14_method_78_code) = true := by decide +kernel
set_option maxRecDepth 100000 in
theorem ck_314 : mk_314.all (fun l => l.all (okE 12 prog_14_method_78_code)) = true := all_c ck_314_0 (rfl)
set_option maxRecDepth 100000 in
theorem ck_315_0 : mk_315_0.all (okE 12 prog_14_method_80_code) = true := by decide +kernel
set_option maxRecDepth 100000 in
theorem ck_315_1 : mk_315_1.all (okE 12 prog_14_method_80_code) = true := by decide +kernel
set_option maxRecDepth 100000 in
theorem ck_315 : mk_315.all (fun l => l.all (okE 12 prog_14_method_80_code)) = true := all_c ck_315_0 (all_c ck_315_1 (rfl))
set_option maxRecDepth 100000 in
theorem ck_316_0 : mk_316_0.all (okE 12 prog_14_method_85_code) = true := by decide +kernel
set_option maxRecDepth 100000 in
theorem ck_316 : mk_316.all (fun l => l.all (okE 12 prog_14_method_85_code)) = true := all_c ck_316_0 (rfl)
set_option maxRecDepth 100000 in
theorem ck_317_0 : mk_317_0.all (okE 12 prog_14_method_84_code) = true := by decide +kernel
set_option maxRecDepth 100000 in
theorem ck_317_1 : mk_317_1.all (okE 12 prog_14_method_84_code) = true := by decide +kernel
set_option maxRecDepth 100000 in
theorem ck_317_2 : mk_317_2.all (okE 12 prog_14_method_84_code) = true := by decide +kernel
set_option maxRecDepth 100000 in
theorem ck_317 : mk_317.all (fun l => l.all (okE 12 prog_14_method_84_code)) = true := all_c ck_317_0 (all_c ck_317_1 (all_c ck_317_2 (rfl)))
set_option maxRecDepth 100000 in
theorem ck_318_0 : mk_318_0.all (okE 12 prog_14_method_87_code) = true := by decide +kernel
set_option maxRecDepth 100000 in
theorem ck_318_1 : mk_318_1.all (okE 12 prog_14_method_87_code) = true := by decide +kernel
set_option maxRecDepth 100000 in
theorem ck_318 : mk_318.all (fun l => l.all (okE 12 prog_14_method_87_code)) = true := all_c ck_318_0 (all_c ck_318_1 (rfl))
set_option maxRecDepth 100000 in
theorem ck_319_0 : mk_319_0.all (okE 12 prog_14_method_86_code) = true := by decide +kernel
set_option maxRecDepth 100000 in
theorem ck_319 : mk_319.all (fun l => l.all (okE 12 prog_14_method_86_code)) = true := all_c ck_319_0 (rfl)
set_option maxRecDepth 100000 in
theorem ck_320_0 : mk_320_0.all (okE 12 prog_14_method_88_code) = true := by decide +kernel
set_option maxRecDepth 100000 in
theorem ck_320_1 : mk_320_1.all (okE 12 prog_14_method_88_code) = true := by decide +kernel
set_option maxRecDepth 100000 in
theorem ck_320 : mk_320.all (fun l => l.all (okE 12 prog_14_method_88_code)) = true := all_c ck_320_0 (all_c ck_320_1 (rfl))
set_option maxRecDepth 100000 in
theorem ck_321_0 : mk_321_0.all (okE 12 prog_14_method_89_code) = true := by decide +kernel
set_option maxRecDepth 100000 in
theorem ck_321_1 : mk_321_1.all (okE 12 prog_14_method_89_code) = true := by decide +kernel
set_option maxRecDepth 100000 in
theorem ck_321_2 : mk_321_2.all (okE 12 prog_14_method_89_code) = true := by decide +kernel
set_option maxRecDepth 100000 in
theorem ck_321 : mk_321.all (fun l => l.all (okE 12 prog_14_method_89_code)) = true := all_c ck_321_0 (all_c ck_321_1 (all_c ck_321_2 (rfl)))
set_option maxRecDepth 100000 in
theorem ck_322_0 : mk_322_0.all (okE 12 prog_14_method_90_code) = true := by decide +kernel
set_option maxRecDepth 100000 in
theorem ck_322_1 : mk_322_1.all (okE 12 prog_14_method_90_code) = true := by decide +kernel
set_option maxRecDepth 100000 in
theorem ck_322_2 : mk_322_2.all (okE 12 prog_14_method_90_code) = true := by decide +kernel
set_option maxRecDepth 100000 in
theorem ck_322_3 : mk_322_3.all (okE 12 prog_14_method_90_code) = true := by decide +kernel
set_option maxRecDepth 100000 in
theorem ck_322_4 : mk_322_4.all (okE 12 prog_14_method_90_code) = true := by decide +kernel
set_option maxRecDepth 100000 in
theorem ck_322 : mk_322.all (fun l => l.all (okE 12 prog_14_method_90_code)) = true := all_c ck_322_0 (all_c ck_322_1 (all_c ck_322_2 (all_c ck_322_3 (all_c ck_322_4 (rfl)))))
set_option maxRecDepth 100000 in
theorem ck_323_0 : mk_323_0.all (okE 12 prog_14_method_81_code) = true := by decide +kernel
set_option maxRecDepth 100000 in
theorem ck_323_1 : mk_323_1.all (okE 12 prog_14_method_81_code) = true := by decide +kernel
set_option maxRecDepth 100000 in
theorem ck_323_2 : mk_323_2.all (okE 12 prog_14_method_81_code) = true := by decide +kernel
set_option maxRecDepth 100000 in
theorem ck_323 : mk_323.all (fun l => l.all (okE 12 prog_14_method_81_code)) = true := all_c ck_323_0 (all_c ck_323_1 (all_c ck_323_2 (rfl)))
set_option maxRecDepth 100000 in
theorem ck_324_0 : mk_324_0.all (okE 12 prog_14_method_93_code) = true := by decide +kernel
set_option maxRecDepth 100000 in
theorem ck_324_1 : mk_324_1.all (okE 12 prog_14_method_93_code) = true := by decide +kernel
set_option maxRecDepth 100000 in
theorem ck_324_2 : mk_324_2.all (okE 12 prog_14_method_93_code) = true := by decide +kernel
set_option maxRecDepth 100000 in
theorem ck_324_3 : mk_324_3.all (okE 12 prog_14_method_93_code) = true := by decide +kernel
set_option maxRecDepth 100000 in
theorem ck_324_4 : mk_324_4.all (okE 12 prog_14_method_93_code) = true := by decide +kernel
set_option maxRecDepth 100000 in
theorem ck_324_5 : mk_324_5.all (okE 12 prog_14_method_93_code) = true := by decide +kernel
set_option maxRecDepth 100000 in
theorem ck_324_6 : mk_324_6.all (okE 12 prog_14_method_93_code) = true := by decide +kernel
set_option maxRecDepth 100000 in
theorem ck_324 : mk_324.all (fun l => l.all (okE 12 prog_14_method_93_code)) = true := all_c ck_324_0 (all_c ck_324_1 (all_c ck_324_2 (all_c ck_324_3 (all_c ck_324_4 (all_c ck_324_5 (all_c ck_324_6 (rfl)))))))
