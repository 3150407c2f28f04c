/-! the code tables hold, by the kernel -/
set_option maxRecDepth 100000 in
theorem ck_323_0 : mk_323_0.all (okE 12 prog_14_method_81_code) = true := all_okGb (k := 0) (by decide +kernel)
set_option maxRecDepth 100000 in
theorem ck_323_1 : mk_323_1.all (okE 12 prog_14_method_81_code) = true := all_okGb (k := 32) (by decide +kernel)
set_option maxRecDepth 100000 in
theorem ck_323_2 : mk_323_2.all (okE 12 prog_14_method_81_code) = true := all_okGb (k := 64) (by decide +kernel)
set_option maxRecDepth 100000 in
theorem ck_323 : mk_323.all (fun l => l.all (okE 12 prog_14_method_81_code)) = true := all_c ck_323_0 (all_c ck_323_1 (all_c ck_323_2 (rfl)))
set_option maxRecDepth 100000 in
theorem ck_324_0 : mk_324_0.all (okE 12 prog_14_method_93_code) = true := all_okGb (k := 0) (by decide +kernel)
set_option maxRecDepth 100000 in
theorem ck_324_1 : mk_324_1.all (okE 12 prog_14_method_93_code) = true := all_okGb (k := 32) (by decide +kernel)
set_option maxRecDepth 100000 in
theorem ck_324_2 : mk_324_2.all (okE 12 prog_14_method_93_code) = true := all_okGb (k := 64) (by decide +kernel)
set_option maxRecDepth 100000 in
theorem ck_324_3 : mk_324_3.all (okE 12 prog_14_method_93_code) = true := all_okGb (k := 96) (by decide +kernel)
set_option maxRecDepth 100000 in
theorem ck_324_4 : mk_324_4.all (okE 12 prog_14_method_93_code) = true := all_okGb (k := 128) (by decide +kernel)
set_option maxRecDepth 100000 in
theorem ck_324_5 : mk_324_5.all (okE 12 prog_14_method_93_code) = true := all_okGb (k := 160) (by decide +kernel)
set_option maxRecDepth 100000 in
theorem ck_324_6 : mk_324_6.all (okE 12 prog_14_method_93_code) = true := all_okGb (k := 192) (by decide +kernel)
set_option maxRecDepth 100000 in
theorem ck_324 : mk_324.all (fun l => l.all (okE 12 prog_14_method_93_code)) = true := all_c ck_324_0 (all_c ck_324_1 (all_c ck_324_2 (all_c ck_324_3 (all_c ck_324_4 (all_c ck_324_5 (all_c ck_324_6 (rfl)))))))
set_option maxRecDepth 100000 in
theorem ck_325_0 : mk_325_0.all (okE 12 prog_14_method_92_code) = true := all_okGb (k := 0) (by decide +kernel)
set_option maxRecDepth 100000 in
theorem ck_325_1 : mk_325_1.all (okE 12 prog_14_method_92_code) = true := all_okGb (k := 32) (by decide +kernel)
set_option maxRecDepth 100000 in
theorem ck_325_2 : mk_325_2.all (okE 12 prog_14_method_92_code) = true := all_okGb (k := 64) (by decide +kernel)
set_option maxRecDepth 100000 in
theorem ck_325_3 : mk_325_3.all (okE 12 prog_14_method_92_code) = true := all_okGb (k := 96) (by decide +kernel)
set_option maxRecDepth 100000 in
theorem ck_325_4 : mk_325_4.all (okE 12 prog_14_method_92_code) = true := all_okGb (k := 128) (by decide +kernel)
set_option maxRecDepth 100000 in
theorem ck_325_5 : mk_325_5.all (okE 12 prog_14_method_92_code) = true := all_okGb (k := 160) (by decide +kernel)
set_option maxRecDepth 100000 in
theorem ck_325_6 : mk_325_6.all (okE 12 prog_14_method_92_code) = true := all_okGb (k := 192) (by decide +kernel)
set_option maxRecDepth 100000 in
theorem ck_325_7 : mk_325_7.all (okE 12 prog_14_method_92_code) = true := all_okGb (k := 224) (by decide +kernel)
set_option maxRecDepth 100000 in
theorem ck_325 : mk_325.all (fun l => l.all (okE 12 prog_14_method_92_code)) = true := all_c ck_325_0 (all_c ck_325_1 (all_c ck_325_2 (all_c ck_325_3 (all_c ck_325_4 (all_c ck_325_5 (all_c ck_325_6 (all_c ck_325_7 (rfl))))))))
set_option maxRecDepth 100000 in
theorem ck_326_0 : mk_326_0.all (okE 12 prog_14_method_91_code) = true := all_okGb (k := 0) (by decide +kernel)
set_option maxRecDepth 100000 in
theorem ck_326_1 : mk_326_1.all (okE 12 prog_14_method_91_code) = true := all_okGb (k := 32) (by decide +kernel)
set_option maxRecDepth 100000 in
theorem ck_326_2 : mk_326_2.all (okE 12 prog_14_method_91_code) = true := all_okGb (k := 64) (by decide +kernel)
set_option maxRecDepth 100000 in
theorem ck_326 : mk_326.all (fun l => l.all (okE 12 prog_14_method_91_code)) = true := all_c ck_326_0 (all_c ck_326_1 (all_c ck_326_2 (rfl)))
set_option maxRecDepth 100000 in
theorem ck_327_0 : mk_327_0.all (okE 12 prog_14_method_94_code) = true := all_okGb (k := 0) (by decide +kernel)
set_option maxRecDepth 100000 in
theorem ck_327_1 : mk_327_1.all (okE 12 prog_14_method_94_code) = true := all_okGb (k := 32) (by decide +kernel)
set_option maxRecDepth 100000 in
theorem ck_327_2 : mk_327_2.all (okE 12 prog_14_method_94_code) = true := all_okGb (k := 64) (by decide +kernel)
set_option maxRecDepth 100000 in
theorem ck_327 : mk_327.all (fun l => l.all (okE 12 prog_14_method_94_code)) = true := all_c ck_327_0 (all_c ck_327_1 (all_c ck_327_2 (rfl)))
set_option maxRecDepth 100000 in
theorem ck_328_0 : mk_328_0.all (okE 12 prog_14_method_95_code) = true := all_okGb (k := 0) (by decide +kernel)
set_option maxRecDepth 100000 in
theorem ck_328_1 : mk_328_1.all (okE 12 prog_14_method_95_code) = true := all_okGb (k := 32) (by decide +kernel)
set_option maxRecDepth 100000 in
theorem ck_328_2 : mk_328_2.all (okE 12 prog_14_method_95_code) = true := all_okGb (k := 64) (by decide +kernel)
set_option maxRecDepth 100000 in
theorem ck_328 : mk_328.all (fun l => l.all (okE 12 prog_14_method_95_code)) = true := all_c ck_328_0 (all_c ck_328_1 (all_c ck_328_2 (rfl)))
set_option maxRecDepth 100000 in
theorem ck_329_0 : mk_329_0.all (okE 12 prog_14_method_98_code) = true := all_okGb (k := 0) (by decide +kernel)
set_option maxRecDepth 100000 in
theorem ck_329_1 : mk_329_1.all (okE 12 prog_14_method_98_code) = true := all_okGb (k := 32) (by decide +kernel)
set_option maxRecDepth 100000 in
theorem ck_329_2 : mk_329_2.all (okE 12 prog_14_method_98_code) = true := all_okGb (k := 64) (by decide +kernel)
set_option maxRecDepth 100000 in
theorem ck_329_3 : mk_329_3.all (okE 12 prog_14_method_98_code) = true := all_okGb (k := 96) (by decide +kernel)
set_option maxRecDepth 100000 in
theorem ck_329_4 : mk_329_4.all (okE 12 prog_14_method_98_code) = true := all_okGb (k := 128) (by decide +kernel)
set_option maxRecDepth 100000 in
theorem ck_329 : mk_329.all (fun l => l.all (okE 12 prog_14_method_98_code)) = true := all_c ck_329_0 (all_c ck_329_1 (all_c ck_329_2 (all_c ck_329_3 (all_c ck_329_4 (rfl)))))
set_option maxRecDepth 100000 in
theorem ck_330_0 : mk_330_0.all (okE 12 prog_14_method_97_code) = true := all_okGb (k := 0) (by decide +kernel)
set_option maxRecDepth 100000 in
theorem ck_330_1 : mk_330_1.all (okE 12 prog_14_method_97_code) = true := all_okGb (k := 32) (by decide +kernel)
set_option maxRecDepth 100000 in
theorem ck_330_2 : mk_330_2.all (okE 12 prog_14_method_97_code) = true := all_okGb (k := 64) (by decide +kernel)
set_option maxRecDepth 100000 in
theorem ck_330_3 : mk_330_3.all (okE 12 prog_14_method_97_code) = true := all_okGb (k := 96) (by decide +kernel)
set_option maxRecDepth 100000 in
theorem ck_330_4 : mk_330_4.all (okE 12 prog_14_method_97_code) = true := all_okGb (k := 128) (by decide +kernel)
set_option maxRecDepth 100000 in
theorem ck_330_5 : mk_330_5.all (okE 12 prog_14_method_97_code) = true := all_okGb (k := 160) (by decide +kernel)
set_option maxRecDepth 100000 in
theorem ck_330 : mk_330.all (fun l => l.all (okE 12 prog_14_method_97_code)) = true := all_c ck_330_0 (all_c ck_330_1 (all_c ck_330_2 (all_c ck_330_3 (all_c ck_330_4 (all_c ck_330_5 (rfl))))))
set_option maxRecDepth 100000 in
theorem ck_331_0 : mk_331_0.all (okE 12 prog_14_method_96_code) = true := all_okGb (k := 0) (by decide +kernel)
set_option maxRecDepth 100000 in
theorem ck_331_1 : mk_331_1.all (okE 12 prog_14_method_96_code) = true := all_okGb (k := 32) (by decide +kernel)
set_option maxRecDepth 100000 in
theorem ck_331_2 : mk_331_2.all (okE 12 prog_14_method_96_code) = true := all_okGb (k := 64) (by decide +kernel)
set_option maxRecDepth 100000 in
theorem ck_331 : mk_331.all (fun l => l.all (okE 12 prog_14_method_96_code)) = true := all_c ck_331_0 (all_c ck_331_1 (all_c ck_331_2 (rfl)))
set_option maxRecDepth 100000 in
theorem ck_332_0 : mk_332_0.all (okE 12 prog_14_method_99_code) = true := all_okGb (k := 0) (by decide +kernel)
set_option maxRecDepth 100000 in
theorem ck_332_1 : mk_332_1.all (okE 12 prog_14_method_99_code) = true := all_okGb (k := 32) (by decide +kernel)
set_option maxRecDepth 100000 in
theorem ck_332 : mk_332.all (fun l => l.all (okE 12 prog_14_method_99_code)) = true := all_c ck_332_0 (all_c ck_332_1 (rfl))
set_option maxRecDepth 100000 in
theorem ck_333_0 : mk_333_0.all (okE 12 prog_14_method_100_code) = true := all_okGb (k := 0) (by decide +kernel)
set_option maxRecDepth 100000 in
theorem ck_333_1 : mk_333_1.all (okE 12 prog_14_method_100_code) = true := all_okGb (k := 32) (by decide +kernel)
set_option maxRecDepth 100000 in
theorem ck_333_2 : mk_333_2.all (okE 12 prog_14_method_100_code) = true := all_okGb (k := 64) (by decide +kernel)
set_option maxRecDepth 100000 in
theorem ck_333_3 : mk_333_3.all (okE 12 prog_14_method_100_code) = true := all_okGb (k := 96) (by decide +kernel)
set_option maxRecDepth 100000 in
theorem ck_333_4 : mk_333_4.all (okE 12 prog_14_method_100_code) = true := all_okGb (k := 128) (by decide +kernel)
set_option maxRecDepth 100000 in
theorem ck_333_5 : mk_333_5.all (okE 12 prog_14_method_100_code) = true := all_okGb (k := 160) (by decide +kernel)
set_option maxRecDepth 100000 in
theorem ck_333_6 : mk_333_6.all (okE 12 prog_14_method_100_code) = true := all_okGb (k := 192) (by decide +kernel)
set_option maxRecDepth 100000 in
theorem ck_333 : mk_333.all (fun l => l.all (okE 12 prog_14_method_100_code)) = true := all_c ck_333_0 (all_c ck_333_1 (all_c ck_333_2 (all_c ck_333_3 (all_c ck_333_4 (all_c ck_333_5 (all_c ck_333_6 (rfl)))))))
set_option maxRecDepth 100000 in
theorem ck_334_0 : mk_334_0.all (okE 12 prog_14_method_103_code) = true := all_okGb (k := 0) (by decide +kernel)
set_option maxRecDepth 100000 in
theorem ck_334_1 : mk_334_1.all (okE 12 prog_14_method_103_code) = true := all_okGb (k := 32) (by decide +kernel)
set_option maxRecDepth 100000 in
theorem ck_334_2 : mk_334_2.all (okE 12 prog_14_method_103_code) = true := all_okGb (k := 64) (by decide +kernel)
set_option maxRecDepth 100000 in
theorem ck_334 : mk_334.all (fun l => l.all (okE 12 prog_14_method_103_code)) = true := all_c ck_334_0 (all_c ck_334_1 (all_c ck_334_2 (rfl)))
set_option maxRecDepth 100000 in
theorem ck_335_0 : mk_335_0.all (okE 12 prog_14_method_102_code) = true := all_okGb (k := 0) (by decide +kernel)
set_option maxRecDepth 100000 in
theorem ck_335_1 : mk_335_1.all (okE 12 prog_14_method_102_code) = true := all_okGb (k := 32) (by decide +kernel)
set_option maxRecDepth 100000 in
theorem ck_335_2 : mk_335_2.all (okE 12 prog_14_method_102_code) = true := all_okGb (k := 64) (by decide +kernel)
set_option maxRecDepth 100000 in
theorem ck_335_3 : mk_335_3.all (okE 12 prog_14_method_102_code) = true := all_okGb (k := 96) (by decide +kernel)
set_option maxRecDepth 100000 in
theorem ck_335_4 : mk_335_4.all (okE 12 prog_14_method_102_code) = true := all_okGb (k := 128) (by decide +kernel)
set_option maxRecDepth 100000 in
theorem ck_335_5 : mk_335_5.all (okE 12 prog_14_method_102_code) = true := all_okGb (k := 160) (by decide +kernel)
set_option maxRecDepth 100000 in
theorem ck_335_6 : mk_335_6.all (okE 12 prog_14_method_102_code) = true := all_okGb (k := 192) (by decide +kernel)
set_option maxRecDepth 100000 in
theorem ck_335_7 : mk_335_7.all (okE 12 prog_14_method_102_code) = true := all_okGb (k := 224) (by decide +kernel)
set_option maxRecDepth 100000 in
theorem ck_335_8 : mk_335_8.all (okE 12 prog_14_method_102_code) = true := all_okGb (k := 256) (by decide +kernel)
set_option maxRecDepth 100000 in
theorem ck_335_9 : mk_335_9.all (okE 12 prog_14_method_102_code) = true := all_okGb (k := 288) (by decide +kernel)
set_option maxRecDepth 100000 in
theorem ck_335 : mk_335.all (fun l => l.all (okE 12 prog_14_method_102_code)) = true := all_c ck_335_0 (all_c ck_335_1 (all_c ck_335_2 (all_c ck_335_3 (all_c ck_335_4 (all_c ck_335_5 (all_c ck_335_6 (all_c ck_335_7 (all_c ck_335_8 (all_c ck_335_9 (rfl))))))))))
set_option maxRecDepth 100000 in
theorem ck_336_0 : mk_336_0.all (okE 12 prog_14_method_101_code) = true := all_okGb (k := 0) (by decide +kernel)
set_option maxRecDepth 100000 in
theorem ck_336_1 : mk_336_1.all (okE 12 prog_14_method_101_code) = true := all_okGb (k := 32) (by decide +kernel)
set_option maxRecDepth 100000 in
theorem ck_336_2 : mk_336_2.all (okE 12 prog_14_method_101_code) = true := all_okGb (k := 64) (by decide +kernel)
set_option maxRecDepth 100000 in
theorem ck_336_3 : mk_336_3.all (okE 12 prog_14_method_101_code) = true := all_okGb (k := 96) (by decide +kernel)
set_option maxRecDepth 100000 in
theorem ck_336_4 : mk_336_4.all (okE 12 prog_14_method_101_code) = true := all_okGb (k := 128) (by decide +kernel)
set_option maxRecDepth 100000 in
theorem ck_336 : mk_336.all (fun l => l.all (okE 12 prog_14_method_101_code)) = true := all_c ck_336_0 (all_c ck_336_1 (all_c ck_336_2 (all_c ck_336_3 (all_c ck_336_4 (rfl)))))
set_option maxRecDepth 100000 in
theorem ck_337_0 : mk_337_0.all (okE 12 prog_14_method_104_code) = true := all_okGb (k := 0) (by decide +kernel)
set_option maxRecDepth 100000 in
theorem ck_337 : mk_337.all (fun l => l.all (okE 12 prog_14_method_104_code)) = true := all_c ck_337_0 (rfl)
set_option maxRecDepth 100000 in
theorem ck_338_0 : mk_338_0.all (okE 12 prog_14_method_105_code) = true := all_okGb (k := 0) (by decide +kernel)
set_option maxRecDepth 100000 in
theorem ck_338_1 : mk_338_1.all (okE 12 prog_14_method_105_code) = true := all_okGb (k := 32) (by decide +kernel)
set_option maxRecDepth 100000 in
theorem ck_338_2 : mk_338_2.all (okE 12 prog_14_method_105_code) = true := all_okGb (k := 64) (by decide +kernel)
set_option maxRecDepth 100000 in
theorem ck_338_3 : mk_338_3.all (okE 12 prog_14_method_105_code) = true := all_okGb (k := 96) (by decide +kernel)
set_option maxRecDepth 100000 in
theorem ck_338_4 : mk_338_4.all (okE 12 prog_14_method_105_code) = true := all_okGb (k := 128) (by decide +kernel)
set_option maxRecDepth 100000 in
theorem ck_338_5 : mk_338_5.all (okE 12 prog_14_method_105_code) = true := all_okGb (k := 160) (by decide +kernel)
set_option maxRecDepth 100000 in
theorem ck_338 : mk_338.all (fun l => l.all (okE 12 prog_14_method_105_code)) = true := all_c ck_338_0 (all_c ck_338_1 (all_c ck_338_2 (all_c ck_338_3 (all_c ck_338_4 (all_c ck_338_5 (rfl))))))
set_option maxRecDepth 100000 in
theorem ck_339_0 : mk_339_0.all (okE 12 prog_14_method_107_code) = true := all_okGb (k := 0) (by decide +kernel)
set_option maxRecDepth 100000 in
theorem ck_339_1 : mk_339_1.all (okE 12 prog_14_method_107_code) = true := all_okGb (k := 32) (by decide +kernel)
set_option maxRecDepth 100000 in
theorem ck_339 : mk_339.all (fun l => l.all (okE 12 prog_14_method_107_code)) = true := all_c ck_339_0 (all_c ck_339_1 (rfl))
set_option maxRecDepth 100000 in
theorem ck_340_0 : mk_340_0.all (okE 12 prog_14_method_106_code) = true := all_okGb (k := 0) (by decide +kernel)
set_option maxRecDepth 100000 in
theorem ck_340_1 : mk_340_1.all (okE 12 prog_14_method_106_code) = true := all_okGb (k := 32) (by decide +kernel)
set_option maxRecDepth 100000 in
theorem ck_340_2 : mk_340_2.all (okE 12 prog_14_method_106_code) = true := all_okGb (k := 64) (by decide +kernel)
set_option maxRecDepth 100000 in
theorem ck_340_3 : mk_340_3.all (okE 12 prog_14_method_106_code) = true := all_okGb (k := 96) (by decide +kernel)
set_option maxRecDepth 100000 in
theorem ck_340_4 : mk_340_4.all (okE 12 prog_14_method_106_code) = true := all_okGb (k := 128) (by decide +kernel)
set_option maxRecDepth 100000 in
theorem ck_340_5 : mk_340_5.all (okE 12 prog_14_method_106_code) = true := all_okGb (k := 160) (by decide +kernel)
set_option maxRecDepth 100000 in
theorem ck_340 : mk_340.all (fun l => l.all (okE 12 prog_14_method_106_code)) = true := all_c ck_340_0 (all_c ck_340_1 (all_c ck_340_2 (all_c ck_340_3 (all_c ck_340_4 (all_c ck_340_5 (rfl))))))
set_option maxRecDepth 100000 in
theorem ck_341_0 : mk_341_0.all (okE 12 prog_14_method_108_code) = true := all_okGb (k := 0) (by decide +kernel)
set_option maxRecDepth 100000 in
theorem ck_341 : mk_341.all (fun l => l.all (okE 12 prog_14_method_108_code)) = true := all_c ck_341_0 (rfl)
set_option maxRecDepth 100000 in
theorem ck_342_0 : mk_342_0.all (okE 12 prog_14_method_109_code) = true := all_okGb (k := 0) (by decide +kernel)
set_option maxRecDepth 100000 in
theorem ck_342_1 : mk_342_1.all (okE 12 prog_14_method_109_code) = true := all_okGb (k := 32) (by decide +kernel)
set_option maxRecDepth 100000 in
theorem ck_342 : mk_342.all (fun l => l.all (okE 12 prog_14_method_109_code)) = true := all_c ck_342_0 (all_c ck_342_1 (rfl))
set_option maxRecDepth 100000 in
theorem ck_343_0 : mk_343_0.all (okE 12 prog_14_method_110_code) = true := all_okGb (k := 0) (by decide +kernel)
set_option maxRecDepth 100000 in
theorem ck_343_1 : mk_343_1.all (okE 12 prog_14_method_110_code) = true := all_okGb (k := 32) (by decide +kernel)
set_option maxRecDepth 100000 in
theorem ck_343 : mk_343.all (fun l => l.all (okE 12 prog_14_method_110_code)) = true := all_c ck_343_0 (all_c ck_343_1 (rfl))
set_option maxRecDepth 100000 in
theorem ck_344_0 : mk_344_0.all (okE 12 prog_14_method_113_code) = true := all_okGb (k := 0) (by decide +kernel)
set_option maxRecDepth 100000 in
theorem ck_344_1 : mk_344_1.all (okE 12 prog_14_method_113_code) = true := all_okGb (k := 32) (by decide +kernel)
set_option maxRecDepth 100000 in
theorem ck_344_2 : mk_344_2.all (okE 12 prog_14_method_113_code) = true := all_okGb (k := 64) (by decide +kernel)
set_option maxRecDepth 100000 in
theorem ck_344_3 : mk_344_3.all (okE 12 prog_14_method_113_code) = true := all_okGb (k := 96) (by decide +kernel)
set_option maxRecDepth 100000 in
theorem ck_344_4 : mk_344_4.all (okE 12 prog_14_method_113_code) = true := all_okGb (k := 128) (by decide +kernel)
set_option maxRecDepth 100000 in
theorem ck_344_5 : mk_344_5.all (okE 12 prog_14_method_113_code) = true := all_okGb (k := 160) (by decide +kernel)
set_option maxRecDepth 100000 in
theorem ck_344_6 : mk_344_6.all (okE 12 prog_14_method_113_code) = true := all_okGb (k := 192) (by decide +kernel)
set_option maxRecDepth 100000 in
theorem ck_344 : mk_344.all (fun l => l.all (okE 12 prog_14_method_113_code)) = true := all_c ck_344_0 (all_c ck_344_1 (all_c ck_344_2 (all_c ck_344_3 (all_c ck_344_4 (all_c ck_344_5 (all_c ck_344_6 (rfl)))))))
set_option maxRecDepth 100000 in
theorem ck_345_0 : mk_345_0.all (okE 12 prog_14_method_112_code) = true := all_okGb (k := 0) (by decide +kernel)
set_option maxRecDepth 100000 in
theorem ck_345_1 : mk_345_1.all (okE 12 prog_14_method_112_code) = true := all_okGb (k := 32) (by decide +kernel)
set_option maxRecDepth 100000 in
theorem ck_345_2 : mk_345_2.all (okE 12 prog_14_method_112_code) = true := all_okGb (k := 64) (by decide +kernel)
set_option maxRecDepth 100000 in
theorem ck_345 : mk_345.all (fun l => l.all (okE 12 prog_14_method_112_code)) = true := all_c ck_345_0 (all_c ck_345_1 (all_c ck_345_2 (rfl)))
set_option maxRecDepth 100000 in
theorem ck_346_0 : mk_346_0.all (okE 12 prog_14_method_111_code) = true := all_okGb (k := 0) (by decide +kernel)
set_option maxRecDepth 100000 in
theorem ck_346 : mk_346.all (fun l => l.all (okE 12 prog_14_method_111_code)) = true := all_c ck_346_0 (rfl)
set_option maxRecDepth 100000 in
theorem ck_347_0 : mk_347_0.all (okE 12 prog_14_method_126_code) = true := all_okGb (k := 0) (by decide +kernel)
set_option maxRecDepth 100000 in
theorem ck_347_1 : mk_347_1.all (okE 12 prog_14_method_126_code) = true := all_okGb (k := 32) (by decide +kernel)
set_option maxRecDepth 100000 in
theorem ck_347_2 : mk_347_2.all (okE 12 prog_14_method_126_code) = true := all_okGb (k := 64) (by decide +kernel)
set_option maxRecDepth 100000 in
theorem ck_347 : mk_347.all (fun l => l.all (okE 12 prog_14_method_126_code)) = true := all_c ck_347_0 (all_c ck_347_1 (all_c ck_347_2 (rfl)))
set_option maxRecDepth 100000 in
theorem ck_348_0 : mk_348_0.all (okE 12 prog_14_method_117_code) = true := all_okGb (k := 0) (by decide +kernel)
set_option maxRecDepth 100000 in
theorem ck_348_1 : mk_348_1.all (okE 12 prog_14_method_117_code) = true := all_okGb (k := 32) (by decide +kernel)
set_option maxRecDepth 100000 in
theorem ck_348_2 : mk_348_2.all (okE 12 prog_14_method_117_code) = true := all_okGb (k := 64) (by decide +kernel)
set_option maxRecDepth 100000 in
theorem ck_348 : mk_348.all (fun l => l.all (okE 12 prog_14_method_117_code)) = true := all_c ck_348_0 (all_c ck_348_1 (all_c ck_348_2 (rfl)))
set_option maxRecDepth 100000 in
theorem ck_349_0 : mk_349_0.all (okE 12 prog_14_method_114_code) = true := all_okGb (k := 0) (by decide +kernel)
set_option maxRecDepth 100000 in
theorem ck_349 : mk_349.all (fun l => l.all (okE 12 prog_14_method_114_code)) = true := all_c ck_349_0 (rfl)
set_option maxRecDepth 100000 in
theorem ck_350_0 : mk_350_0.all (okE 12 prog_14_method_115_code) = true := all_okGb (k := 0) (by decide +kernel)
set_option maxRecDepth 100000 in
theorem ck_350_1 : mk_350_1.all (okE 12 prog_14_method_115_code) = true := all_okGb (k := 32) (by decide +kernel)
set_option maxRecDepth 100000 in
theorem ck_350 : mk_350.all (fun l => l.all (okE 12 prog_14_method_115_code)) = true := all_c ck_350_0 (all_c ck_350_1 (rfl))
set_option maxRecDepth 100000 in
theorem ck_351_0 : mk_351_0.all (okE 12 prog_14_method_116_code) = true := all_okGb (k := 0) (by decide +kernel)
set_option maxRecDepth 100000 in
theorem ck_351 : mk_351.all (fun l => l.all (okE 12 prog_14_method_116_code)) = true := all_c ck_351_0 (rfl)
set_option maxRecDepth 100000 in
theorem ck_352_0 : mk_352_0.all (okE 12 prog_14_method_120_code) = true := all_okGb (k := 0) (by decide +kernel)
set_option maxRecDepth 100000 in
theorem ck_352_1 : mk_352_1.all (okE 12 prog_14_method_120_code) = true := all_okGb (k := 32) (by decide +kernel)
set_option maxRecDepth 100000 in
theorem ck_352_2 : mk_352_2.all (okE 12 prog_14_method_120_code) = true := all_okGb (k := 64) (by decide +kernel)
set_option maxRecDepth 100000 in
theorem ck_352 : mk_352.all (fun l => l.all (okE 12 prog_14_method_120_code)) = true := all_c ck_352_0 (all_c ck_352_1 (all_c ck_352_2 (rfl)))
set_option maxRecDepth 100000 in
theorem ck_353_0 : mk_353_0.all (okE 12 prog_14_method_119_code) = true := all_okGb (k := 0) (by decide +kernel)
set_option maxRecDepth 100000 in
theorem ck_353 : mk_353.all (fun l => l.all (okE 12 prog_14_method_119_code)) = true := all_c ck_353_0 (rfl)
set_option maxRecDepth 100000 in
theorem ck_354_0 : mk_354_0.all (okE 12 prog_14_method_118_code) = true := all_okGb (k := 0) (by decide +kernel)
set_option maxRecDepth 100000 in
theorem ck_354 : mk_354.all (fun l => l.all (okE 12 prog_14_method_118_code)) = true := all_c ck_354_0 (rfl)
set_option maxRecDepth 100000 in
theorem ck_355_0 : mk_355_0.all (okE 12 prog_14_method_122_code) = true := all_okGb (k := 0) (by decide +kernel)
set_option maxRecDepth 100000 in
theorem ck_355 : mk_355.all (fun l => l.all (okE 12 prog_14_method_122_code)) = true := all_c ck_355_0 (rfl)
set_option maxRecDepth 100000 in
theorem ck_356_0 : mk_356_0.all (okE 12 prog_14_method_121_code) = true := all_okGb (k := 0) (by decide +kernel)
set_option maxRecDepth 100000 in
theorem ck_356 : mk_356.all (fun l => l.all (okE 12 prog_14_method_121_code)) = true := all_c ck_356_0 (rfl)
set_option maxRecDepth 100000 in
theorem ck_357_0 : mk_357_0.all (okE 12 prog_14_method_123_code) = true := all_okGb (k := 0) (by decide +kernel)
set_option maxRecDepth 100000 in
theorem ck_357_1 : mk_357_1.all (okE 12 prog_14_method_123_code) = true := all_okGb (k := 32) (by decide +kernel)
set_option maxRecDepth 100000 in
theorem ck_357 : mk_357.all (fun l => l.all (okE 12 prog_14_method_123_code)) = true := all_c ck_357_0 (all_c ck_357_1 (rfl))
set_option maxRecDepth 100000 in
theorem ck_358_0 : mk_358_0.all (okE 12 prog_14_method_125_code) = true := all_okGb (k := 0) (by decide +kernel)
set_option maxRecDepth 100000 in
theorem ck_358_1 : mk_358_1.all (okE 12 prog_14_method_125_code) = true := all_okGb (k := 32) (by decide +kernel)
set_option maxRecDepth 100000 in
theorem ck_358 : mk_358.all (fun l => l.all (okE 12 prog_14_method_125_code)) = true := all_c ck_358_0 (all_c ck_358_1 (rfl))
set_option maxRecDepth 100000 in
theorem ck_359_0 : mk_359_0.all (okE 12 prog_14_method_124_code) = true := all_okGb (k := 0) (by decide +kernel)
set_option maxRecDepth 100000 in
theorem ck_359 : mk_359.all (fun l => l.all (okE 12 prog_14_method_124_code)) = true := all_c ck_359_0 (rfl)
set_option maxRecDepth 100000 in
theorem ck_360_0 : mk_360_0.all (okE 12 prog_14_method_127_code) = true := all_okGb (k := 0) (by decide +kernel)
set_option maxRecDepth 100000 in
theorem ck_360 : mk_360.all (fun l => l.all (okE 12 prog_14_method_127_code)) = true := all_c ck_360_0 (rfl)
set_option maxRecDepth 100000 in
theorem ck_361_0 : mk_361_0.all (okE 12 prog_14_method_130_code) = true := all_okGb (k := 0) (by decide +kernel)
set_option maxRecDepth 100000 in
theorem ck_361 : mk_361.all (fun l => l.all (okE 12 prog_14_method_130_code)) = true := all_c ck_361_0 (rfl)
set_option maxRecDepth 100000 in
theorem ck_362_0 : mk_362_0.all (okE 12 prog_14_method_128_code) = true := all_okGb (k := 0) (by decide +kernel)
set_option maxRecDepth 100000 in
theorem ck_362 : mk_362.all (fun l => l.all (okE 12 prog_14_method_128_code)) = true := all_c ck_362_0 (rfl)
set_option maxRecDepth 100000 in
theorem ck_363_0 : mk_363_0.all (okE 12 prog_14_method_131_code) = true := all_okGb (k := 0) (by decide +kernel)
set_option maxRecDepth 100000 in
theorem ck_363_1 : mk_363_1.all (okE 12 prog_14_method_131_code) = true := all_okGb (k := 32) (by decide +kernel)
set_option maxRecDepth 100000 in
theorem ck_363_2 : mk_363_2.all (okE 12 prog_14_method_131_code) = true := all_okGb (k := 64) (by decide +kernel)
set_option maxRecDepth 100000 in
theorem ck_363 : mk_363.all (fun l => l.all (okE 12 prog_14_method_131_code)) = true := all_c ck_363_0 (all_c ck_363_1 (all_c ck_363_2 (rfl)))
set_option maxRecDepth 100000 in
theorem ck_364_0 : mk_364_0.all (okE 12 prog_14_method_133_code) = true := all_okGb (k := 0) (by decide +kernel)
set_option maxRecDepth 100000 in
theorem ck_364_1 : mk_364_1.all (okE 12 prog_14_method_133_code) = true := all_okGb (k := 32) (by decide +kernel)
set_option maxRecDepth 100000 in
theorem ck_364_2 : mk_364_2.all (okE 12 prog_14_method_133_code) = true := all_okGb (k := 64) (by decide +kernel)
set_option maxRecDepth 100000 in
theorem ck_364 : mk_364.all (fun l => l.all (okE 12 prog_14_method_133_code)) = true := all_c ck_364_0 (all_c ck_364_1 (all_c ck_364_2 (rfl)))
set_option maxRecDepth 100000 in
theorem ck_365_0 : mk_365_0.all (okE 12 prog_14_method_132_code) = true := all_okGb (k := 0) (by decide +kernel)
set_option maxRecDepth 100000 in
theorem ck_365_1 : mk_365_1.all (okE 12 prog_14_method_132_code) = true := all_okGb (k := 32) (by decide +kernel)
set_option maxRecDepth 100000 in
theorem ck_365 : mk_365.all (fun l => l.all (okE 12 prog_14_method_132_code)) = true := all_c ck_365_0 (all_c ck_365_1 (rfl))
set_option maxRecDepth 100000 in
theorem ck_366_0 : mk_366_0.all (okE 12 prog_14_method_134_code) = true := all_okGb (k := 0) (by decide +kernel)
set_option maxRecDepth 100000 in
theorem ck_366 : mk_366.all (fun l => l.all (okE 12 prog_14_method_134_code)) = true := all_c ck_366_0 (rfl)
set_option maxRecDepth 100000 in
theorem ck_367_0 : mk_367_0.all (okE 12 prog_14_method_135_code) = true := all_okGb (k := 0) (by decide +kernel)
set_option maxRecDepth 100000 in
theorem ck_367_1 : mk_367_1.all (okE 12 prog_14_method_135_code) = true := all_okGb (k := 32) (by decide +kernel)
set_option maxRecDepth 100000 in
theorem ck_367_2 : mk_367_2.all (okE 12 prog_14_method_135_code) = true := all_okGb (k := 64) (by decide +kernel)
set_option maxRecDepth 100000 in
theorem ck_367_3 : mk_367_3.all (okE 12 prog_14_method_135_code) = true := all_okGb (k := 96) (by decide +kernel)
set_option maxRecDepth 100000 in
theorem ck_367_4 : mk_367_4.all (okE 12 prog_14_method_135_code) = true := all_okGb (k := 128) (by decide +kernel)
set_option maxRecDepth 100000 in
theorem ck_367_5 : mk_367_5.all (okE 12 prog_14_method_135_code) = true := all_okGb (k := 160) (by decide +kernel)
set_option maxRecDepth 100000 in
theorem ck_367 : mk_367.all (fun l => l.all (okE 12 prog_14_method_135_code)) = true := all_c ck_367_0 (all_c ck_367_1 (all_c ck_367_2 (all_c ck_367_3 (all_c ck_367_4 (all_c ck_367_5 (rfl))))))
set_option maxRecDepth 100000 in
theorem ck_368_0 : mk_368_0.all (okE 12 prog_14_method_136_code) = true := all_okGb (k := 0) (by decide +kernel)
set_option maxRecDepth 100000 in
theorem ck_368_1 : mk_368_1.all (okE 12 prog_14_method_136_code) = true := all_okGb (k := 32) (by decide +kernel)
set_option maxRecDepth 100000 in
theorem ck_368_2 : mk_368_2.all (okE 12 prog_14_method_136_code) = true := all_okGb (k := 64) (by decide +kernel)
set_option maxRecDepth 100000 in
theorem ck_368 : mk_368.all (fun l => l.all (okE 12 prog_14_method_136_code)) = true := all_c ck_368_0 (all_c ck_368_1 (all_c ck_368_2 (rfl)))
set_option maxRecDepth 100000 in
theorem ck_369_0 : mk_369_0.all (okE 12 prog_14_method_137_code) = true := all_okGb (k := 0) (by decide +kernel)
set_option maxRecDepth 100000 in
theorem ck_369_1 : mk_369_1.all (okE 12 prog_14_method_137_code) = true := all_okGb (k := 32) (by decide +kernel)
set_option maxRecDepth 100000 in
theorem ck_369_2 : mk_369_2.all (okE 12 prog_14_method_137_code) = true := all_okGb (k := 64) (by decide +kernel)
set_option maxRecDepth 100000 in
theorem ck_369_3 : mk_369_3.all (okE 12 prog_14_method_137_code) = true := all_okGb (k := 96) (by decide +kernel)
set_option maxRecDepth 100000 in
theorem ck_369_4 : mk_369_4.all (okE 12 prog_14_method_137_code) = true := all_okGb (k := 128) (by decide +kernel)
set_option maxRecDepth 100000 in
theorem ck_369_5 : mk_369_5.all (okE 12 prog_14_method_137_code) = true := all_okGb (k := 160) (by decide +kernel)
set_option maxRecDepth 100000 in
theorem ck_369_6 : mk_369_6.all (okE 12 prog_14_method_137_code) = true := all_okGb (k := 192) (by decide +kernel)
set_option maxRecDepth 100000 in
theorem ck_369_7 : mk_369_7.all (okE 12 prog_14_method_137_code) = true := all_okGb (k := 224) (by decide +kernel)
set_option maxRecDepth 100000 in
theorem ck_369_8 : mk_369_8.all (okE 12 prog_14_method_137_code) = true := all_okGb (k := 256) (by decide +kernel)
set_option maxRecDepth 100000 in
theorem ck_369 : mk_369.all (fun l => l.all (okE 12 prog_14_method_137_code)) = true := all_c ck_369_0 (all_c ck_369_1 (all_c ck_369_2 (all_c ck_369_3 (all_c ck_369_4 (all_c ck_369_5 (all_c ck_369_6 (all_c ck_369_7 (all_c ck_369_8 (rfl)))))))))
set_option maxRecDepth 100000 in
theorem ck_370_0 : mk_370_0.all (okE 12 prog_14_method_138_code) = true := by decide +kernel
set_option maxRecDepth 100000 in
theorem ck_370_1 : mk_370_1.all (okE 12 prog_14_method_138_code) = true := all_okGb (k := 32) (by decide +kernel)
set_option maxRecDepth 100000 in
theorem ck_370_2 : mk_370_2.all (okE 12 prog_14_method_138_code) = true := all_okGb (k := 64) (by decide +kernel)
set_option maxRecDepth 100000 in
theorem ck_370_3 : mk_370_3.all (okE 12 prog_14_method_138_code) = true := all_okGb (k := 96) (by decide +kernel)
set_option maxRecDepth 100000 in
theorem ck_370_4 : mk_370_4.all (okE 12 prog_14_method_138_code) = true := all_okGb (k := 128) (by decide +kernel)
set_option maxRecDepth 100000 in
theorem ck_370_5 : mk_370_5.all (okE 12 prog_14_method_138_code) = true := all_okGb (k := 160) (by decide +kernel)
set_option maxRecDepth 100000 in
theorem ck_370_6 : mk_370_6.all (okE 12 prog_14_method_138_code) = true := all_okGb (k := 192) (by decide +kernel)
set_option maxRecDepth 100000 in
theorem ck_370 : mk_370.all (fun l => l.all (okE 12 prog_14_method_138_code)) = true := all_c ck_370_0 (all_c ck_370_1 (all_c ck_370_2 (all_c ck_370_3 (all_c ck_370_4 (all_c ck_370_5 (all_c ck_370_6 (rfl)))))))
