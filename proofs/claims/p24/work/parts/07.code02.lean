/-! the code tables hold, by the kernel -/
set_option maxRecDepth 100000 in
theorem ck_235_0 : mk_235_0.all (okE 12 prog_14_method_8_code) = true := all_okGb (k := 0) (by decide +kernel)
set_option maxRecDepth 100000 in
theorem ck_235_1 : mk_235_1.all (okE 12 prog_14_method_8_code) = true := all_okGb (k := 32) (by decide +kernel)
set_option maxRecDepth 100000 in
theorem ck_235_2 : mk_235_2.all (okE 12 prog_14_method_8_code) = true := all_okGb (k := 64) (by decide +kernel)
set_option maxRecDepth 100000 in
theorem ck_235_3 : mk_235_3.all (okE 12 prog_14_method_8_code) = true := all_okGb (k := 96) (by decide +kernel)
set_option maxRecDepth 100000 in
theorem ck_235 : mk_235.all (fun l => l.all (okE 12 prog_14_method_8_code)) = true := all_c ck_235_0 (all_c ck_235_1 (all_c ck_235_2 (all_c ck_235_3 (rfl))))
set_option maxRecDepth 100000 in
theorem ck_236_0 : mk_236_0.all (okE 12 prog_14_method_3_code) = true := all_okGb (k := 0) (by decide +kernel)
set_option maxRecDepth 100000 in
theorem ck_236 : mk_236.all (fun l => l.all (okE 12 prog_14_method_3_code)) = true := all_c ck_236_0 (rfl)
set_option maxRecDepth 100000 in
theorem ck_237_0 : mk_237_0.all (okE 12 prog_14_method_7_code) = true := all_okGb (k := 0) (by decide +kernel)
set_option maxRecDepth 100000 in
theorem ck_237_1 : mk_237_1.all (okE 12 prog_14_method_7_code) = true := all_okGb (k := 32) (by decide +kernel)
set_option maxRecDepth 100000 in
theorem ck_237_2 : mk_237_2.all (okE 12 prog_14_method_7_code) = true := all_okGb (k := 64) (by decide +kernel)
set_option maxRecDepth 100000 in
theorem ck_237_3 : mk_237_3.all (okE 12 prog_14_method_7_code) = true := all_okGb (k := 96) (by decide +kernel)
set_option maxRecDepth 100000 in
theorem ck_237_4 : mk_237_4.all (okE 12 prog_14_method_7_code) = true := all_okGb (k := 128) (by decide +kernel)
set_option maxRecDepth 100000 in
theorem ck_237_5 : mk_237_5.all (okE 12 prog_14_method_7_code) = true := all_okGb (k := 160) (by decide +kernel)
set_option maxRecDepth 100000 in
theorem ck_237 : mk_237.all (fun l => l.all (okE 12 prog_14_method_7_code)) = true := all_c ck_237_0 (all_c ck_237_1 (all_c ck_237_2 (all_c ck_237_3 (all_c ck_237_4 (all_c ck_237_5 (rfl))))))
set_option maxRecDepth 100000 in
theorem ck_238_0 : mk_238_0.all (okE 12 prog_14_method_6_code) = true := all_okGb (k := 0) (by decide +kernel)
set_option maxRecDepth 100000 in
theorem ck_238 : mk_238.all (fun l => l.all (okE 12 prog_14_method_6_code)) = true := all_c ck_238_0 (rfl)
set_option maxRecDepth 100000 in
theorem ck_239_0 : mk_239_0.all (okE 12 prog_14_method_9_code) = true := all_okGb (k := 0) (by decide +kernel)
set_option maxRecDepth 100000 in
theorem ck_239_1 : mk_239_1.all (okE 12 prog_14_method_9_code) = true := all_okGb (k := 32) (by decide +kernel)
set_option maxRecDepth 100000 in
theorem ck_239_2 : mk_239_2.all (okE 12 prog_14_method_9_code) = true := all_okGb (k := 64) (by decide +kernel)
set_option maxRecDepth 100000 in
theorem ck_239_3 : mk_239_3.all (okE 12 prog_14_method_9_code) = true := all_okGb (k := 96) (by decide +kernel)
set_option maxRecDepth 100000 in
theorem ck_239_4 : mk_239_4.all (okE 12 prog_14_method_9_code) = true := all_okGb (k := 128) (by decide +kernel)
set_option maxRecDepth 100000 in
theorem ck_239 : mk_239.all (fun l => l.all (okE 12 prog_14_method_9_code)) = true := all_c ck_239_0 (all_c ck_239_1 (all_c ck_239_2 (all_c ck_239_3 (all_c ck_239_4 (rfl)))))
set_option maxRecDepth 100000 in
theorem ck_240_0 : mk_240_0.all (okE 12 prog_14_method_5_code) = true := all_okGb (k := 0) (by decide +kernel)
set_option maxRecDepth 100000 in
theorem ck_240 : mk_240.all (fun l => l.all (okE 12 prog_14_method_5_code)) = true := all_c ck_240_0 (rfl)
set_option maxRecDepth 100000 in
theorem ck_241_0 : mk_241_0.all (okE 12 prog_14_method_10_code) = true := all_okGb (k := 0) (by decide +kernel)
set_option maxRecDepth 100000 in
theorem ck_241_1 : mk_241_1.all (okE 12 prog_14_method_10_code) = true := all_okGb (k := 32) (by decide +kernel)
set_option maxRecDepth 100000 in
theorem ck_241 : mk_241.all (fun l => l.all (okE 12 prog_14_method_10_code)) = true := all_c ck_241_0 (all_c ck_241_1 (rfl))
set_option maxRecDepth 100000 in
theorem ck_242_0 : mk_242_0.all (okE 12 prog_14_method_16_code) = true := all_okGb (k := 0) (by decide +kernel)
set_option maxRecDepth 100000 in
theorem ck_242_1 : mk_242_1.all (okE 12 prog_14_method_16_code) = true := all_okGb (k := 32) (by decide +kernel)
set_option maxRecDepth 100000 in
theorem ck_242 : mk_242.all (fun l => l.all (okE 12 prog_14_method_16_code)) = true := all_c ck_242_0 (all_c ck_242_1 (rfl))
set_option maxRecDepth 100000 in
theorem ck_243_0 : mk_243_0.all (okE 12 prog_14_method_15_code) = true := all_okGb (k := 0) (by decide +kernel)
set_option maxRecDepth 100000 in
theorem ck_243_1 : mk_243_1.all (okE 12 prog_14_method_15_code) = true := all_okGb (k := 32) (by decide +kernel)
set_option maxRecDepth 100000 in
theorem ck_243 : mk_243.all (fun l => l.all (okE 12 prog_14_method_15_code)) = true := all_c ck_243_0 (all_c ck_243_1 (rfl))
set_option maxRecDepth 100000 in
theorem ck_244_0 : mk_244_0.all (okE 12 prog_14_method_19_code) = true := all_okGb (k := 0) (by decide +kernel)
set_option maxRecDepth 100000 in
theorem ck_244_1 : mk_244_1.all (okE 12 prog_14_method_19_code) = true := all_okGb (k := 32) (by decide +kernel)
set_option maxRecDepth 100000 in
theorem ck_244_2 : mk_244_2.all (okE 12 prog_14_method_19_code) = true := all_okGb (k := 64) (by decide +kernel)
set_option maxRecDepth 100000 in
theorem ck_244_3 : mk_244_3.all (okE 12 prog_14_method_19_code) = true := all_okGb (k := 96) (by decide +kernel)
set_option maxRecDepth 100000 in
theorem ck_244 : mk_244.all (fun l => l.all (okE 12 prog_14_method_19_code)) = true := all_c ck_244_0 (all_c ck_244_1 (all_c ck_244_2 (all_c ck_244_3 (rfl))))
set_option maxRecDepth 100000 in
theorem ck_245_0 : mk_245_0.all (okE 12 prog_14_method_14_code) = true := all_okGb (k := 0) (by decide +kernel)
set_option maxRecDepth 100000 in
theorem ck_245 : mk_245.all (fun l => l.all (okE 12 prog_14_method_14_code)) = true := all_c ck_245_0 (rfl)
set_option maxRecDepth 100000 in
theorem ck_246_0 : mk_246_0.all (okE 12 prog_14_method_11_code) = true := all_okGb (k := 0) (by decide +kernel)
set_option maxRecDepth 100000 in
theorem ck_246 : mk_246.all (fun l => l.all (okE 12 prog_14_method_11_code)) = true := all_c ck_246_0 (rfl)
set_option maxRecDepth 100000 in
theorem ck_247_0 : mk_247_0.all (okE 12 prog_14_method_13_code) = true := all_okGb (k := 0) (by decide +kernel)
set_option maxRecDepth 100000 in
theorem ck_247_1 : mk_247_1.all (okE 12 prog_14_method_13_code) = true := all_okGb (k := 32) (by decide +kernel)
set_option maxRecDepth 100000 in
theorem ck_247_2 : mk_247_2.all (okE 12 prog_14_method_13_code) = true := all_okGb (k := 64) (by decide +kernel)
set_option maxRecDepth 100000 in
theorem ck_247 : mk_247.all (fun l => l.all (okE 12 prog_14_method_13_code)) = true := all_c ck_247_0 (all_c ck_247_1 (all_c ck_247_2 (rfl)))
set_option maxRecDepth 100000 in
theorem ck_248_0 : mk_248_0.all (okE 12 prog_14_method_18_code) = true := all_okGb (k := 0) (by decide +kernel)
set_option maxRecDepth 100000 in
theorem ck_248_1 : mk_248_1.all (okE 12 prog_14_method_18_code) = true := all_okGb (k := 32) (by decide +kernel)
set_option maxRecDepth 100000 in
theorem ck_248_2 : mk_248_2.all (okE 12 prog_14_method_18_code) = true := all_okGb (k := 64) (by decide +kernel)
set_option maxRecDepth 100000 in
theorem ck_248_3 : mk_248_3.all (okE 12 prog_14_method_18_code) = true := all_okGb (k := 96) (by decide +kernel)
set_option maxRecDepth 100000 in
theorem ck_248 : mk_248.all (fun l => l.all (okE 12 prog_14_method_18_code)) = true := all_c ck_248_0 (all_c ck_248_1 (all_c ck_248_2 (all_c ck_248_3 (rfl))))
set_option maxRecDepth 100000 in
theorem ck_249_0 : mk_249_0.all (okE 12 prog_14_method_17_code) = true := all_okGb (k := 0) (by decide +kernel)
set_option maxRecDepth 100000 in
theorem ck_249 : mk_249.all (fun l => l.all (okE 12 prog_14_method_17_code)) = true := all_c ck_249_0 (rfl)
set_option maxRecDepth 100000 in
theorem ck_250_0 : mk_250_0.all (okE 12 prog_14_method_20_code) = true := all_okGb (k := 0) (by decide +kernel)
set_option maxRecDepth 100000 in
theorem ck_250_1 : mk_250_1.all (okE 12 prog_14_method_20_code) = true := all_okGb (k := 32) (by decide +kernel)
set_option maxRecDepth 100000 in
theorem ck_250 : mk_250.all (fun l => l.all (okE 12 prog_14_method_20_code)) = true := all_c ck_250_0 (all_c ck_250_1 (rfl))
set_option maxRecDepth 100000 in
theorem ck_251_0 : mk_251_0.all (okE 12 prog_14_method_12_code) = true := all_okGb (k := 0) (by decide +kernel)
set_option maxRecDepth 100000 in
theorem ck_251_1 : mk_251_1.all (okE 12 prog_14_method_12_code) = true := all_okGb (k := 32) (by decide +kernel)
set_option maxRecDepth 100000 in
theorem ck_251 : mk_251.all (fun l => l.all (okE 12 prog_14_method_12_code)) = true := all_c ck_251_0 (all_c ck_251_1 (rfl))
set_option maxRecDepth 100000 in
theorem ck_252_0 : mk_252_0.all (okE 12 prog_14_method_21_code) = true := all_okGb (k := 0) (by decide +kernel)
set_option maxRecDepth 100000 in
theorem ck_252_1 : mk_252_1.all (okE 12 prog_14_method_21_code) = true := all_okGb (k := 32) (by decide +kernel)
set_option maxRecDepth 100000 in
theorem ck_252 : mk_252.all (fun l => l.all (okE 12 prog_14_method_21_code)) = true := all_c ck_252_0 (all_c ck_252_1 (rfl))
set_option maxRecDepth 100000 in
theorem ck_253_0 : mk_253_0.all (okE 12 prog_14_method_23_code) = true := all_okGb (k := 0) (by decide +kernel)
set_option maxRecDepth 100000 in
theorem ck_253_1 : mk_253_1.all (okE 12 prog_14_method_23_code) = true := all_okGb (k := 32) (by decide +kernel)
set_option maxRecDepth 100000 in
theorem ck_253_2 : mk_253_2.all (okE 12 prog_14_method_23_code) = true := all_okGb (k := 64) (by decide +kernel)
set_option maxRecDepth 100000 in
theorem ck_253 : mk_253.all (fun l => l.all (okE 12 prog_14_method_23_code)) = true := all_c ck_253_0 (all_c ck_253_1 (all_c ck_253_2 (rfl)))
set_option maxRecDepth 100000 in
theorem ck_254_0 : mk_254_0.all (okE 12 prog_14_method_22_code) = true := all_okGb (k := 0) (by decide +kernel)
set_option maxRecDepth 100000 in
theorem ck_254 : mk_254.all (fun l => l.all (okE 12 prog_14_method_22_code)) = true := all_c ck_254_0 (rfl)
set_option maxRecDepth 100000 in
theorem ck_255_0 : mk_255_0.all (okE 12 prog_14_method_24_code) = true := all_okGb (k := 0) (by decide +kernel)
set_option maxRecDepth 100000 in
theorem ck_255_1 : mk_255_1.all (okE 12 prog_14_method_24_code) = true := all_okGb (k := 32) (by decide +kernel)
set_option maxRecDepth 100000 in
theorem ck_255 : mk_255.all (fun l => l.all (okE 12 prog_14_method_24_code)) = true := all_c ck_255_0 (all_c ck_255_1 (rfl))
set_option maxRecDepth 100000 in
theorem ck_256_0 : mk_256_0.all (okE 12 prog_14_method_25_code) = true := all_okGb (k := 0) (by decide +kernel)
set_option maxRecDepth 100000 in
theorem ck_256_1 : mk_256_1.all (okE 12 prog_14_method_25_code) = true := by decide +kernel
set_option maxRecDepth 100000 in
theorem ck_256_2 : mk_256_2.all (okE 12 prog_14_method_25_code) = true := all_okGb (k := 64) (by decide +kernel)
set_option maxRecDepth 100000 in
theorem ck_256_3 : mk_256_3.all (okE 12 prog_14_method_25_code) = true := all_okGb (k := 96) (by decide +kernel)
set_option maxRecDepth 100000 in
theorem ck_256_4 : mk_256_4.all (okE 12 prog_14_method_25_code) = true := all_okGb (k := 128) (by decide +kernel)
set_option maxRecDepth 100000 in
theorem ck_256_5 : mk_256_5.all (okE 12 prog_14_method_25_code) = true := all_okGb (k := 160) (by decide +kernel)
set_option maxRecDepth 100000 in
theorem ck_256_6 : mk_256_6.all (okE 12 prog_14_method_25_code) = true := all_okGb (k := 192) (by decide +kernel)
set_option maxRecDepth 100000 in
theorem ck_256_7 : mk_256_7.all (okE 12 prog_14_method_25_code) = true := all_okGb (k := 224) (by decide +kernel)
set_option maxRecDepth 100000 in
theorem ck_256 : mk_256.all (fun l => l.all (okE 12 prog_14_method_25_code)) = true := all_c ck_256_0 (all_c ck_256_1 (all_c ck_256_2 (all_c ck_256_3 (all_c ck_256_4 (all_c ck_256_5 (all_c ck_256_6 (all_c ck_256_7 (rfl))))))))
set_option maxRecDepth 100000 in
theorem ck_257_0 : mk_257_0.all (okE 12 prog_14_method_26_code) = true := all_okGb (k := 0) (by decide +kernel)
set_option maxRecDepth 100000 in
theorem ck_257_1 : mk_257_1.all (okE 12 prog_14_method_26_code) = true := all_okGb (k := 32) (by decide +kernel)
set_option maxRecDepth 100000 in
theorem ck_257 : mk_257.all (fun l => l.all (okE 12 prog_14_method_26_code)) = true := all_c ck_257_0 (all_c ck_257_1 (rfl))
set_option maxRecDepth 100000 in
theorem ck_258_0 : mk_258_0.all (okE 12 prog_14_method_27_code) = true := all_okGb (k := 0) (by decide +kernel)
set_option maxRecDepth 100000 in
theorem ck_258_1 : mk_258_1.all (okE 12 prog_14_method_27_code) = true := all_okGb (k := 32) (by decide +kernel)
set_option maxRecDepth 100000 in
theorem ck_258_2 : mk_258_2.all (okE 12 prog_14_method_27_code) = true := all_okGb (k := 64) (by decide +kernel)
set_option maxRecDepth 100000 in
theorem ck_258 : mk_258.all (fun l => l.all (okE 12 prog_14_method_27_code)) = true := all_c ck_258_0 (all_c ck_258_1 (all_c ck_258_2 (rfl)))
set_option maxRecDepth 100000 in
theorem ck_259_0 : mk_259_0.all (okE 12 prog_14_method_29_code) = true := all_okGb (k := 0) (by decide +kernel)
set_option maxRecDepth 100000 in
theorem ck_259_1 : mk_259_1.all (okE 12 prog_14_method_29_code) = true := all_okGb (k := 32) (by decide +kernel)
set_option maxRecDepth 100000 in
theorem ck_259_2 : mk_259_2.all (okE 12 prog_14_method_29_code) = true := all_okGb (k := 64) (by decide +kernel)
set_option maxRecDepth 100000 in
theorem ck_259 : mk_259.all (fun l => l.all (okE 12 prog_14_method_29_code)) = true := all_c ck_259_0 (all_c ck_259_1 (all_c ck_259_2 (rfl)))
set_option maxRecDepth 100000 in
theorem ck_260_0 : mk_260_0.all (okE 12 prog_14_method_28_code) = true := all_okGb (k := 0) (by decide +kernel)
set_option maxRecDepth 100000 in
theorem ck_260_1 : mk_260_1.all (okE 12 prog_14_method_28_code) = true := all_okGb (k := 32) (by decide +kernel)
set_option maxRecDepth 100000 in
theorem ck_260_2 : mk_260_2.all (okE 12 prog_14_method_28_code) = true := all_okGb (k := 64) (by decide +kernel)
set_option maxRecDepth 100000 in
theorem ck_260 : mk_260.all (fun l => l.all (okE 12 prog_14_method_28_code)) = true := all_c ck_260_0 (all_c ck_260_1 (all_c ck_260_2 (rfl)))
set_option maxRecDepth 100000 in
theorem ck_261_0 : mk_261_0.all (okE 12 prog_14_method_30_code) = true := all_okGb (k := 0) (by decide +kernel)
set_option maxRecDepth 100000 in
theorem ck_261_1 : mk_261_1.all (okE 12 prog_14_method_30_code) = true := all_okGb (k := 32) (by decide +kernel)
set_option maxRecDepth 100000 in
theorem ck_261 : mk_261.all (fun l => l.all (okE 12 prog_14_method_30_code)) = true := all_c ck_261_0 (all_c ck_261_1 (rfl))
set_option maxRecDepth 100000 in
theorem ck_262_0 : mk_262_0.all (okE 12 prog_14_method_35_code) = true := all_okGb (k := 0) (by decide +kernel)
set_option maxRecDepth 100000 in
theorem ck_262_1 : mk_262_1.all (okE 12 prog_14_method_35_code) = true := all_okGb (k := 32) (by decide +kernel)
set_option maxRecDepth 100000 in
theorem ck_262_2 : mk_262_2.all (okE 12 prog_14_method_35_code) = true := all_okGb (k := 64) (by decide +kernel)
set_option maxRecDepth 100000 in
theorem ck_262 : mk_262.all (fun l => l.all (okE 12 prog_14_method_35_code)) = true := all_c ck_262_0 (all_c ck_262_1 (all_c ck_262_2 (rfl)))
set_option maxRecDepth 100000 in
theorem ck_263_0 : mk_263_0.all (okE 12 prog_14_method_4_code) = true := all_okGb (k := 0) (by decide +kernel)
set_option maxRecDepth 100000 in
theorem ck_263 : mk_263.all (fun l => l.all (okE 12 prog_14_method_4_code)) = true := all_c ck_263_0 (rfl)
set_option maxRecDepth 100000 in
theorem ck_264_0 : mk_264_0.all (okE 12 prog_14_method_34_code) = true := all_okGb (k := 0) (by decide +kernel)
set_option maxRecDepth 100000 in
theorem ck_264_1 : mk_264_1.all (okE 12 prog_14_method_34_code) = true := all_okGb (k := 32) (by decide +kernel)
set_option maxRecDepth 100000 in
theorem ck_264_2 : mk_264_2.all (okE 12 prog_14_method_34_code) = true := all_okGb (k := 64) (by decide +kernel)
set_option maxRecDepth 100000 in
theorem ck_264_3 : mk_264_3.all (okE 12 prog_14_method_34_code) = true := all_okGb (k := 96) (by decide +kernel)
set_option maxRecDepth 100000 in
theorem ck_264 : mk_264.all (fun l => l.all (okE 12 prog_14_method_34_code)) = true := all_c ck_264_0 (all_c ck_264_1 (all_c ck_264_2 (all_c ck_264_3 (rfl))))
set_option maxRecDepth 100000 in
theorem ck_265_0 : mk_265_0.all (okE 12 prog_14_method_33_code) = true := all_okGb (k := 0) (by decide +kernel)
set_option maxRecDepth 100000 in
theorem ck_265_1 : mk_265_1.all (okE 12 prog_14_method_33_code) = true := all_okGb (k := 32) (by decide +kernel)
set_option maxRecDepth 100000 in
theorem ck_265_2 : mk_265_2.all (okE 12 prog_14_method_33_code) = true := all_okGb (k := 64) (by decide +kernel)
set_option maxRecDepth 100000 in
theorem ck_265 : mk_265.all (fun l => l.all (okE 12 prog_14_method_33_code)) = true := all_c ck_265_0 (all_c ck_265_1 (all_c ck_265_2 (rfl)))
set_option maxRecDepth 100000 in
theorem ck_266_0 : mk_266_0.all (okE 12 prog_14_method_31_code) = true := all_okGb (k := 0) (by decide +kernel)
set_option maxRecDepth 100000 in
theorem ck_266_1 : mk_266_1.all (okE 12 prog_14_method_31_code) = true := all_okGb (k := 32) (by decide +kernel)
set_option maxRecDepth 100000 in
theorem ck_266 : mk_266.all (fun l => l.all (okE 12 prog_14_method_31_code)) = true := all_c ck_266_0 (all_c ck_266_1 (rfl))
set_option maxRecDepth 100000 in
theorem ck_267_0 : mk_267_0.all (okE 12 prog_14_method_32_code) = true := all_okGb (k := 0) (by decide +kernel)
set_option maxRecDepth 100000 in
theorem ck_267_1 : mk_267_1.all (okE 12 prog_14_method_32_code) = true := all_okGb (k := 32) (by decide +kernel)
set_option maxRecDepth 100000 in
theorem ck_267_2 : mk_267_2.all (okE 12 prog_14_method_32_code) = true := all_okGb (k := 64) (by decide +kernel)
set_option maxRecDepth 100000 in
theorem ck_267 : mk_267.all (fun l => l.all (okE 12 prog_14_method_32_code)) = true := all_c ck_267_0 (all_c ck_267_1 (all_c ck_267_2 (rfl)))
set_option maxRecDepth 100000 in
theorem ck_268_0 : mk_268_0.all (okE 12 prog_14_method_36_code) = true := all_okGb (k := 0) (by decide +kernel)
set_option maxRecDepth 100000 in
theorem ck_268_1 : mk_268_1.all (okE 12 prog_14_method_36_code) = true := all_okGb (k := 32) (by decide +kernel)
set_option maxRecDepth 100000 in
theorem ck_268_2 : mk_268_2.all (okE 12 prog_14_method_36_code) = true := all_okGb (k := 64) (by decide +kernel)
set_option maxRecDepth 100000 in
theorem ck_268_3 : mk_268_3.all (okE 12 prog_14_method_36_code) = true := all_okGb (k := 96) (by decide +kernel)
set_option maxRecDepth 100000 in
theorem ck_268_4 : mk_268_4.all (okE 12 prog_14_method_36_code) = true := all_okGb (k := 128) (by decide +kernel)
set_option maxRecDepth 100000 in
theorem ck_268_5 : mk_268_5.all (okE 12 prog_14_method_36_code) = true := all_okGb (k := 160) (by decide +kernel)
set_option maxRecDepth 100000 in
theorem ck_268 : mk_268.all (fun l => l.all (okE 12 prog_14_method_36_code)) = true := all_c ck_268_0 (all_c ck_268_1 (all_c ck_268_2 (all_c ck_268_3 (all_c ck_268_4 (all_c ck_268_5 (rfl))))))
set_option maxRecDepth 100000 in
theorem ck_269_0 : mk_269_0.all (okE 12 prog_14_method_37_code) = true := all_okGb (k := 0) (by decide +kernel)
set_option maxRecDepth 100000 in
theorem ck_269 : mk_269.all (fun l => l.all (okE 12 prog_14_method_37_code)) = true := all_c ck_269_0 (rfl)
set_option maxRecDepth 100000 in
theorem ck_270_0 : mk_270_0.all (okE 12 prog_14_method_40_code) = true := all_okGb (k := 0) (by decide +kernel)
set_option maxRecDepth 100000 in
theorem ck_270_1 : mk_270_1.all (okE 12 prog_14_method_40_code) = true := all_okGb (k := 32) (by decide +kernel)
set_option maxRecDepth 100000 in
theorem ck_270_2 : mk_270_2.all (okE 12 prog_14_method_40_code) = true := all_okGb (k := 64) (by decide +kernel)
set_option maxRecDepth 100000 in
theorem ck_270_3 : mk_270_3.all (okE 12 prog_14_method_40_code) = true := all_okGb (k := 96) (by decide +kernel)
set_option maxRecDepth 100000 in
theorem ck_270_4 : mk_270_4.all (okE 12 prog_14_method_40_code) = true := all_okGb (k := 128) (by decide +kernel)
set_option maxRecDepth 100000 in
theorem ck_270_5 : mk_270_5.all (okE 12 prog_14_method_40_code) = true := all_okGb (k := 160) (by decide +kernel)
set_option maxRecDepth 100000 in
theorem ck_270_6 : mk_270_6.all (okE 12 prog_14_method_40_code) = true := all_okGb (k := 192) (by decide +kernel)
set_option maxRecDepth 100000 in
theorem ck_270_7 : mk_270_7.all (okE 12 prog_14_method_40_code) = true := all_okGb (k := 224) (by decide +kernel)
set_option maxRecDepth 100000 in
theorem ck_270_8 : mk_270_8.all (okE 12 prog_14_method_40_code) = true := all_okGb (k := 256) (by decide +kernel)
set_option maxRecDepth 100000 in
theorem ck_270_9 : mk_270_9.all (okE 12 prog_14_method_40_code) = true := all_okGb (k := 288) (by decide +kernel)
set_option maxRecDepth 100000 in
theorem ck_270_10 : mk_270_10.all (okE 12 prog_14_method_40_code) = true := all_okGb (k := 320) (by decide +kernel)
set_option maxRecDepth 100000 in
theorem ck_270 : mk_270.all (fun l => l.all (okE 12 prog_14_method_40_code)) = true := all_c ck_270_0 (all_c ck_270_1 (all_c ck_270_2 (all_c ck_270_3 (all_c ck_270_4 (all_c ck_270_5 (all_c ck_270_6 (all_c ck_270_7 (all_c ck_270_8 (all_c ck_270_9 (all_c ck_270_10 (rfl)))))))))))
set_option maxRecDepth 100000 in
theorem ck_271_0 : mk_271_0.all (okE 12 prog_14_method_129_code) = true := all_okGb (k := 0) (by decide +kernel)
set_option maxRecDepth 100000 in
theorem ck_271 : mk_271.all (fun l => l.all (okE 12 prog_14_method_129_code)) = true := all_c ck_271_0 (rfl)
set_option maxRecDepth 100000 in
theorem ck_272_0 : mk_272_0.all (okE 12 prog_14_method_38_code) = true := all_okGb (k := 0) (by decide +kernel)
set_option maxRecDepth 100000 in
theorem ck_272_1 : mk_272_1.all (okE 12 prog_14_method_38_code) = true := all_okGb (k := 32) (by decide +kernel)
set_option maxRecDepth 100000 in
theorem ck_272_2 : mk_272_2.all (okE 12 prog_14_method_38_code) = true := all_okGb (k := 64) (by decide +kernel)
set_option maxRecDepth 100000 in
theorem ck_272_3 : mk_272_3.all (okE 12 prog_14_method_38_code) = true := all_okGb (k := 96) (by decide +kernel)
set_option maxRecDepth 100000 in
theorem ck_272_4 : mk_272_4.all (okE 12 prog_14_method_38_code) = true := all_okGb (k := 128) (by decide +kernel)
set_option maxRecDepth 100000 in
theorem ck_272_5 : mk_272_5.all (okE 12 prog_14_method_38_code) = true := all_okGb (k := 160) (by decide +kernel)
set_option maxRecDepth 100000 in
theorem ck_272_6 : mk_272_6.all (okE 12 prog_14_method_38_code) = true := all_okGb (k := 192) (by decide +kernel)
set_option maxRecDepth 100000 in
theorem ck_272 : mk_272.all (fun l => l.all (okE 12 prog_14_method_38_code)) = true := all_c ck_272_0 (all_c ck_272_1 (all_c ck_272_2 (all_c ck_272_3 (all_c ck_272_4 (all_c ck_272_5 (all_c ck_272_6 (rfl)))))))
set_option maxRecDepth 100000 in
theorem ck_273_0 : mk_273_0.all (okE 12 prog_14_method_39_code) = true := all_okGb (k := 0) (by decide +kernel)
set_option maxRecDepth 100000 in
theorem ck_273_1 : mk_273_1.all (okE 12 prog_14_method_39_code) = true := all_okGb (k := 32) (by decide +kernel)
set_option maxRecDepth 100000 in
theorem ck_273 : mk_273.all (fun l => l.all (okE 12 prog_14_method_39_code)) = true := all_c ck_273_0 (all_c ck_273_1 (rfl))
set_option maxRecDepth 100000 in
theorem ck_274_0 : mk_274_0.all (okE 12 prog_14_method_41_code) = true := all_okGb (k := 0) (by decide +kernel)
set_option maxRecDepth 100000 in
theorem ck_274_1 : mk_274_1.all (okE 12 prog_14_method_41_code) = true := all_okGb (k := 32) (by decide +kernel)
set_option maxRecDepth 100000 in
theorem ck_274 : mk_274.all (fun l => l.all (okE 12 prog_14_method_41_code)) = true := all_c ck_274_0 (all_c ck_274_1 (rfl))
set_option maxRecDepth 100000 in
theorem ck_275_0 : mk_275_0.all (okE 12 prog_14_method_42_code) = true := all_okGb (k := 0) (by decide +kernel)
set_option maxRecDepth 100000 in
theorem ck_275_1 : mk_275_1.all (okE 12 prog_14_method_42_code) = true := all_okGb (k := 32) (by decide +kernel)
set_option maxRecDepth 100000 in
theorem ck_275 : mk_275.all (fun l => l.all (okE 12 prog_14_method_42_code)) = true := all_c ck_275_0 (all_c ck_275_1 (rfl))
set_option maxRecDepth 100000 in
theorem ck_276_0 : mk_276_0.all (okE 12 prog_14_method_43_code) = true := all_okGb (k := 0) (by decide +kernel)
set_option maxRecDepth 100000 in
theorem ck_276 : mk_276.all (fun l => l.all (okE 12 prog_14_method_43_code)) = true := all_c ck_276_0 (rfl)
set_option maxRecDepth 100000 in
theorem ck_277_0 : mk_277_0.all (okE 12 prog_14_method_60_code) = true := all_okGb (k := 0) (by decide +kernel)
set_option maxRecDepth 100000 in
theorem ck_277_1 : mk_277_1.all (okE 12 prog_14_method_60_code) = true := all_okGb (k := 32) (by decide +kernel)
set_option maxRecDepth 100000 in
theorem ck_277_2 : mk_277_2.all (okE 12 prog_14_method_60_code) = true := all_okGb (k := 64) (by decide +kernel)
set_option maxRecDepth 100000 in
theorem ck_277_3 : mk_277_3.all (okE 12 prog_14_method_60_code) = true := all_okGb (k := 96) (by decide +kernel)
set_option maxRecDepth 100000 in
theorem ck_277_4 : mk_277_4.all (okE 12 prog_14_method_60_code) = true := all_okGb (k := 128) (by decide +kernel)
set_option maxRecDepth 100000 in
theorem ck_277_5 : mk_277_5.all (okE 12 prog_14_method_60_code) = true := all_okGb (k := 160) (by decide +kernel)
set_option maxRecDepth 100000 in
theorem ck_277 : mk_277.all (fun l => l.all (okE 12 prog_14_method_60_code)) = true := all_c ck_277_0 (all_c ck_277_1 (all_c ck_277_2 (all_c ck_277_3 (all_c ck_277_4 (all_c ck_277_5 (rfl))))))
set_option maxRecDepth 100000 in
theorem ck_278_0 : mk_278_0.all (okE 12 prog_14_method_46_code) = true := all_okGb (k := 0) (by decide +kernel)
set_option maxRecDepth 100000 in
theorem ck_278_1 : mk_278_1.all (okE 12 prog_14_method_46_code) = true := all_okGb (k := 32) (by decide +kernel)
set_option maxRecDepth 100000 in
theorem ck_278_2 : mk_278_2.all (okE 12 prog_14_method_46_code) = true := all_okGb (k := 64) (by decide +kernel)
set_option maxRecDepth 100000 in
theorem ck_278_3 : mk_278_3.all (okE 12 prog_14_method_46_code) = true := all_okGb (k := 96) (by decide +kernel)
set_option maxRecDepth 100000 in
theorem ck_278_4 : mk_278_4.all (okE 12 prog_14_method_46_code) = true := all_okGb (k := 128) (by decide +kernel)
set_option maxRecDepth 100000 in
theorem ck_278_5 : mk_278_5.all (okE 12 prog_14_method_46_code) = true := all_okGb (k := 160) (by decide +kernel)
set_option maxRecDepth 100000 in
theorem ck_278_6 : mk_278_6.all (okE 12 prog_14_method_46_code) = true := all_okGb (k := 192) (by decide +kernel)
set_option maxRecDepth 100000 in
theorem ck_278_7 : mk_278_7.all (okE 12 prog_14_method_46_code) = true := all_okGb (k := 224) (by decide +kernel)
set_option maxRecDepth 100000 in
theorem ck_278_8 : mk_278_8.all (okE 12 prog_14_method_46_code) = true := all_okGb (k := 256) (by decide +kernel)
set_option maxRecDepth 100000 in
theorem ck_278_9 : mk_278_9.all (okE 12 prog_14_method_46_code) = true := all_okGb (k := 288) (by decide +kernel)
set_option maxRecDepth 100000 in
theorem ck_278 : mk_278.all (fun l => l.all (okE 12 prog_14_method_46_code)) = true := all_c ck_278_0 (all_c ck_278_1 (all_c ck_278_2 (all_c ck_278_3 (all_c ck_278_4 (all_c ck_278_5 (all_c ck_278_6 (all_c ck_278_7 (all_c ck_278_8 (all_c ck_278_9 (rfl))))))))))
set_option maxRecDepth 100000 in
theorem ck_279_0 : mk_279_0.all (okE 12 prog_14_method_44_code) = true := all_okGb (k := 0) (by decide +kernel)
set_option maxRecDepth 100000 in
theorem ck_279 : mk_279.all (fun l => l.all (okE 12 prog_14_method_44_code)) = true := all_c ck_279_0 (rfl)
set_option maxRecDepth 100000 in
theorem ck_280_0 : mk_280_0.all (okE 12 prog_14_method_45_code) = true := all_okGb (k := 0) (by decide +kernel)
set_option maxRecDepth 100000 in
theorem ck_280 : mk_280.all (fun l => l.all (okE 12 prog_14_method_45_code)) = true := all_c ck_280_0 (rfl)
set_option maxRecDepth 100000 in
theorem ck_281_0 : mk_281_0.all (okE 12 prog_14_method_59_code) = true := all_okGb (k := 0) (by decide +kernel)
set_option maxRecDepth 100000 in
theorem ck_281_1 : mk_281_1.all (okE 12 prog_14_method_59_code) = true := all_okGb (k := 32) (by decide +kernel)
set_option maxRecDepth 100000 in
theorem ck_281_2 : mk_281_2.all (okE 12 prog_14_method_59_code) = true := all_okGb (k := 64) (by decide +kernel)
set_option maxRecDepth 100000 in
theorem ck_281_3 : mk_281_3.all (okE 12 prog_14_method_59_code) = true := all_okGb (k := 96) (by decide +kernel)
set_option maxRecDepth 100000 in
theorem ck_281_4 : mk_281_4.all (okE 12 prog_14_method_59_code) = true := all_okGb (k := 128) (by decide +kernel)
set_option maxRecDepth 100000 in
theorem ck_281_5 : mk_281_5.all (okE 12 prog_14_method_59_code) = true := all_okGb (k := 160) (by decide +kernel)
set_option maxRecDepth 100000 in
theorem ck_281_6 : mk_281_6.all (okE 12 prog_14_method_59_code) = true := all_okGb (k := 192) (by decide +kernel)
set_option maxRecDepth 100000 in
theorem ck_281_7 : mk_281_7.all (okE 12 prog_14_method_59_code) = true := all_okGb (k := 224) (by decide +kernel)
set_option maxRecDepth 100000 in
theorem ck_281 : mk_281.all (fun l => l.all (okE 12 prog_14_method_59_code)) = true := all_c ck_281_0 (all_c ck_281_1 (all_c ck_281_2 (all_c ck_281_3 (all_c ck_281_4 (all_c ck_281_5 (all_c ck_281_6 (all_c ck_281_7 (rfl))))))))
set_option maxRecDepth 100000 in
theorem ck_282_0 : mk_282_0.all (okE 12 prog_14_method_47_code) = true := all_okGb (k := 0) (by decide +kernel)
set_option maxRecDepth 100000 in
theorem ck_282_1 : mk_282_1.all (okE 12 prog_14_method_47_code) = true := all_okGb (k := 32) (by decide +kernel)
set_option maxRecDepth 100000 in
theorem ck_282_2 : mk_282_2.all (okE 12 prog_14_method_47_code) = true := all_okGb (k := 64) (by decide +kernel)
set_option maxRecDepth 100000 in
theorem ck_282 : mk_282.all (fun l => l.all (okE 12 prog_14_method_47_code)) = true := all_c ck_282_0 (all_c ck_282_1 (all_c ck_282_2 (rfl)))
set_option maxRecDepth 100000 in
theorem ck_283_0 : mk_283_0.all (okE 12 prog_14_method_48_code) = true := all_okGb (k := 0) (by decide +kernel)
set_option maxRecDepth 100000 in
theorem ck_283 : mk_283.all (fun l => l.all (okE 12 prog_14_method_48_code)) = true := all_c ck_283_0 (rfl)
set_option maxRecDepth 100000 in
theorem ck_284_0 : mk_284_0.all (okE 12 prog_14_method_55_code) = true := all_okGb (k := 0) (by decide +kernel)
set_option maxRecDepth 100000 in
theorem ck_284_1 : mk_284_1.all (okE 12 prog_14_method_55_code) = true := all_okGb (k := 32) (by decide +kernel)
set_option maxRecDepth 100000 in
theorem ck_284 : mk_284.all (fun l => l.all (okE 12 prog_14_method_55_code)) = true := all_c ck_284_0 (all_c ck_284_1 (rfl))
set_option maxRecDepth 100000 in
theorem ck_285_0 : mk_285_0.all (okE 12 prog_14_method_54_code) = true := all_okGb (k := 0) (by decide +kernel)
set_option maxRecDepth 100000 in
theorem ck_285_1 : mk_285_1.all (okE 12 prog_14_method_54_code) = true := all_okGb (k := 32) (by decide +kernel)
set_option maxRecDepth 100000 in
theorem ck_285 : mk_285.all (fun l => l.all (okE 12 prog_14_method_54_code)) = true := all_c ck_285_0 (all_c ck_285_1 (rfl))
set_option maxRecDepth 100000 in
theorem ck_286_0 : mk_286_0.all (okE 12 prog_14_method_53_code) = true := all_okGb (k := 0) (by decide +kernel)
set_option maxRecDepth 100000 in
theorem ck_286_1 : mk_286_1.all (okE 12 prog_14_method_53_code) = true := all_okGb (k := 32) (by decide +kernel)
set_option maxRecDepth 100000 in
theorem ck_286_2 : mk_286_2.all (okE 12 prog_14_method_53_code) = true := all_okGb (k := 64) (by decide +kernel)
set_option maxRecDepth 100000 in
theorem ck_286 : mk_286.all (fun l => l.all (okE 12 prog_14_method_53_code)) = true := all_c ck_286_0 (all_c ck_286_1 (all_c ck_286_2 (rfl)))
set_option maxRecDepth 100000 in
theorem ck_287_0 : mk_287_0.all (okE 12 prog_14_method_49_code) = true := all_okGb (k := 0) (by decide +kernel)
set_option maxRecDepth 100000 in
theorem ck_287_1 : mk_287_1.all (okE 12 prog_14_method_49_code) = true := all_okGb (k := 32) (by decide +kernel)
set_option maxRecDepth 100000 in
theorem ck_287 : mk_287.all (fun l => l.all (okE 12 prog_14_method_49_code)) = true := all_c ck_287_0 (all_c ck_287_1 (rfl))
set_option maxRecDepth 100000 in
theorem ck_288_0 : mk_288_0.all (okE 12 prog_14_method_50_code) = true := all_okGb (k := 0) (by decide +kernel)
set_option maxRecDepth 100000 in
theorem ck_288 : mk_288.all (fun l => l.all (okE 12 prog_14_method_50_code)) = true := all_c ck_288_0 (rfl)
set_option maxRecDepth 100000 in
theorem ck_289_0 : mk_289_0.all (okE 12 prog_14_method_51_code) = true := all_okGb (k := 0) (by decide +kernel)
set_option maxRecDepth 100000 in
theorem ck_289 : mk_289.all (fun l => l.all (okE 12 prog_14_method_51_code)) = true := all_c ck_289_0 (rfl)
set_option maxRecDepth 100000 in
theorem ck_290_0 : mk_290_0.all (okE 12 prog_14_method_52_code) = true := all_okGb (k := 0) (by decide +kernel)
set_option maxRecDepth 100000 in
theorem ck_290 : mk_290.all (fun l => l.all (okE 12 prog_14_method_52_code)) = true := all_c ck_290_0 (rfl)
set_option maxRecDepth 100000 in
theorem ck_291_0 : mk_291_0.all (okE 12 prog_14_method_58_code) = true := all_okGb (k := 0) (by decide +kernel)
set_option maxRecDepth 100000 in
theorem ck_291_1 : mk_291_1.all (okE 12 prog_14_method_58_code) = true := all_okGb (k := 32) (by decide +kernel)
set_option maxRecDepth 100000 in
theorem ck_291 : mk_291.all (fun l => l.all (okE 12 prog_14_method_58_code)) = true := all_c ck_291_0 (all_c ck_291_1 (rfl))
set_option maxRecDepth 100000 in
theorem ck_292_0 : mk_292_0.all (okE 12 prog_14_method_57_code) = true := all_okGb (k := 0) (by decide +kernel)
set_option maxRecDepth 100000 in
theorem ck_292_1 : mk_292_1.all (okE 12 prog_14_method_57_code) = true := all_okGb (k := 32) (by decide +kernel)
set_option maxRecDepth 100000 in
theorem ck_292 : mk_292.all (fun l => l.all (okE 12 prog_14_method_57_code)) = true := all_c ck_292_0 (all_c ck_292_1 (rfl))
set_option maxRecDepth 100000 in
theorem ck_293_0 : mk_293_0.all (okE 12 prog_14_method_56_code) = true := all_okGb (k := 0) (by decide +kernel)
set_option maxRecDepth 100000 in
theorem ck_293_1 : mk_293_1.all (okE 12 prog_14_method_56_code) = true := all_okGb (k := 32) (by decide +kernel)
set_option maxRecDepth 100000 in
theorem ck_293_2 : mk_293_2.all (okE 12 prog_14_method_56_code) = true := all_okGb (k := 64) (by decide +kernel)
set_option maxRecDepth 100000 in
theorem ck_293_3 : mk_293_3.all (okE 12 prog_14_method_56_code) = true := all_okGb (k := 96) (by decide +kernel)
set_option maxRecDepth 100000 in
theorem ck_293_4 : mk_293_4.all (okE 12 prog_14_method_56_code) = true := all_okGb (k := 128) (by decide +kernel)
set_option maxRecDepth 100000 in
theorem ck_293 : mk_293.all (fun l => l.all (okE 12 prog_14_method_56_code)) = true := all_c ck_293_0 (all_c ck_293_1 (all_c ck_293_2 (all_c ck_293_3 (all_c ck_293_4 (rfl)))))
set_option maxRecDepth 100000 in
theorem ck_294_0 : mk_294_0.all (okE 12 prog_14_method_62_code) = true := all_okGb (k := 0) (by decide +kernel)
set_option maxRecDepth 100000 in
theorem ck_294_1 : mk_294_1.all (okE 12 prog_14_method_62_code) = true := all_okGb (k := 32) (by decide +kernel)
set_option maxRecDepth 100000 in
theorem ck_294 : mk_294.all (fun l => l.all (okE 12 prog_14_method_62_code)) = true := all_c ck_294_0 (all_c ck_294_1 (rfl))
set_option maxRecDepth 100000 in
theorem ck_295_0 : mk_295_0.all (okE 12 prog_14_method_61_code) = true := all_okGb (k := 0) (by decide +kernel)
set_option maxRecDepth 100000 in
theorem ck_295_1 : mk_295_1.all (okE 12 prog_14_method_61_code) = true := all_okGb (k := 32) (by decide +kernel)
set_option maxRecDepth 100000 in
theorem ck_295 : mk_295.all (fun l => l.all (okE 12 prog_14_method_61_code)) = true := all_c ck_295_0 (all_c ck_295_1 (rfl))
set_option maxRecDepth 100000 in
theorem ck_296_0 : mk_296_0.all (okE 12 prog_14_method_71_code) = true := all_okGb (k := 0) (by decide +kernel)
set_option maxRecDepth 100000 in
theorem ck_296_1 : mk_296_1.all (okE 12 prog_14_method_71_code) = true := all_okGb (k := 32) (by decide +kernel)
set_option maxRecDepth 100000 in
theorem ck_296_2 : mk_296_2.all (okE 12 prog_14_method_71_code) = true := by decide +kernel
set_option maxRecDepth 100000 in
theorem ck_296_3 : mk_296_3.all (okE 12 prog_14_method_71_code) = true := all_okGb (k := 96) (by decide +kernel)
set_option maxRecDepth 100000 in
theorem ck_296_4 : mk_296_4.all (okE 12 prog_14_method_71_code) = true := all_okGb (k := 128) (by decide +kernel)
set_option maxRecDepth 100000 in
theorem ck_296_5 : mk_296_5.all (okE 12 prog_14_method_71_code) = true := all_okGb (k := 160) (by decide +kernel)
set_option maxRecDepth 100000 in
theorem ck_296 : mk_296.all (fun l => l.all (okE 12 prog_14_method_71_code)) = true := all_c ck_296_0 (all_c ck_296_1 (all_c ck_296_2 (all_c ck_296_3 (all_c ck_296_4 (all_c ck_296_5 (rfl))))))
set_option maxRecDepth 100000 in
theorem ck_297_0 : mk_297_0.all (okE 12 prog_14_method_70_code) = true := all_okGb (k := 0) (by decide +kernel)
set_option maxRecDepth 100000 in
theorem ck_297 : mk_297.all (fun l => l.all (okE 12 prog_14_method_70_code)) = true := all_c ck_297_0 (rfl)
set_option maxRecDepth 100000 in
theorem ck_298_0 : mk_298_0.all (okE 12 prog_14_method_66_code) = true := all_okGb (k := 0) (by decide +kernel)
set_option maxRecDepth 100000 in
theorem ck_298_1 : mk_298_1.all (okE 12 prog_14_method_66_code) = true := all_okGb (k := 32) (by decide +kernel)
set_option maxRecDepth 100000 in
theorem ck_298_2 : mk_298_2.all (okE 12 prog_14_method_66_code) = true := all_okGb (k := 64) (by decide +kernel)
set_option maxRecDepth 100000 in
theorem ck_298_3 : mk_298_3.all (okE 12 prog_14_method_66_code) = true := all_okGb (k := 96) (by decide +kernel)
set_option maxRecDepth 100000 in
theorem ck_298_4 : mk_298_4.all (okE 12 prog_14_method_66_code) = true := all_okGb (k := 128) (by decide +kernel)
set_option maxRecDepth 100000 in
theorem ck_298_5 : mk_298_5.all (okE 12 prog_14_method_66_code) = true := by decide +kernel
set_option maxRecDepth 100000 in
theorem ck_298_6 : mk_298_6.all (okE 12 prog_14_method_66_code) = true := all_okGb (k := 192) (by decide +kernel)
set_option maxRecDepth 100000 in
theorem ck_298_7 : mk_298_7.all (okE 12 prog_14_method_66_code) = true := all_okGb (k := 224) (by decide +kernel)
set_option maxRecDepth 100000 in
theorem ck_298_8 : mk_298_8.all (okE 12 prog_14_method_66_code) = true := all_okGb (k := 256) (by decide +kernel)
set_option maxRecDepth 100000 in
theorem ck_298_9 : mk_298_9.all (okE 12 prog_14_method_66_code) = true := all_okGb (k := 288) (by decide +kernel)
set_option maxRecDepth 100000 in
theorem ck_298_10 : mk_298_10.all (okE 12 prog_14_method_66_code) = true := all_okGb (k := 320) (by decide +kernel)
set_option maxRecDepth 100000 in
theorem ck_298_11 : mk_298_11.all (okE 12 prog_14_method_66_code) = true := all_okGb (k := 352) (by decide +kernel)
set_option maxRecDepth 100000 in
theorem ck_298_12 : mk_298_12.all (okE 12 prog_14_method_66_code) = true := all_okGb (k := 384) (by decide +kernel)
set_option maxRecDepth 100000 in
theorem ck_298 : mk_298.all (fun l => l.all (okE 12 prog_14_method_66_code)) = true := all_c ck_298_0 (all_c ck_298_1 (all_c ck_298_2 (all_c ck_298_3 (all_c ck_298_4 (all_c ck_298_5 (all_c ck_298_6 (all_c ck_298_7 (all_c ck_298_8 (all_c ck_298_9 (all_c ck_298_10 (all_c ck_298_11 (all_c ck_298_12 (rfl)))))))))))))
set_option maxRecDepth 100000 in
theorem ck_299_0 : mk_299_0.all (okE 12 prog_14_method_65_code) = true := all_okGb (k := 0) (by decide +kernel)
set_option maxRecDepth 100000 in
theorem ck_299_1 : mk_299_1.all (okE 12 prog_14_method_65_code) = true := all_okGb (k := 32) (by decide +kernel)
set_option maxRecDepth 100000 in
theorem ck_299 : mk_299.all (fun l => l.all (okE 12 prog_14_method_65_code)) = true := all_c ck_299_0 (all_c ck_299_1 (rfl))
set_option maxRecDepth 100000 in
theorem ck_300_0 : mk_300_0.all (okE 12 prog_14_method_64_code) = true := all_okGb (k := 0) (by decide +kernel)
set_option maxRecDepth 100000 in
theorem ck_300_1 : mk_300_1.all (okE 12 prog_14_method_64_code) = true := all_okGb (k := 32) (by decide +kernel)
set_option maxRecDepth 100000 in
theorem ck_300_2 : mk_300_2.all (okE 12 prog_14_method_64_code) = true := all_okGb (k := 64) (by decide +kernel)
set_option maxRecDepth 100000 in
theorem ck_300_3 : mk_300_3.all (okE 12 prog_14_method_64_code) = true := all_okGb (k := 96) (by decide +kernel)
set_option maxRecDepth 100000 in
theorem ck_300_4 : mk_300_4.all (okE 12 prog_14_method_64_code) = true := all_okGb (k := 128) (by decide +kernel)
set_option maxRecDepth 100000 in
theorem ck_300_5 : mk_300_5.all (okE 12 prog_14_method_64_code) = true := all_okGb (k := 160) (by decide +kernel)
set_option maxRecDepth 100000 in
theorem ck_300 : mk_300.all (fun l => l.all (okE 12 prog_14_method_64_code)) = true := all_c ck_300_0 (all_c ck_300_1 (all_c ck_300_2 (all_c ck_300_3 (all_c ck_300_4 (all_c ck_300_5 (rfl))))))
set_option maxRecDepth 100000 in
theorem ck_301_0 : mk_301_0.all (okE 12 prog_14_method_63_code) = true := by decide +kernel
set_option maxRecDepth 100000 in
theorem ck_301_1 : mk_301_1.all (okE 12 prog_14_method_63_code) = true := all_okGb (k := 32) (by decide +kernel)
set_option maxRecDepth 100000 in
theorem ck_301_2 : mk_301_2.all (okE 12 prog_14_method_63_code) = true := all_okGb (k := 64) (by decide +kernel)
set_option maxRecDepth 100000 in
theorem ck_301_3 : mk_301_3.all (okE 12 prog_14_method_63_code) = true := all_okGb (k := 96) (by decide +kernel)
set_option maxRecDepth 100000 in
theorem ck_301_4 : mk_301_4.all (okE 12 prog_14_method_63_code) = true := all_okGb (k := 128) (by decide +kernel)
set_option maxRecDepth 100000 in
theorem ck_301_5 : mk_301_5.all (okE 12 prog_14_method_63_code) = true := all_okGb (k := 160) (by decide +kernel)
set_option maxRecDepth 100000 in
theorem ck_301 : mk_301.all (fun l => l.all (okE 12 prog_14_method_63_code)) = true := all_c ck_301_0 (all_c ck_301_1 (all_c ck_301_2 (all_c ck_301_3 (all_c ck_301_4 (all_c ck_301_5 (rfl))))))
set_option maxRecDepth 100000 in
theorem ck_302_0 : mk_302_0.all (okE 12 prog_14_method_69_code) = true := all_okGb (k := 0) (by decide +kernel)
set_option maxRecDepth 100000 in
theorem ck_302_1 : mk_302_1.all (okE 12 prog_14_method_69_code) = true := all_okGb (k := 32) (by decide +kernel)
set_option maxRecDepth 100000 in
theorem ck_302 : mk_302.all (fun l => l.all (okE 12 prog_14_method_69_code)) = true := all_c ck_302_0 (all_c ck_302_1 (rfl))
set_option maxRecDepth 100000 in
theorem ck_303_0 : mk_303_0.all (okE 12 prog_14_method_68_code) = true := all_okGb (k := 0) (by decide +kernel)
set_option maxRecDepth 100000 in
theorem ck_303_1 : mk_303_1.all (okE 12 prog_14_method_68_code) = true := all_okGb (k := 32) (by decide +kernel)
set_option maxRecDepth 100000 in
theorem ck_303 : mk_303.all (fun l => l.all (okE 12 prog_14_method_68_code)) = true := all_c ck_303_0 (all_c ck_303_1 (rfl))
set_option maxRecDepth 100000 in
theorem ck_304_0 : mk_304_0.all (okE 12 prog_14_method_67_code) = true := all_okGb (k := 0) (by decide +kernel)
set_option maxRecDepth 100000 in
theorem ck_304_1 : mk_304_1.all (okE 12 prog_14_method_67_code) = true := all_okGb (k := 32) (by decide +kernel)
set_option maxRecDepth 100000 in
theorem ck_304 : mk_304.all (fun l => l.all (okE 12 prog_14_method_67_code)) = true := all_c ck_304_0 (all_c ck_304_1 (rfl))
set_option maxRecDepth 100000 in
theorem ck_305_0 : mk_305_0.all (okE 12 prog_14_method_72_code) = true := all_okGb (k := 0) (by decide +kernel)
set_option maxRecDepth 100000 in
theorem ck_305_1 : mk_305_1.all (okE 12 prog_14_method_72_code) = true := all_okGb (k := 32) (by decide +kernel)
set_option maxRecDepth 100000 in
theorem ck_305_2 : mk_305_2.all (okE 12 prog_14_method_72_code) = true := all_okGb (k := 64) (by decide +kernel)
set_option maxRecDepth 100000 in
theorem ck_305_3 : mk_305_3.all (okE 12 prog_14_method_72_code) = true := all_okGb (k := 96) (by decide +kernel)
set_option maxRecDepth 100000 in
theorem ck_305_4 : mk_305_4.all (okE 12 prog_14_method_72_code) = true := all_okGb (k := 128) (by decide +kernel)
set_option maxRecDepth 100000 in
theorem ck_305_5 : mk_305_5.all (okE 12 prog_14_method_72_code) = true := all_okGb (k := 160) (by decide +kernel)
set_option maxRecDepth 100000 in
theorem ck_305 : mk_305.all (fun l => l.all (okE 12 prog_14_method_72_code)) = true := all_c ck_305_0 (all_c ck_305_1 (all_c ck_305_2 (all_c ck_305_3 (all_c ck_305_4 (all_c ck_305_5 (rfl))))))
set_option maxRecDepth 100000 in
theorem ck_306_0 : mk_306_0.all (okE 12 prog_14_method_74_code) = true := all_okGb (k := 0) (by decide +kernel)
set_option maxRecDepth 100000 in
theorem ck_306_1 : mk_306_1.all (okE 12 prog_14_method_74_code) = true := all_okGb (k := 32) (by decide +kernel)
set_option maxRecDepth 100000 in
theorem ck_306_2 : mk_306_2.all (okE 12 prog_14_method_74_code) = true := all_okGb (k := 64) (by decide +kernel)
set_option maxRecDepth 100000 in
theorem ck_306_3 : mk_306_3.all (okE 12 prog_14_method_74_code) = true := all_okGb (k := 96) (by decide +kernel)
set_option maxRecDepth 100000 in
theorem ck_306_4 : mk_306_4.all (okE 12 prog_14_method_74_code) = true := all_okGb (k := 128) (by decide +kernel)
set_option maxRecDepth 100000 in
theorem ck_306_5 : mk_306_5.all (okE 12 prog_14_method_74_code) = true := all_okGb (k := 160) (by decide +kernel)
set_option maxRecDepth 100000 in
theorem ck_306_6 : mk_306_6.all (okE 12 prog_14_method_74_code) = true := all_okGb (k := 192) (by decide +kernel)
set_option maxRecDepth 100000 in
theorem ck_306 : mk_306.all (fun l => l.all (okE 12 prog_14_method_74_code)) = true := all_c ck_306_0 (all_c ck_306_1 (all_c ck_306_2 (all_c ck_306_3 (all_c ck_306_4 (all_c ck_306_5 (all_c ck_306_6 (rfl)))))))
set_option maxRecDepth 100000 in
theorem ck_307_0 : mk_307_0.all (okE 12 prog_14_method_73_code) = true := all_okGb (k := 0) (by decide +kernel)
set_option maxRecDepth 100000 in
theorem ck_307_1 : mk_307_1.all (okE 12 prog_14_method_73_code) = true := all_okGb (k := 32) (by decide +kernel)
set_option maxRecDepth 100000 in
theorem ck_307_2 : mk_307_2.all (okE 12 prog_14_method_73_code) = true := all_okGb (k := 64) (by decide +kernel)
set_option maxRecDepth 100000 in
theorem ck_307_3 : mk_307_3.all (okE 12 prog_14_method_73_code) = true := all_okGb (k := 96) (by decide +kernel)
set_option maxRecDepth 100000 in
theorem ck_307_4 : mk_307_4.all (okE 12 prog_14_method_73_code) = true := all_okGb (k := 128) (by decide +kernel)
set_option maxRecDepth 100000 in
theorem ck_307 : mk_307.all (fun l => l.all (okE 12 prog_14_method_73_code)) = true := all_c ck_307_0 (all_c ck_307_1 (all_c ck_307_2 (all_c ck_307_3 (all_c ck_307_4 (rfl)))))
set_option maxRecDepth 100000 in
theorem ck_308_0 : mk_308_0.all (okE 12 prog_14_method_77_code) = true := all_okGb (k := 0) (by decide +kernel)
set_option maxRecDepth 100000 in
theorem ck_308_1 : mk_308_1.all (okE 12 prog_14_method_77_code) = true := all_okGb (k := 32) (by decide +kernel)
set_option maxRecDepth 100000 in
theorem ck_308_2 : mk_308_2.all (okE 12 prog_14_method_77_code) = true := all_okGb (k := 64) (by decide +kernel)
set_option maxRecDepth 100000 in
theorem ck_308_3 : mk_308_3.all (okE 12 prog_14_method_77_code) = true := all_okGb (k := 96) (by decide +kernel)
set_option maxRecDepth 100000 in
theorem ck_308 : mk_308.all (fun l => l.all (okE 12 prog_14_method_77_code)) = true := all_c ck_308_0 (all_c ck_308_1 (all_c ck_308_2 (all_c ck_308_3 (rfl))))
set_option maxRecDepth 100000 in
theorem ck_309_0 : mk_309_0.all (okE 12 prog_14_method_76_code) = true := all_okGb (k := 0) (by decide +kernel)
set_option maxRecDepth 100000 in
theorem ck_309 : mk_309.all (fun l => l.all (okE 12 prog_14_method_76_code)) = true := all_c ck_309_0 (rfl)
set_option maxRecDepth 100000 in
theorem ck_310_0 : mk_310_0.all (okE 12 prog_14_method_79_code) = true := all_okGb (k := 0) (by decide +kernel)
set_option maxRecDepth 100000 in
theorem ck_310_1 : mk_310_1.all (okE 12 prog_14_method_79_code) = true := all_okGb (k := 32) (by decide +kernel)
set_option maxRecDepth 100000 in
theorem ck_310 : mk_310.all (fun l => l.all (okE 12 prog_14_method_79_code)) = true := all_c ck_310_0 (all_c ck_310_1 (rfl))
set_option maxRecDepth 100000 in
theorem ck_311_0 : mk_311_0.all (okE 12 prog_14_method_75_code) = true := all_okGb (k := 0) (by decide +kernel)
set_option maxRecDepth 100000 in
theorem ck_311 : mk_311.all (fun l => l.all (okE 12 prog_14_method_75_code)) = true := all_c ck_311_0 (rfl)
set_option maxRecDepth 100000 in
theorem ck_312_0 : mk_312_0.all (okE 12 prog_14_method_83_code) = true := all_okGb (k := 0) (by decide +kernel)
set_option maxRecDepth 100000 in
theorem ck_312 : mk_312.all (fun l => l.all (okE 12 prog_14_method_83_code)) = true := all_c ck_312_0 (rfl)
set_option maxRecDepth 100000 in
theorem ck_313_0 : mk_313_0.all (okE 12 prog_14_method_82_code) = true := all_okGb (k := 0) (by decide +kernel)
set_option maxRecDepth 100000 in
theorem ck_313_1 : mk_313_1.all (okE 12 prog_14_method_82_code) = true := all_okGb (k := 32) (by decide +kernel)
set_option maxRecDepth 100000 in
theorem ck_313_2 : mk_313_2.all (okE 12 prog_14_method_82_code) = true := all_okGb (k := 64) (by decide +kernel)
set_option maxRecDepth 100000 in
theorem ck_313_3 : mk_313_3.all (okE 12 prog_14_method_82_code) = true := all_okGb (k := 96) (by decide +kernel)
set_option maxRecDepth 100000 in
theorem ck_313_4 : mk_313_4.all (okE 12 prog_14_method_82_code) = true := all_okGb (k := 128) (by decide +kernel)
set_option maxRecDepth 100000 in
theorem ck_313 : mk_313.all (fun l => l.all (okE 12 prog_14_method_82_code)) = true := all_c ck_313_0 (all_c ck_313_1 (all_c ck_313_2 (all_c ck_313_3 (all_c ck_313_4 (rfl)))))
set_option maxRecDepth 100000 in
theorem ck_314_0 : mk_314_0.all (okE 12 prog_14_method_78_code) = true := all_okGb (k := 0) (by decide +kernel)
set_option maxRecDepth 100000 in
theorem ck_314 : mk_314.all (fun l => l.all (okE 12 prog_14_method_78_code)) = true := all_c ck_314_0 (rfl)
set_option maxRecDepth 100000 in
theorem ck_315_0 : mk_315_0.all (okE 12 prog_14_method_80_code) = true := all_okGb (k := 0) (by decide +kernel)
set_option maxRecDepth 100000 in
theorem ck_315_1 : mk_315_1.all (okE 12 prog_14_method_80_code) = true := all_okGb (k := 32) (by decide +kernel)
set_option maxRecDepth 100000 in
theorem ck_315 : mk_315.all (fun l => l.all (okE 12 prog_14_method_80_code)) = true := all_c ck_315_0 (all_c ck_315_1 (rfl))
set_option maxRecDepth 100000 in
theorem ck_316_0 : mk_316_0.all (okE 12 prog_14_method_85_code) = true := all_okGb (k := 0) (by decide +kernel)
set_option maxRecDepth 100000 in
theorem ck_316 : mk_316.all (fun l => l.all (okE 12 prog_14_method_85_code)) = true := all_c ck_316_0 (rfl)
set_option maxRecDepth 100000 in
theorem ck_317_0 : mk_317_0.all (okE 12 prog_14_method_84_code) = true := all_okGb (k := 0) (by decide +kernel)
set_option maxRecDepth 100000 in
theorem ck_317_1 : mk_317_1.all (okE 12 prog_14_method_84_code) = true := all_okGb (k := 32) (by decide +kernel)
set_option maxRecDepth 100000 in
theorem ck_317_2 : mk_317_2.all (okE 12 prog_14_method_84_code) = true := all_okGb (k := 64) (by decide +kernel)
set_option maxRecDepth 100000 in
theorem ck_317 : mk_317.all (fun l => l.all (okE 12 prog_14_method_84_code)) = true := all_c ck_317_0 (all_c ck_317_1 (all_c ck_317_2 (rfl)))
set_option maxRecDepth 100000 in
theorem ck_318_0 : mk_318_0.all (okE 12 prog_14_method_87_code) = true := all_okGb (k := 0) (by decide +kernel)
set_option maxRecDepth 100000 in
theorem ck_318_1 : mk_318_1.all (okE 12 prog_14_method_87_code) = true := all_okGb (k := 32) (by decide +kernel)
set_option maxRecDepth 100000 in
theorem ck_318 : mk_318.all (fun l => l.all (okE 12 prog_14_method_87_code)) = true := all_c ck_318_0 (all_c ck_318_1 (rfl))
set_option maxRecDepth 100000 in
theorem ck_319_0 : mk_319_0.all (okE 12 prog_14_method_86_code) = true := all_okGb (k := 0) (by decide +kernel)
set_option maxRecDepth 100000 in
theorem ck_319 : mk_319.all (fun l => l.all (okE 12 prog_14_method_86_code)) = true := all_c ck_319_0 (rfl)
set_option maxRecDepth 100000 in
theorem ck_320_0 : mk_320_0.all (okE 12 prog_14_method_88_code) = true := all_okGb (k := 0) (by decide +kernel)
set_option maxRecDepth 100000 in
theorem ck_320_1 : mk_320_1.all (okE 12 prog_14_method_88_code) = true := all_okGb (k := 32) (by decide +kernel)
set_option maxRecDepth 100000 in
theorem ck_320 : mk_320.all (fun l => l.all (okE 12 prog_14_method_88_code)) = true := all_c ck_320_0 (all_c ck_320_1 (rfl))
set_option maxRecDepth 100000 in
theorem ck_321_0 : mk_321_0.all (okE 12 prog_14_method_89_code) = true := all_okGb (k := 0) (by decide +kernel)
set_option maxRecDepth 100000 in
theorem ck_321_1 : mk_321_1.all (okE 12 prog_14_method_89_code) = true := all_okGb (k := 32) (by decide +kernel)
set_option maxRecDepth 100000 in
theorem ck_321_2 : mk_321_2.all (okE 12 prog_14_method_89_code) = true := all_okGb (k := 64) (by decide +kernel)
set_option maxRecDepth 100000 in
theorem ck_321 : mk_321.all (fun l => l.all (okE 12 prog_14_method_89_code)) = true := all_c ck_321_0 (all_c ck_321_1 (all_c ck_321_2 (rfl)))
set_option maxRecDepth 100000 in
theorem ck_322_0 : mk_322_0.all (okE 12 prog_14_method_90_code) = true := by decide +kernel
set_option maxRecDepth 100000 in
theorem ck_322_1 : mk_322_1.all (okE 12 prog_14_method_90_code) = true := all_okGb (k := 32) (by decide +kernel)
set_option maxRecDepth 100000 in
theorem ck_322_2 : mk_322_2.all (okE 12 prog_14_method_90_code) = true := all_okGb (k := 64) (by decide +kernel)
set_option maxRecDepth 100000 in
theorem ck_322_3 : mk_322_3.all (okE 12 prog_14_method_90_code) = true := all_okGb (k := 96) (by decide +kernel)
set_option maxRecDepth 100000 in
theorem ck_322_4 : mk_322_4.all (okE 12 prog_14_method_90_code) = true := all_okGb (k := 128) (by decide +kernel)
set_option maxRecDepth 100000 in
theorem ck_322 : mk_322.all (fun l => l.all (okE 12 prog_14_method_90_code)) = true := all_c ck_322_0 (all_c ck_322_1 (all_c ck_322_2 (all_c ck_322_3 (all_c ck_322_4 (rfl)))))
