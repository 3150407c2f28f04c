/-! the code tables hold, by the kernel -/
set_option maxRecDepth 100000 in
theorem ck_235_0 : mk_235_0.all (okE 12 prog_14_method_8_code) = true := by decide +kernel
set_option maxRecDepth 100000 in
theorem ck_235_1 : mk_235_1.all (okE 12 prog_14_method_8_code) = true := by decide +kernel
set_option maxRecDepth 100000 in
theorem ck_235_2 : mk_235_2.all (okE 12 prog_14_method_8_code) = true := by decide +kernel
set_option maxRecDepth 100000 in
theorem ck_235_3 : mk_235_3.all (okE 12 prog_14_method_8_code) = true := by decide +kernel
set_option maxRecDepth 100000 in
theorem ck_235 : mk_235.all (fun l => l.all (okE 12 prog_14_method_8_code)) = true := all_c ck_235_0 (all_c ck_235_1 (all_c ck_235_2 (all_c ck_235_3 (rfl))))
set_option maxRecDepth 100000 in
theorem ck_236_0 : mk_236_0.all (okE 12 prog_14_method_3_code) = true := by decide +kernel
set_option maxRecDepth 100000 in
theorem ck_236 : mk_236.all (fun l => l.all (okE 12 prog_14_method_3_code)) = true := all_c ck_236_0 (rfl)
set_option maxRecDepth 100000 in
theorem ck_237_0 : mk_237_0.all (okE 12 prog_14_method_7_code) = true := by decide +kernel
set_option maxRecDepth 100000 in
theorem ck_237_1 : mk_237_1.all (okE 12 prog_14_method_7_code) = true := by decide +kernel
set_option maxRecDepth 100000 in
theorem ck_237_2 : mk_237_2.all (okE 12 prog_14_method_7_code) = true := by decide +kernel
set_option maxRecDepth 100000 in
theorem ck_237_3 : mk_237_3.all (okE 12 prog_14_method_7_code) = true := by decide +kernel
set_option maxRecDepth 100000 in
theorem ck_237_4 : mk_237_4.all (okE 12 prog_14_method_7_code) = true := by decide +kernel
set_option maxRecDepth 100000 in
theorem ck_237_5 : mk_237_5.all (okE 12 prog_14_method_7_code) = true := by decide +kernel
set_option maxRecDepth 100000 in
theorem ck_237 : mk_237.all (fun l => l.all (okE 12 prog_14_method_7_code)) = true := all_c ck_237_0 (all_c ck_237_1 (all_c ck_237_2 (all_c ck_237_3 (all_c ck_237_4 (all_c ck_237_5 (rfl))))))
set_option maxRecDepth 100000 in
theorem ck_238_0 : mk_238_0.all (okE 12 prog_14_method_6_code) = true := by decide +kernel
set_option maxRecDepth 100000 in
theorem ck_238 : mk_238.all (fun l => l.all (okE 12 prog_14_method_6_code)) = true := all_c ck_238_0 (rfl)
set_option maxRecDepth 100000 in
theorem ck_239_0 : mk_239_0.all (okE 12 prog_14_method_9_code) = true := by decide +kernel
set_option maxRecDepth 100000 in
theorem ck_239_1 : mk_239_1.all (okE 12 prog_14_method_9_code) = true := by decide +kernel
set_option maxRecDepth 100000 in
theorem ck_239_2 : mk_239_2.all (okE 12 prog_14_method_9_code) = true := by decide +kernel
set_option maxRecDepth 100000 in
theorem ck_239_3 : mk_239_3.all (okE 12 prog_14_method_9_code) = true := by decide +kernel
set_option maxRecDepth 100000 in
theorem ck_239_4 : mk_239_4.all (okE 12 prog_14_method_9_code) = true := by decide +kernel
set_option maxRecDepth 100000 in
theorem ck_239 : mk_239.all (fun l => l.all (okE 12 prog_14_method_9_code)) = true := all_c ck_239_0 (all_c ck_239_1 (all_c ck_239_2 (all_c ck_239_3 (all_c ck_239_4 (rfl)))))
set_option maxRecDepth 100000 in
theorem ck_240_0 : mk_240_0.all (okE 12 prog_14_method_5_code) = true := by decide +kernel
set_option maxRecDepth 100000 in
theorem ck_240 : mk_240.all (fun l => l.all (okE 12 prog_14_method_5_code)) = true := all_c ck_240_0 (rfl)
set_option maxRecDepth 100000 in
theorem ck_241_0 : mk_241_0.all (okE 12 prog_14_method_10_code) = true := by decide +kernel
set_option maxRecDepth 100000 in
theorem ck_241_1 : mk_241_1.all (okE 12 prog_14_method_10_code) = true := by decide +kernel
set_option maxRecDepth 100000 in
theorem ck_241 : mk_241.all (fun l => l.all (okE 12 prog_14_method_10_code)) = true := all_c ck_241_0 (all_c ck_241_1 (rfl))
set_option maxRecDepth 100000 in
theorem ck_242_0 : mk_242_0.all (okE 12 prog_14_method_16_code) = true := by decide +kernel
set_option maxRecDepth 100000 in
theorem ck_242_1 : mk_242_1.all (okE 12 prog_14_method_16_code) = true := by decide +kernel
set_option maxRecDepth 100000 in
theorem ck_242 : mk_242.all (fun l => l.all (okE 12 prog_14_method_16_code)) = true := all_c ck_242_0 (all_c ck_242_1 (rfl))
set_option maxRecDepth 100000 in
theorem ck_243_0 : mk_243_0.all (okE 12 prog_14_method_15_code) = true := by decide +kernel
set_option maxRecDepth 100000 in
theorem ck_243_1 : mk_243_1.all (okE 12 prog_14_method_15_code) = true := by decide +kernel
set_option maxRecDepth 100000 in
theorem ck_243 : mk_243.all (fun l => l.all (okE 12 prog_14_method_15_code)) = true := all_c ck_243_0 (all_c ck_243_1 (rfl))
set_option maxRecDepth 100000 in
theorem ck_244_0 : mk_244_0.all (okE 12 prog_14_method_19_code) = true := by decide +kernel
set_option maxRecDepth 100000 in
theorem ck_244_1 : mk_244_1.all (okE 12 prog_14_method_19_code) = true := by decide +kernel
set_option maxRecDepth 100000 in
theorem ck_244_2 : mk_244_2.all (okE 12 prog_14_method_19_code) = true := by decide +kernel
set_option maxRecDepth 100000 in
theorem ck_244_3 : mk_244_3.all (okE 12 prog_14_method_19_code) = true := by decide +kernel
set_option maxRecDepth 100000 in
theorem ck_244 : mk_244.all (fun l => l.all (okE 12 prog_14_method_19_code)) = true := all_c ck_244_0 (all_c ck_244_1 (all_c ck_244_2 (all_c ck_244_3 (rfl))))
set_option maxRecDepth 100000 in
theorem ck_245_0 : mk_245_0.all (okE 12 prog_14_method_14_code) = true := by decide +kernel
set_option maxRecDepth 100000 in
theorem ck_245 : mk_245.all (fun l => l.all (okE 12 prog_14_method_14_code)) = true := all_c ck_245_0 (rfl)
set_option maxRecDepth 100000 in
theorem ck_246_0 : mk_246_0.all (okE 12 prog_14_method_11_code) = true := by decide +kernel
set_option maxRecDepth 100000 in
theorem ck_246 : mk_246.all (fun l => l.all (okE 12 prog_14_method_11_code)) = true := all_c ck_246_0 (rfl)
set_option maxRecDepth 100000 in
theorem ck_247_0 : mk_247_0.all (okE 12 prog_14_method_13_code) = true := by decide +kernel
set_option maxRecDepth 100000 in
theorem ck_247_1 : mk_247_1.all (okE 12 prog_14_method_13_code) = true := by decide +kernel
set_option maxRecDepth 100000 in
theorem ck_247_2 : mk_247_2.all (okE 12 prog_14_method_13_code) = true := by decide +kernel
set_option maxRecDepth 100000 in
theorem ck_247 : mk_247.all (fun l => l.all (okE 12 prog_14_method_13_code)) = true := all_c ck_247_0 (all_c ck_247_1 (all_c ck_247_2 (rfl)))
set_option maxRecDepth 100000 in
theorem ck_248_0 : mk_248_0.all (okE 12 prog_14_method_18_code) = true := by decide +kernel
set_option maxRecDepth 100000 in
theorem ck_248_1 : mk_248_1.all (okE 12 prog_14_method_18_code) = true := by decide +kernel
set_option maxRecDepth 100000 in
theorem ck_248_2 : mk_248_2.all (okE 12 prog_14_method_18_code) = true := by decide +kernel
set_option maxRecDepth 100000 in
theorem ck_248_3 : mk_248_3.all (okE 12 prog_14_method_18_code) = true := by decide +kernel
set_option maxRecDepth 100000 in
theorem ck_248 : mk_248.all (fun l => l.all (okE 12 prog_14_method_18_code)) = true := all_c ck_248_0 (all_c ck_248_1 (all_c ck_248_2 (all_c ck_248_3 (rfl))))
set_option maxRecDepth 100000 in
theorem ck_249_0 : mk_249_0.all (okE 12 prog_14_method_17_code) = true := by decide +kernel
set_option maxRecDepth 100000 in
theorem ck_249 : mk_249.all (fun l => l.all (okE 12 prog_14_method_17_code)) = true := all_c ck_249_0 (rfl)
set_option maxRecDepth 100000 in
theorem ck_250_0 : mk_250_0.all (okE 12 prog_14_method_20_code) = true := by decide +kernel
set_option maxRecDepth 100000 in
theorem ck_250_1 : mk_250_1.all (okE 12 prog_14_method_20_code) = true := by decide +kernel
set_option maxRecDepth 100000 in
theorem ck_250 : mk_250.all (fun l => l.all (okE 12 prog_14_method_20_code)) = true := all_c ck_250_0 (all_c ck_250_1 (rfl))
set_option maxRecDepth 100000 in
theorem ck_251_0 : mk_251_0.all (okE 12 prog_14_method_12_code) = true := by decide +kernel
set_option maxRecDepth 100000 in
theorem ck_251_1 : mk_251_1.all (okE 12 prog_14_method_12_code) = true := by decide +kernel
set_option maxRecDepth 100000 in
theorem ck_251 : mk_251.all (fun l => l.all (okE 12 prog_14_method_12_code)) = true := all_c ck_251_0 (all_c ck_251_1 (rfl))
set_option maxRecDepth 100000 in
theorem ck_252_0 : mk_252_0.all (okE 12 prog_14_method_21_code) = true := by decide +kernel
set_option maxRecDepth 100000 in
theorem ck_252_1 : mk_252_1.all (okE 12 prog_14_method_21_code) = true := by decide +kernel
set_option maxRecDepth 100000 in
theorem ck_252 : mk_252.all (fun l => l.all (okE 12 prog_14_method_21_code)) = true := all_c ck_252_0 (all_c ck_252_1 (rfl))
set_option maxRecDepth 100000 in
theorem ck_253_0 : mk_253_0.all (okE 12 prog_14_method_23_code) = true := by decide +kernel
set_option maxRecDepth 100000 in
theorem ck_253_1 : mk_253_1.all (okE 12 prog_14_method_23_code) = true := by decide +kernel
set_option maxRecDepth 100000 in
theorem ck_253_2 : mk_253_2.all (okE 12 prog_14_method_23_code) = true := by decide +kernel
set_option maxRecDepth 100000 in
theorem ck_253 : mk_253.all (fun l => l.all (okE 12 prog_14_method_23_code)) = true := all_c ck_253_0 (all_c ck_253_1 (all_c ck_253_2 (rfl)))
set_option maxRecDepth 100000 in
theorem ck_254_0 : mk_254_0.all (okE 12 prog_14_method_22_code) = true := by decide +kernel
set_option maxRecDepth 100000 in
theorem ck_254 : mk_254.all (fun l => l.all (okE 12 prog_14_method_22_code)) = true := all_c ck_254_0 (rfl)
set_option maxRecDepth 100000 in
theorem ck_255_0 : mk_255_0.all (okE 12 prog_14_method_24_code) = true := by decide +kernel
set_option maxRecDepth 100000 in
theorem ck_255_1 : mk_255_1.all (okE 12 prog_14_method_24_code) = true := by decide +kernel
set_option maxRecDepth 100000 in
theorem ck_255 : mk_255.all (fun l => l.all (okE 12 prog_14_method_24_code)) = true := all_c ck_255_0 (all_c ck_255_1 (rfl))
set_option maxRecDepth 100000 in
theorem ck_256_0 : mk_256_0.all (okE 12 prog_14_method_25_code) = true := by decide +kernel
set_option maxRecDepth 100000 in
theorem ck_256_1 : mk_256_1.all (okE 12 prog_14_method_25_code) = true := by decide +kernel
set_option maxRecDepth 100000 in
theorem ck_256_2 : mk_256_2.all (okE 12 prog_14_method_25_code) = true := by decide +kernel
set_option maxRecDepth 100000 in
theorem ck_256_3 : mk_256_3.all (okE 12 prog_14_method_25_code) = true := by decide +kernel
set_option maxRecDepth 100000 in
theorem ck_256_4 : mk_256_4.all (okE 12 prog_14_method_25_code) = true := by decide +kernel
set_option maxRecDepth 100000 in
theorem ck_256_5 : mk_256_5.all (okE 12 prog_14_method_25_code) = true := by decide +kernel
set_option maxRecDepth 100000 in
theorem ck_256_6 : mk_256_6.all (okE 12 prog_14_method_25_code) = true := by decide +kernel
set_option maxRecDepth 100000 in
theorem ck_256_7 : mk_256_7.all (okE 12 prog_14_method_25_code) = true := by decide +kernel
set_option maxRecDepth 100000 in
theorem ck_256 : mk_256.all (fun l => l.all (okE 12 prog_14_method_25_code)) = true := all_c ck_256_0 (all_c ck_256_1 (all_c ck_256_2 (all_c ck_256_3 (all_c ck_256_4 (all_c ck_256_5 (all_c ck_256_6 (all_c ck_256_7 (rfl))))))))
set_option maxRecDepth 100000 in
theorem ck_257_0 : mk_257_0.all (okE 12 prog_14_method_26_code) = true := by decide +kernel
set_option maxRecDepth 100000 in
theorem ck_257_1 : mk_257_1.all (okE 12 prog_14_method_26_code) = true := by decide +kernel
set_option maxRecDepth 100000 in
theorem ck_257 : mk_257.all (fun l => l.all (okE 12 prog_14_method_26_code)) = true := all_c ck_257_0 (all_c ck_257_1 (rfl))
set_option maxRecDepth 100000 in
theorem ck_258_0 : mk_258_0.all (okE 12 prog_14_method_27_code) = true := by decide +kernel
set_option maxRecDepth 100000 in
theorem ck_258_1 : mk_258_1.all (okE 12 prog_14_method_27_code) = true := by decide +kernel
set_option maxRecDepth 100000 in
theorem ck_258_2 : mk_258_2.all (okE 12 prog_14_method_27_code) = true := by decide +kernel
set_option maxRecDepth 100000 in
theorem ck_258 : mk_258.all (fun l => l.all (okE 12 prog_14_method_27_code)) = true := all_c ck_258_0 (all_c ck_258_1 (all_c ck_258_2 (rfl)))
set_option maxRecDepth 100000 in
theorem ck_259_0 : mk_259_0.all (okE 12 prog_14_method_29_code) = true := by decide +kernel
set_option maxRecDepth 100000 in
theorem ck_259_1 : mk_259_1.all (okE 12 prog_14_method_29_code) = true := by decide +kernel
set_option maxRecDepth 100000 in
theorem ck_259_2 : mk_259_2.all (okE 12 prog_14_method_29_code) = true := by decide +kernel
set_option maxRecDepth 100000 in
theorem ck_259 : mk_259.all (fun l => l.all (okE 12 prog_14_method_29_code)) = true := all_c ck_259_0 (all_c ck_259_1 (all_c ck_259_2 (rfl)))
set_option maxRecDepth 100000 in
theorem ck_260_0 : mk_260_0.all (okE 12 prog_14_method_28_code) = true := by decide +kernel
set_option maxRecDepth 100000 in
theorem ck_260_1 : mk_260_1.all (okE 12 prog_14_method_28_code) = true := by decide +kernel
set_option maxRecDepth 100000 in
theorem ck_260_2 : mk_260_2.all (okE 12 prog_14_method_28_code) = true := by decide +kernel
set_option maxRecDepth 100000 in
theorem ck_260 : mk_260.all (fun l => l.all (okE 12 prog_14_method_28_code)) = true := all_c ck_260_0 (all_c ck_260_1 (all_c ck_260_2 (rfl)))
set_option maxRecDepth 100000 in
theorem ck_261_0 : mk_261_0.all (okE 12 prog_14_method_30_code) = true := by decide +kernel
set_option maxRecDepth 100000 in
theorem ck_261_1 : mk_261_1.all (okE 12 prog_14_method_30_code) = true := by decide +kernel
set_option maxRecDepth 100000 in
theorem ck_261 : mk_261.all (fun l => l.all (okE 12 prog_14_method_30_code)) = true := all_c ck_261_0 (all_c ck_261_1 (rfl))
set_option maxRecDepth 100000 in
theorem ck_262_0 : mk_262_0.all (okE 12 prog_14_method_35_code) = true := by decide +kernel
set_option maxRecDepth 100000 in
theorem ck_262_1 : mk_262_1.all (okE 12 prog_14_method_35_code) = true := by decide +kernel
set_option maxRecDepth 100000 in
theorem ck_262_2 : mk_262_2.all (okE 12 prog_14_method_35_code) = true := by decide +kernel
set_option maxRecDepth 100000 in
theorem ck_262 : mk_262.all (fun l => l.all (okE 12 prog_14_method_35_code)) = true := all_c ck_262_0 (all_c ck_262_1 (all_c ck_262_2 (rfl)))
set_option maxRecDepth 100000 in
theorem ck_263_0 : mk_263_0.all (okE 12 prog_14_method_4_code) = true := by decide +kernel
set_option maxRecDepth 100000 in
theorem ck_263 : mk_263.all (fun l => l.all (okE 12 prog_14_method_4_code)) = true := all_c ck_263_0 (rfl)
set_option maxRecDepth 100000 in
theorem ck_264_0 : mk_264_0.all (okE 12 prog_14_method_34_code) = true := by decide +kernel
set_option maxRecDepth 100000 in
theorem ck_264_1 : mk_264_1.all (okE 12 prog_14_method_34_code) = true := by decide +kernel
set_option maxRecDepth 100000 in
theorem ck_264_2 : mk_264_2.all (okE 12 prog_14_method_34_code) = true := by decide +kernel
set_option maxRecDepth 100000 in
theorem ck_264_3 : mk_264_3.all (okE 12 prog_14_method_34_code) = true := by decide +kernel
set_option maxRecDepth 100000 in
theorem ck_264 : mk_264.all (fun l => l.all (okE 12 prog_14_method_34_code)) = true := all_c ck_264_0 (all_c ck_264_1 (all_c ck_264_2 (all_c ck_264_3 (rfl))))
set_option maxRecDepth 100000 in
theorem ck_265_0 : mk_265_0.all (okE 12 prog_14_method_33_code) = true := by decide +kernel
set_option maxRecDepth 100000 in
theorem ck_265_1 : mk_265_1.all (okE 12 prog_14_method_33_code) = true := by decide +kernel
set_option maxRecDepth 100000 in
theorem ck_265_2 : mk_265_2.all (okE 12 prog_14_method_33_code) = true := by decide +kernel
set_option maxRecDepth 100000 in
theorem ck_265 : mk_265.all (fun l => l.all (okE 12 prog_14_method_33_code)) = true := all_c ck_265_0 (all_c ck_265_1 (all_c ck_265_2 (rfl)))
set_option maxRecDepth 100000 in
theorem ck_266_0 : mk_266_0.all (okE 12 prog_14_method_31_code) = true := by decide +kernel
set_option maxRecDepth 100000 in
theorem ck_266_1 : mk_266_1.all (okE 12 prog_14_method_31_code) = true := by decide +kernel
set_option maxRecDepth 100000 in
theorem ck_266 : mk_266.all (fun l => l.all (okE 12 prog_14_method_31_code)) = true := all_c ck_266_0 (all_c ck_266_1 (rfl))
set_option maxRecDepth 100000 in
theorem ck_267_0 : mk_267_0.all (okE 12 prog_14_method_32_code) = true := by decide +kernel
set_option maxRecDepth 100000 in
theorem ck_267_1 : mk_267_1.all (okE 12 prog_14_method_32_code) = true := by decide +kernel
set_option maxRecDepth 100000 in
theorem ck_267_2 : mk_267_2.all (okE 12 prog_14_method_32_code) = true := by decide +kernel
set_option maxRecDepth 100000 in
theorem ck_267 : mk_267.all (fun l => l.all (okE 12 prog_14_method_32_code)) = true := all_c ck_267_0 (all_c ck_267_1 (all_c ck_267_2 (rfl)))
set_option maxRecDepth 100000 in
theorem ck_268_0 : mk_268_0.all (okE 12 prog_14_method_36_code) = true := by decide +kernel
set_option maxRecDepth 100000 in
theorem ck_268_1 : mk_268_1.all (okE 12 prog_14_method_36_code) = true := by decide +kernel
set_option maxRecDepth 100000 in
theorem ck_268_2 : mk_268_2.all (okE 12 prog_14_method_36_code) = true := by decide +kernel
set_option maxRecDepth 100000 in
theorem ck_268_3 : mk_268_3.all (okE 12 prog_14_method_36_code) = true := by decide +kernel
set_option maxRecDepth 100000 in
theorem ck_268_4 : mk_268_4.all (okE 12 prog_14_method_36_code) = true := by decide +kernel
set_option maxRecDepth 100000 in
theorem ck_268_5 : mk_268_5.all (okE 12 prog_14_method_36_code) = true := by decide +kernel
set_option maxRecDepth 100000 in
theorem ck_268 : mk_268.all (fun l => l.all (okE 12 prog_14_method_36_code)) = true := all_c ck_268_0 (all_c ck_268_1 (all_c ck_268_2 (all_c ck_268_3 (all_c ck_268_4 (all_c ck_268_5 (rfl))))))
set_option maxRecDepth 100000 in
theorem ck_269_0 : mk_269_0.all (okE 12 prog_14_method_37_code) = true := by decide +kernel
set_option maxRecDepth 100000 in
theorem ck_269 : mk_269.all (fun l => l.all (okE 12 prog_14_method_37_code)) = true := all_c ck_269_0 (rfl)
set_option maxRecDepth 100000 in
theorem ck_270_0 : mk_270_0.all (okE 12 prog_14_method_40_code) = true := by decide +kernel
set_option maxRecDepth 100000 in
theorem ck_270_1 : mk_270_1.all (okE 12 prog_14_method_40_code) = true := by decide +kernel
set_option maxRecDepth 100000 in
theorem ck_270_2 : mk_270_2.all (okE 12 prog_14_method_40_code) = true := by decide +kernel
set_option maxRecDepth 100000 in
theorem ck_270_3 : mk_270_3.all (okE 12 prog_14_method_40_code) = true := by decide +kernel
set_option maxRecDepth 100000 in
theorem ck_270_4 : mk_270_4.all (okE 12 prog_14_method_40_code) = true := by decide +kernel
set_option maxRecDepth 100000 in
theorem ck_270_5 : mk_270_5.all (okE 12 prog_14_method_40_code) = true := by decide +kernel
set_option maxRecDepth 100000 in
theorem ck_270_6 : mk_270_6.all (okE 12 prog_14_method_40_code) = true := by decide +kernel
set_option maxRecDepth 100000 in
theorem ck_270_7 : mk_270_7.all (okE 12 prog_14_method_40_code) = true := by decide +kernel
set_option maxRecDepth 100000 in
theorem ck_270_8 : mk_270_8.all (okE 12 prog_14_method_40_code) = true := by decide +kernel
set_option maxRecDepth 100000 in
theorem ck_270_9 : mk_270_9.all (okE 12 prog_14_method_40_code) = true := by decide +kernel
set_option maxRecDepth 100000 in
theorem ck_270_10 : mk_270_10.all (okE 12 prog_14_method_40_code) = true := by decide +kernel
set_option maxRecDepth 100000 in
theorem ck_270 : mk_270.all (fun l => l.all (okE 12 prog_14_method_40_code)) = true := all_c ck_270_0 (all_c ck_270_1 (all_c ck_270_2 (all_c ck_270_3 (all_c ck_270_4 (all_c ck_270_5 (all_c ck_270_6 (all_c ck_270_7 (all_c ck_270_8 (all_c ck_270_9 (all_c ck_270_10 (rfl)))))))))))
set_option maxRecDepth 100000 in
theorem ck_271_0 : mk_271_0.all (okE 12 prog_14_method_129_code) = true := by decide +kernel
set_option maxRecDepth 100000 in
theorem ck_271 : mk_271.all (fun l => l.all (okE 12 prog_14_method_129_code)) = true := all_c ck_271_0 (rfl)
set_option maxRecDepth 100000 in
theorem ck_272_0 : mk_272_0.all (okE 12 prog_14_method_38_code) = true := by decide +kernel
set_option maxRecDepth 100000 in
theorem ck_272_1 : mk_272_1.all (okE 12 prog_14_method_38_code) = true := by decide +kernel
set_option maxRecDepth 100000 in
theorem ck_272_2 : mk_272_2.all (okE 12 prog_14_method_38_code) = true := by decide +kernel
set_option maxRecDepth 100000 in
theorem ck_272_3 : mk_272_3.all (okE 12 prog_14_method_38_code) = true := by decide +kernel
set_option maxRecDepth 100000 in
theorem ck_272_4 : mk_272_4.all (okE 12 prog_14_method_38_code) = true := by decide +kernel
set_option maxRecDepth 100000 in
theorem ck_272_5 : mk_272_5.all (okE 12 prog_14_method_38_code) = true := by decide +kernel
set_option maxRecDepth 100000 in
theorem ck_272_6 : mk_272_6.all (okE 12 prog_14_method_38_code) = true := by decide +kernel
set_option maxRecDepth 100000 in
theorem ck_272 : mk_272.all (fun l => l.all (okE 12 prog_14_method_38_code)) = true := all_c ck_272_0 (all_c ck_272_1 (all_c ck_272_2 (all_c ck_272_3 (all_c ck_272_4 (all_c ck_272_5 (all_c ck_272_6 (rfl)))))))
set_option maxRecDepth 100000 in
theorem ck_273_0 : mk_273_0.all (okE 12 prog_14_method_39_code) = true := by decide +kernel
set_option maxRecDepth 100000 in
theorem ck_273_1 : mk_273_1.all (okE 12 prog_14_method_39_code) = true := by decide +kernel
set_option maxRecDepth 100000 in
theorem ck_273 : mk_273.all (fun l => l.all (okE 12 prog_14_method_39_code)) = true := all_c ck_273_0 (all_c ck_273_1 (rfl))
set_option maxRecDepth 100000 in
theorem ck_274_0 : mk_274_0.all (okE 12 prog_14_method_41_code) = true := by decide +kernel
set_option maxRecDepth 100000 in
theorem ck_274_1 : mk_274_1.all (okE 12 prog_14_method_41_code) = true := by decide +kernel
set_option maxRecDepth 100000 in
theorem ck_274 : mk_274.all (fun l => l.all (okE 12 prog_14_method_41_code)) = true := all_c ck_274_0 (all_c ck_274_1 (rfl))
set_option maxRecDepth 100000 in
theorem ck_275_0 : mk_275_0.all (okE 12 prog_14_method_42_code) = true := by decide +kernel
set_option maxRecDepth 100000 in
theorem ck_275_1 : mk_275_1.all (okE 12 prog_14_method_42_code) = true := by decide +kernel
set_option maxRecDepth 100000 in
theorem ck_275 : mk_275.all (fun l => l.all (okE 12 prog_14_method_42_code)) = true := all_c ck_275_0 (all_c ck_275_1 (rfl))
set_option maxRecDepth 100000 in
theorem ck_276_0 : mk_276_0.all (okE 12 prog_14_method_43_code) = true := by decide +kernel
set_option maxRecDepth 100000 in
theorem ck_276 : mk_276.all (fun l => l.all (okE 12 prog_14_method_43_code)) = true := all_c ck_276_0 (rfl)
set_option maxRecDepth 100000 in
theorem ck_277_0 : mk_277_0.all (okE 12 prog_14_method_60_code) = true := by decide +kernel
set_option maxRecDepth 100000 in
theorem ck_277_1 : mk_277_1.all (okE 12 prog_14_method_60_code) = true := by decide +kernel
set_option maxRecDepth 100000 in
theorem ck_277_2 : mk_277_2.all (okE 12 prog_14_method_60_code) = true := by decide +kernel
set_option maxRecDepth 100000 in
theorem ck_277_3 : mk_277_3.all (okE 12 prog_14_method_60_code) = true := by decide +kernel
set_option maxRecDepth 100000 in
theorem ck_277_4 : mk_277_4.all (okE 12 prog_14_method_60_code) = true := by decide +kernel
set_option maxRecDepth 100000 in
theorem ck_277_5 : mk_277_5.all (okE 12 prog_14_method_60_code) = true := by decide +kernel
set_option maxRecDepth 100000 in
theorem ck_277 : mk_277.all (fun l => l.all (okE 12 prog_14_method_60_code)) = true := all_c ck_277_0 (all_c ck_277_1 (all_c ck_277_2 (all_c ck_277_3 (all_c ck_277_4 (all_c ck_277_5 (rfl))))))
set_option maxRecDepth 100000 in
theorem ck_278_0 : mk_278_0.all (okE 12 prog_14_method_46_code) = true := by decide +kernel
set_option maxRecDepth 100000 in
theorem ck_278_1 : mk_278_1.all (okE 12 prog_14_method_46_code) = true := by decide +kernel
set_option maxRecDepth 100000 in
theorem ck_278_2 : mk_278_2.all (okE 12 prog_14_method_46_code) = true := by decide +kernel
set_option maxRecDepth 100000 in
theorem ck_278_3 : mk_278_3.all (okE 12 prog_14_method_46_code) = true := by decide +kernel
set_option maxRecDepth 100000 in
theorem ck_278_4 : mk_278_4.all (okE 12 prog_14_method_46_code) = true := by decide +kernel
set_option maxRecDepth 100000 in
theorem ck_278_5 : mk_278_5.all (okE 12 prog_14_method_46_code) = true := by decide +kernel
set_option maxRecDepth 100000 in
theorem ck_278_6 : mk_278_6.all (okE 12 prog_14_method_46_code) = true := by decide +kernel
set_option maxRecDepth 100000 in
theorem ck_278_7 : mk_278_7.all (okE 12 prog_14_method_46_code) = true := by decide +kernel
set_option maxRecDepth 100000 in
theorem ck_278_8 : mk_278_8.all (okE 12 prog_14_method_46_code) = true := by decide +kernel
set_option maxRecDepth 100000 in
theorem ck_278_9 : mk_278_9.all (okE 12 prog_14_method_46_code) = true := by decide +kernel
set_option maxRecDepth 100000 in
theorem ck_278 : mk_278.all (fun l => l.all (okE 12 prog_14_method_46_code)) = true := all_c ck_278_0 (all_c ck_278_1 (all_c ck_278_2 (all_c ck_278_3 (all_c ck_278_4 (all_c ck_278_5 (all_c ck_278_6 (all_c ck_278_7 (all_c ck_278_8 (all_c ck_278_9 (rfl))))))))))
