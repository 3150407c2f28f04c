/-! the code tables hold, by the kernel -/
set_option maxRecDepth 100000 in
theorem ck_371_0 : mk_371_0.all (okE 13 code) = true := by decide +kernel
set_option maxRecDepth 100000 in
theorem ck_371_1 : mk_371_1.all (okE 13 code) = true := by decide +kernel
set_option maxRecDepth 100000 in
theorem ck_371_2 : mk_371_2.all (okE 13 code) = true := by decide +kernel
set_option maxRecDepth 100000 in
theorem ck_371_3 : mk_371_3.all (okE 13 code) = true := by decide +kernel
set_option maxRecDepth 100000 in
theorem ck_371_4 : mk_371_4.all (okE 13 code) = true := by decide +kernel
set_option maxRecDepth 100000 in
theorem ck_371_5 : mk_371_5.all (okE 13 code) = true := by decide +kernel
set_option maxRecDepth 100000 in
theorem ck_371_6 : mk_371_6.all (okE 13 code) = true := by decide +kernel
set_option maxRecDepth 100000 in
theorem ck_371_7 : mk_371_7.all (okE 13 code) = true := by decide +kernel
set_option maxRecDepth 100000 in
theorem ck_371_8 : mk_371_8.all (okE 13 code) = true := by decide +kernel
set_option maxRecDepth 100000 in
theorem ck_371_9 : mk_371_9.all (okE 13 code) = true := by decide +kernel
set_option maxRecDepth 100000 in
theorem ck_371_10 : mk_371_10.all (okE 13 code) = true := by decide +kernel
set_option maxRecDepth 100000 in
theorem ck_371_11 : mk_371_11.all (okE 13 code) = true := by decide +kernel
set_option maxRecDepth 100000 in
theorem ck_371_12 : mk_371_12.all (okE 13 code) = true := by decide +kernel
set_option maxRecDepth 100000 in
theorem ck_371_13 : mk_371_13.all (okE 13 code) = true := by decide +kernel
set_option maxRecDepth 100000 in
theorem ck_371_14 : mk_371_14.all (okE 13 code) = true := by decide +kernel
set_option maxRecDepth 100000 in
theorem ck_371_15 : mk_371_15.all (okE 13 code) = true := by decide +kernel
set_option maxRecDepth 100000 in
theorem ck_371_16 : mk_371_16.all (okE 13 code) = true := by decide +kernel
set_option maxRecDepth 100000 in
theorem ck_371_17 : mk_371_17.all (okE 13 code) = true := by decide +kernel
set_option maxRecDepth 100000 in
theorem ck_371_18 : mk_371_18.all (okE 13 code) = true := by decide +kernel
set_option maxRecDepth 100000 in
theorem ck_371_19 : mk_371_19.all (okE 13 code) = true := by decide +kernel
set_option maxRecDepth 100000 in
theorem ck_371_20 : mk_371_20.all (okE 13 code) = true := by decide +kernel
set_option maxRecDepth 100000 in
theorem ck_371_21 : mk_371_21.all (okE 13 code) = true := by decide +kernel
set_option maxRecDepth 100000 in
theorem ck_371_22 : mk_371_22.all (okE 13 code) = true := by decide +kernel
set_option maxRecDepth 100000 in
theorem ck_371_23 : mk_371_23.all (okE 13 code) = true := by decide +kernel
