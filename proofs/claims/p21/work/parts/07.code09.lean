/-! the code tables hold, by the kernel -/
set_option maxRecDepth 100000 in
theorem ck_371_24 : mk_371_24.all (okE 13 code) = true := by decide +kernel
set_option maxRecDepth 100000 in
theorem ck_371_25 : mk_371_25.all (okE 13 code) = true := by decide +kernel
set_option maxRecDepth 100000 in
theorem ck_371_26 : mk_371_26.all (okE 13 code) = true := by decide +kernel
set_option maxRecDepth 100000 in
theorem ck_371_27 : mk_371_27.all (okE 13 code) = true := by decide +kernel
set_option maxRecDepth 100000 in
theorem ck_371_28 : mk_371_28.all (okE 13 code) = true := by decide +kernel
set_option maxRecDepth 100000 in
theorem ck_371_29 : mk_371_29.all (okE 13 code) = true := by decide +kernel
set_option maxRecDepth 100000 in
theorem ck_371_30 : mk_371_30.all (okE 13 code) = true := by decide +kernel
set_option maxRecDepth 100000 in
theorem ck_371_31 : mk_371_31.all (okE 13 code) = true := by decide +kernel
set_option maxRecDepth 100000 in
theorem ck_371_32 : mk_371_32.all (okE 13 code) = true := by decide +kernel
set_option maxRecDepth 100000 in
theorem ck_371_33 : mk_371_33.all (okE 13 code) = true := by decide +kernel
set_option maxRecDepth 100000 in
theorem ck_371_34 : mk_371_34.all (okE 13 code) = true := by decide +kernel
set_option maxRecDepth 100000 in
theorem ck_371_35 : mk_371_35.all (okE 13 code) = true := by decide +kernel
set_option maxRecDepth 100000 in
theorem ck_371_36 : mk_371_36.all (okE 13 code) = true := by decide +kernel
set_option maxRecDepth 100000 in
theorem ck_371_37 : mk_371_37.all (okE 13 code) = true := by decide +kernel
set_option maxRecDepth 100000 in
theorem ck_371_38 : mk_371_38.all (okE 13 code) = true := by decide +kernel
set_option maxRecDepth 100000 in
theorem ck_371_39 : mk_371_39.all (okE 13 code) = true := by decide +kernel
set_option maxRecDepth 100000 in
theorem ck_371_40 : mk_371_40.all (okE 13 code) = true := by decide +kernel
set_option maxRecDepth 100000 in
theorem ck_371_41 : mk_371_41.all (okE 13 code) = true := by decide +kernel
set_option maxRecDepth 100000 in
theorem ck_371_42 : mk_371_42.all (okE 13 code) = true := by decide +kernel
set_option maxRecDepth 100000 in
theorem ck_371_43 : mk_371_43.all (okE 13 code) = true := by decide +kernel
set_option maxRecDepth 100000 in
theorem ck_371_44 : mk_371_44.all (okE 13 code) = true := by decide +kernel
set_option maxRecDepth 100000 in
theorem ck_371_45 : mk_371_45.all (okE 13 code) = true := by decide +kernel
set_option maxRecDepth 100000 in
theorem ck_371_46 : mk_371_46.all (okE 13 code) = true := by decide +kernel
set_option maxRecDepth 100000 in
theorem ck_371_47 : mk_371_47.all (okE 13 code) = true := by decide +kernel
