/-! the code tables hold, by the kernel -/
set_option maxRecDepth 100000 in
theorem ck_371_48 : mk_371_48.all (okE 13 code) = true := by decide +kernel
set_option maxRecDepth 100000 in
theorem ck_371_49 : mk_371_49.all (okE 13 code) = true := by decide +kernel
set_option maxRecDepth 100000 in
theorem ck_371_50 : mk_371_50.all (okE 13 code) = true := by decide +kernel
set_option maxRecDepth 100000 in
theorem ck_371_51 : mk_371_51.all (okE 13 code) = true := by decide +kernel
set_option maxRecDepth 100000 in
theorem ck_371_52 : mk_371_52.all (okE 13 code) = true := by decide +kernel
set_option maxRecDepth 100000 in
theorem ck_371_53 : mk_371_53.all (okE 13 code) = true := by decide +kernel
set_option maxRecDepth 100000 in
theorem ck_371_54 : mk_371_54.all (okE 13 code) = true := by decide +kernel
set_option maxRecDepth 100000 in
theorem ck_371_55 : mk_371_55.all (okE 13 code) = true := by decide +kernel
set_option maxRecDepth 100000 in
theorem ck_371_56 : mk_371_56.all (okE 13 code) = true := by decide +kernel
set_option maxRecDepth 100000 in
theorem ck_371_57 : mk_371_57.all (okE 13 code) = true := by decide +kernel
set_option maxRecDepth 100000 in
theorem ck_371_58 : mk_371_58.all (okE 13 code) = true := by decide +kernel
set_option maxRecDepth 100000 in
theorem ck_371_59 : mk_371_59.all (okE 13 code) = true := by decide +kernel
set_option maxRecDepth 100000 in
theorem ck_371_60 : mk_371_60.all (okE 13 code) = true := by decide +kernel
set_option maxRecDepth 100000 in
theorem ck_371_61 : mk_371_61.all (okE 13 code) = true := by decide +kernel
set_option maxRecDepth 100000 in
theorem ck_371_62 : mk_371_62.all (okE 13 code) = true := by decide +kernel
set_option maxRecDepth 100000 in
theorem ck_371_63 : mk_371_63.all (okE 13 code) = true := by decide +kernel
set_option maxRecDepth 100000 in
theorem ck_371_64 : mk_371_64.all (okE 13 code) = true := by decide +kernel
set_option maxRecDepth 100000 in
theorem ck_371_65 : mk_371_65.all (okE 13 code) = true := by decide +kernel
set_option maxRecDepth 100000 in
theorem ck_371_66 : mk_371_66.all (okE 13 code) = true := by decide +kernel
set_option maxRecDepth 100000 in
theorem ck_371_67 : mk_371_67.all (okE 13 code) = true := by decide +kernel
set_option maxRecDepth 100000 in
theorem ck_371_68 : mk_371_68.all (okE 13 code) = true := by decide +kernel
set_option maxRecDepth 100000 in
theorem ck_371_69 : mk_371_69.all (okE 13 code) = true := by decide +kernel
