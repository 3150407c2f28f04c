/-! the code tables hold, by the kernel -/
set_option maxRecDepth 100000 in
theorem ck_371_0 : mk_371_0.all (okE 13 code) = true := by decide +kernel
set_option maxRecDepth 100000 in
theorem ck_371_1 : mk_371_1.all (okE 13 code) = true := by decide +kernel
set_option maxRecDepth 100000 in
theorem ck_371_2 : mk_371_2.all (okE 13 code) = true := by decide +kernel
set_option maxRecDepth 100000 in
theorem ck_371_3 : mk_371_3.all (okE 13 code) = true := by decide +kernel
set_option maxRecDepth 100000 in
theorem ck_371_4 : mk_371_4.all (okE 13 code) = true := by decide +kernel
set_option maxRecDepth 100000 in
theorem ck_371_5 : mk_371_5.all (okE 13 code) = true := by decide +kernel
set_option maxRecDepth 100000 in
theorem ck_371_6 : mk_371_6.all (okE 13 code) = true := by decide +kernel
set_option maxRecDepth 100000 in
theorem ck_371_7 : mk_371_7.all (okE 13 code) = true := by decide +kernel
set_option maxRecDepth 100000 in
theorem ck_371_8 : mk_371_8.all (okE 13 code) = true := all_okFb (C := [0, 0, 7, 227, 0, 0, 8, 4, 0, 0, 8, 67, 0, 0, 8, 100, 0, 0, 8, 113, 43, 42, 29, 4, 96, 46, 42, 29, 5, 96, 46, 182, 0, 13, 87, 44]) (k := 256) (by decide +kernel) (by decide +kernel)
set_option maxRecDepth 100000 in
theorem ck_371_9 : mk_371_9.all (okE 13 code) = true := all_okFb (C := [0, 13, 87, 44, 42, 29, 4, 96, 46, 42, 29, 5, 96, 46, 182, 0, 17, 87, 167, 7, 119, 43, 42, 29, 4, 96, 46, 42, 29, 5, 96, 46, 42, 29, 6, 96]) (k := 288) (by decide +kernel) (by decide +kernel)
set_option maxRecDepth 100000 in
theorem ck_371_10 : mk_371_10.all (okE 13 code) = true := all_okFb (C := [42, 29, 6, 96, 46, 42, 29, 7, 96, 46, 182, 0, 18, 87, 44, 42, 29, 4, 96, 46, 42, 29, 5, 96, 46, 42, 29, 6, 96, 46, 42, 29, 7, 96, 46, 182]) (k := 320) (by decide +kernel) (by decide +kernel)
set_option maxRecDepth 100000 in
theorem ck_371_11 : mk_371_11.all (okE 13 code) = true := all_okFb (C := [7, 96, 46, 182, 0, 22, 87, 167, 7, 66, 43, 42, 29, 4, 96, 46, 42, 29, 5, 96, 46, 182, 0, 23, 87, 44, 42, 29, 4, 96, 46, 42, 29, 5, 96, 46]) (k := 352) (by decide +kernel) (by decide +kernel)
set_option maxRecDepth 100000 in
theorem ck_371_12 : mk_371_12.all (okE 13 code) = true := all_okFb (C := [29, 5, 96, 46, 182, 0, 26, 87, 167, 7, 33, 43, 42, 29, 4, 96, 46, 182, 0, 27, 87, 44, 42, 29, 4, 96, 46, 182, 0, 31, 87, 167, 7, 10, 43, 42]) (k := 384) (by decide +kernel) (by decide +kernel)
set_option maxRecDepth 100000 in
theorem ck_371_13 : mk_371_13.all (okE 13 code) = true := all_okFb (C := [7, 10, 43, 42, 29, 4, 96, 46, 182, 0, 32, 87, 44, 42, 29, 4, 96, 46, 182, 0, 35, 87, 167, 6, 243, 43, 42, 29, 4, 96, 46, 42, 29, 5, 96, 46]) (k := 416) (by decide +kernel) (by decide +kernel)
set_option maxRecDepth 100000 in
theorem ck_371_14 : mk_371_14.all (okE 13 code) = true := all_okFb (C := [29, 5, 96, 46, 42, 29, 6, 96, 46, 42, 29, 7, 96, 46, 182, 0, 36, 87, 44, 42, 29, 4, 96, 46, 42, 29, 5, 96, 46, 42, 29, 6, 96, 46, 42, 29]) (k := 448) (by decide +kernel) (by decide +kernel)
set_option maxRecDepth 100000 in
theorem ck_371_15 : mk_371_15.all (okE 13 code) = true := all_okFb (C := [96, 46, 42, 29, 7, 96, 46, 182, 0, 39, 87, 167, 6, 190, 43, 42, 29, 4, 96, 46, 182, 0, 40, 87, 44, 42, 29, 4, 96, 46, 182, 0, 43, 87, 167, 6]) (k := 480) (by decide +kernel) (by decide +kernel)
set_option maxRecDepth 100000 in
theorem ck_371_16 : mk_371_16.all (okE 13 code) = true := all_okFb (C := [43, 87, 167, 6, 167, 43, 42, 29, 4, 96, 46, 42, 29, 5, 96, 46, 182, 0, 44, 87, 44, 42, 29, 4, 96, 46, 42, 29, 5, 96, 46, 182, 0, 47, 87, 167]) (k := 512) (by decide +kernel) (by decide +kernel)
set_option maxRecDepth 100000 in
theorem ck_371_17 : mk_371_17.all (okE 13 code) = true := all_okFb (C := [0, 47, 87, 167, 6, 134, 43, 42, 29, 4, 96, 46, 42, 29, 5, 96, 46, 42, 29, 6, 96, 46, 182, 0, 48, 87, 44, 42, 29, 4, 96, 46, 42, 29, 5, 96]) (k := 544) (by decide +kernel) (by decide +kernel)
set_option maxRecDepth 100000 in
theorem ck_371_18 : mk_371_18.all (okE 13 code) = true := all_okFb (C := [42, 29, 5, 96, 46, 42, 29, 6, 96, 46, 182, 0, 52, 87, 167, 6, 91, 43, 42, 29, 4, 96, 46, 42, 29, 5, 96, 46, 182, 0, 53, 87, 44, 42, 29, 4]) (k := 576) (by decide +kernel) (by decide +kernel)
set_option maxRecDepth 100000 in
theorem ck_371_19 : mk_371_19.all (okE 13 code) = true := all_okFb (C := [44, 42, 29, 4, 96, 46, 42, 29, 5, 96, 46, 182, 0, 56, 87, 167, 6, 58, 43, 42, 29, 4, 96, 46, 42, 29, 5, 96, 46, 182, 0, 57, 87, 44, 42, 29]) (k := 608) (by decide +kernel) (by decide +kernel)
set_option maxRecDepth 100000 in
theorem ck_371_20 : mk_371_20.all (okE 13 code) = true := all_okFb (C := [87, 44, 42, 29, 4, 96, 46, 42, 29, 5, 96, 46, 182, 0, 60, 87, 167, 6, 25, 43, 42, 29, 4, 96, 46, 42, 29, 5, 96, 46, 182, 0, 61, 87, 44, 42]) (k := 640) (by decide +kernel) (by decide +kernel)
set_option maxRecDepth 100000 in
theorem ck_371_21 : mk_371_21.all (okE 13 code) = true := all_okFb (C := [61, 87, 44, 42, 29, 4, 96, 46, 42, 29, 5, 96, 46, 182, 0, 64, 87, 167, 5, 248, 43, 42, 29, 4, 96, 46, 42, 29, 5, 96, 46, 182, 0, 65, 87, 44]) (k := 672) (by decide +kernel) (by decide +kernel)
set_option maxRecDepth 100000 in
theorem ck_371_22 : mk_371_22.all (okE 13 code) = true := all_okFb (C := [0, 65, 87, 44, 42, 29, 4, 96, 46, 42, 29, 5, 96, 46, 182, 0, 68, 87, 167, 5, 215, 43, 42, 29, 4, 96, 46, 42, 29, 5, 96, 46, 42, 29, 6, 96]) (k := 704) (by decide +kernel) (by decide +kernel)
set_option maxRecDepth 100000 in
theorem ck_371_23 : mk_371_23.all (okE 13 code) = true := all_okFb (C := [42, 29, 6, 96, 46, 42, 29, 7, 96, 46, 182, 0, 69, 87, 44, 42, 29, 4, 96, 46, 42, 29, 5, 96, 46, 42, 29, 6, 96, 46, 42, 29, 7, 96, 46, 182]) (k := 736) (by decide +kernel) (by decide +kernel)
set_option maxRecDepth 100000 in
theorem ck_371_24 : mk_371_24.all (okE 13 code) = true := all_okFb (C := [7, 96, 46, 182, 0, 72, 87, 167, 5, 162, 43, 42, 29, 4, 96, 46, 182, 0, 73, 87, 44, 42, 29, 4, 96, 46, 182, 0, 76, 87, 167, 5, 139, 43, 42, 29]) (k := 768) (by decide +kernel) (by decide +kernel)
set_option maxRecDepth 100000 in
theorem ck_371_25 : mk_371_25.all (okE 13 code) = true := all_okFb (C := [139, 43, 42, 29, 4, 96, 46, 42, 29, 5, 96, 46, 42, 29, 6, 96, 46, 182, 0, 77, 87, 44, 42, 29, 4, 96, 46, 42, 29, 5, 96, 46, 42, 29, 6, 96]) (k := 800) (by decide +kernel) (by decide +kernel)
set_option maxRecDepth 100000 in
theorem ck_371_26 : mk_371_26.all (okE 13 code) = true := all_okFb (C := [42, 29, 6, 96, 46, 182, 0, 80, 87, 167, 5, 96, 43, 42, 29, 4, 96, 46, 182, 0, 81, 87, 44, 42, 29, 4, 96, 46, 182, 0, 84, 87, 167, 5, 73, 43]) (k := 832) (by decide +kernel) (by decide +kernel)
set_option maxRecDepth 100000 in
theorem ck_371_27 : mk_371_27.all (okE 13 code) = true := all_okFb (C := [167, 5, 73, 43, 42, 29, 4, 96, 46, 42, 29, 5, 96, 46, 42, 29, 6, 96, 46, 42, 29, 7, 96, 46, 182, 0, 85, 87, 44, 42, 29, 4, 96, 46, 42, 29]) (k := 864) (by decide +kernel) (by decide +kernel)
set_option maxRecDepth 100000 in
theorem ck_371_28 : mk_371_28.all (okE 13 code) = true := all_okFb (C := [96, 46, 42, 29, 5, 96, 46, 42, 29, 6, 96, 46, 42, 29, 7, 96, 46, 182, 0, 88, 87, 167, 5, 20, 43, 42, 29, 4, 96, 46, 182, 0, 89, 87, 44, 42]) (k := 896) (by decide +kernel) (by decide +kernel)
set_option maxRecDepth 100000 in
theorem ck_371_29 : mk_371_29.all (okE 13 code) = true := all_okFb (C := [89, 87, 44, 42, 29, 4, 96, 46, 182, 0, 92, 87, 167, 4, 253, 43, 42, 29, 4, 96, 46, 42, 29, 5, 96, 46, 42, 29, 6, 96, 46, 42, 29, 7, 96, 46]) (k := 928) (by decide +kernel) (by decide +kernel)
set_option maxRecDepth 100000 in
theorem ck_371_30 : mk_371_30.all (okE 13 code) = true := all_okFb (C := [29, 7, 96, 46, 42, 29, 8, 96, 46, 182, 0, 93, 87, 44, 42, 29, 4, 96, 46, 42, 29, 5, 96, 46, 42, 29, 6, 96, 46, 42, 29, 7, 96, 46, 42, 29]) (k := 960) (by decide +kernel) (by decide +kernel)
set_option maxRecDepth 100000 in
theorem ck_371_31 : mk_371_31.all (okE 13 code) = true := all_okFb (C := [96, 46, 42, 29, 8, 96, 46, 182, 0, 97, 87, 167, 4, 190, 43, 42, 29, 4, 96, 46, 182, 0, 98, 87, 44, 42, 29, 4, 96, 46, 182, 0, 101, 87, 167, 4]) (k := 992) (by decide +kernel) (by decide +kernel)
set_option maxRecDepth 100000 in
theorem ck_371_32 : mk_371_32.all (okE 13 code) = true := all_okFb (C := [101, 87, 167, 4, 167, 43, 42, 29, 4, 96, 46, 182, 0, 102, 87, 44, 42, 29, 4, 96, 46, 182, 0, 105, 87, 167, 4, 144, 43, 42, 29, 4, 96, 46, 42, 29]) (k := 1024) (by decide +kernel) (by decide +kernel)
set_option maxRecDepth 100000 in
theorem ck_371_33 : mk_371_33.all (okE 13 code) = true := all_okFb (C := [96, 46, 42, 29, 5, 96, 46, 42, 29, 6, 96, 46, 182, 0, 106, 44, 42, 29, 4, 96, 46, 42, 29, 5, 96, 46, 42, 29, 6, 96, 46, 182, 0, 109, 159, 4]) (k := 1056) (by decide +kernel) (by decide +kernel)
set_option maxRecDepth 100000 in
theorem ck_371_34 : mk_371_34.all (okE 13 code) = true := all_okFb (C := [0, 109, 159, 4, 103, 3, 172, 43, 42, 29, 4, 96, 46, 42, 29, 5, 96, 46, 42, 29, 6, 96, 46, 42, 29, 7, 96, 46, 182, 0, 110, 87, 44, 42, 29, 4]) (k := 1088) (by decide +kernel) (by decide +kernel)
set_option maxRecDepth 100000 in
theorem ck_371_35 : mk_371_35.all (okE 13 code) = true := all_okFb (C := [44, 42, 29, 4, 96, 46, 42, 29, 5, 96, 46, 42, 29, 6, 96, 46, 42, 29, 7, 96, 46, 182, 0, 113, 87, 167, 4, 48, 43, 42, 29, 4, 96, 46, 42, 29]) (k := 1120) (by decide +kernel) (by decide +kernel)
set_option maxRecDepth 100000 in
theorem ck_371_36 : mk_371_36.all (okE 13 code) = true := all_okFb (C := [96, 46, 42, 29, 5, 96, 46, 182, 0, 114, 87, 44, 42, 29, 4, 96, 46, 42, 29, 5, 96, 46, 182, 0, 117, 87, 167, 4, 15, 43, 42, 29, 4, 96, 46, 42]) (k := 1152) (by decide +kernel) (by decide +kernel)
set_option maxRecDepth 100000 in
theorem ck_371_37 : mk_371_37.all (okE 13 code) = true := all_okFb (C := [4, 96, 46, 42, 29, 5, 96, 46, 182, 0, 118, 87, 44, 42, 29, 4, 96, 46, 42, 29, 5, 96, 46, 182, 0, 121, 87, 167, 3, 238, 43, 42, 29, 4, 96, 46]) (k := 1184) (by decide +kernel) (by decide +kernel)
set_option maxRecDepth 100000 in
theorem ck_371_38 : mk_371_38.all (okE 13 code) = true := all_okFb (C := [29, 4, 96, 46, 42, 29, 5, 96, 46, 42, 29, 6, 96, 46, 182, 0, 122, 87, 44, 42, 29, 4, 96, 46, 42, 29, 5, 96, 46, 42, 29, 6, 96, 46, 182, 0]) (k := 1216) (by decide +kernel) (by decide +kernel)
set_option maxRecDepth 100000 in
theorem ck_371_39 : mk_371_39.all (okE 13 code) = true := all_okFb (C := [96, 46, 182, 0, 125, 87, 167, 3, 195, 43, 42, 29, 4, 96, 46, 42, 29, 5, 96, 46, 182, 0, 126, 87, 44, 42, 29, 4, 96, 46, 42, 29, 5, 96, 46, 182]) (k := 1248) (by decide +kernel) (by decide +kernel)
set_option maxRecDepth 100000 in
theorem ck_371_40 : mk_371_40.all (okE 13 code) = true := all_okFb (C := [5, 96, 46, 182, 0, 129, 87, 167, 3, 162, 43, 42, 29, 4, 96, 46, 42, 29, 5, 96, 46, 182, 0, 130, 87, 44, 42, 29, 4, 96, 46, 42, 29, 5, 96, 46]) (k := 1280) (by decide +kernel) (by decide +kernel)
set_option maxRecDepth 100000 in
theorem ck_371_41 : mk_371_41.all (okE 13 code) = true := all_okFb (C := [29, 5, 96, 46, 182, 0, 133, 87, 167, 3, 129, 43, 42, 29, 4, 96, 46, 182, 0, 134, 87, 44, 42, 29, 4, 96, 46, 182, 0, 137, 87, 167, 3, 106, 43, 42]) (k := 1312) (by decide +kernel) (by decide +kernel)
set_option maxRecDepth 100000 in
theorem ck_371_42 : mk_371_42.all (okE 13 code) = true := all_okFb (C := [3, 106, 43, 42, 29, 4, 96, 46, 42, 29, 5, 96, 46, 182, 0, 138, 87, 44, 42, 29, 4, 96, 46, 42, 29, 5, 96, 46, 182, 0, 141, 87, 167, 3, 73, 43]) (k := 1344) (by decide +kernel) (by decide +kernel)
set_option maxRecDepth 100000 in
theorem ck_371_43 : mk_371_43.all (okE 13 code) = true := all_okFb (C := [167, 3, 73, 43, 42, 29, 4, 96, 46, 182, 0, 142, 87, 44, 42, 29, 4, 96, 46, 182, 0, 145, 87, 167, 3, 50, 43, 42, 29, 4, 96, 46, 42, 29, 5, 96]) (k := 1376) (by decide +kernel) (by decide +kernel)
set_option maxRecDepth 100000 in
theorem ck_371_44 : mk_371_44.all (okE 13 code) = true := all_okFb (C := [42, 29, 5, 96, 46, 182, 0, 146, 87, 44, 42, 29, 4, 96, 46, 42, 29, 5, 96, 46, 182, 0, 149, 87, 167, 3, 17, 43, 42, 29, 4, 96, 46, 42, 29, 5]) (k := 1408) (by decide +kernel) (by decide +kernel)
set_option maxRecDepth 100000 in
theorem ck_371_45 : mk_371_45.all (okE 13 code) = true := all_okFb (C := [46, 42, 29, 5, 96, 46, 182, 0, 150, 87, 44, 42, 29, 4, 96, 46, 42, 29, 5, 96, 46, 182, 0, 153, 87, 167, 2, 240, 43, 42, 29, 4, 96, 46, 42, 29]) (k := 1440) (by decide +kernel) (by decide +kernel)
set_option maxRecDepth 100000 in
theorem ck_371_46 : mk_371_46.all (okE 13 code) = true := all_okFb (C := [96, 46, 42, 29, 5, 96, 46, 182, 0, 154, 87, 44, 42, 29, 4, 96, 46, 42, 29, 5, 96, 46, 182, 0, 157, 87, 167, 2, 207, 43, 42, 29, 4, 96, 46, 182]) (k := 1472) (by decide +kernel) (by decide +kernel)
set_option maxRecDepth 100000 in
theorem ck_371_47 : mk_371_47.all (okE 13 code) = true := all_okFb (C := [4, 96, 46, 182, 0, 158, 87, 44, 42, 29, 4, 96, 46, 182, 0, 161, 87, 167, 2, 184, 43, 182, 0, 162, 87, 44, 182, 0, 166, 87, 167, 2, 171, 43, 42, 29]) (k := 1504) (by decide +kernel) (by decide +kernel)
set_option maxRecDepth 100000 in
theorem ck_371_48 : mk_371_48.all (okE 13 code) = true := all_okFb (C := [171, 43, 42, 29, 4, 96, 46, 182, 0, 167, 87, 44, 42, 29, 4, 96, 46, 182, 0, 170, 87, 167, 2, 148, 43, 42, 29, 4, 96, 46, 42, 29, 5, 96, 46, 182]) (k := 1536) (by decide +kernel) (by decide +kernel)
set_option maxRecDepth 100000 in
theorem ck_371_49 : mk_371_49.all (okE 13 code) = true := all_okFb (C := [5, 96, 46, 182, 0, 171, 87, 44, 42, 29, 4, 96, 46, 42, 29, 5, 96, 46, 182, 0, 174, 87, 167, 2, 115, 43, 42, 29, 4, 96, 46, 182, 0, 175, 87, 44]) (k := 1568) (by decide +kernel) (by decide +kernel)
set_option maxRecDepth 100000 in
theorem ck_371_50 : mk_371_50.all (okE 13 code) = true := all_okFb (C := [0, 175, 87, 44, 42, 29, 4, 96, 46, 182, 0, 178, 87, 167, 2, 92, 43, 42, 29, 4, 96, 46, 182, 0, 179, 87, 44, 42, 29, 4, 96, 46, 182, 0, 182, 87]) (k := 1600) (by decide +kernel) (by decide +kernel)
set_option maxRecDepth 100000 in
theorem ck_371_51 : mk_371_51.all (okE 13 code) = true := all_okFb (C := [182, 0, 182, 87, 167, 2, 69, 43, 42, 29, 4, 96, 46, 42, 29, 5, 96, 46, 42, 29, 6, 96, 46, 182, 0, 183, 87, 44, 42, 29, 4, 96, 46, 42, 29, 5]) (k := 1632) (by decide +kernel) (by decide +kernel)
set_option maxRecDepth 100000 in
theorem ck_371_52 : mk_371_52.all (okE 13 code) = true := all_okFb (C := [46, 42, 29, 5, 96, 46, 42, 29, 6, 96, 46, 182, 0, 186, 87, 167, 2, 26, 43, 182, 0, 187, 87, 44, 182, 0, 190, 87, 167, 2, 13, 43, 42, 29, 4, 96]) (k := 1664) (by decide +kernel) (by decide +kernel)
set_option maxRecDepth 100000 in
theorem ck_371_53 : mk_371_53.all (okE 13 code) = true := all_okFb (C := [42, 29, 4, 96, 46, 182, 0, 191, 87, 44, 42, 29, 4, 96, 46, 182, 0, 194, 87, 167, 1, 246, 43, 42, 29, 4, 96, 46, 42, 29, 5, 96, 46, 182, 0, 195]) (k := 1696) (by decide +kernel) (by decide +kernel)
set_option maxRecDepth 100000 in
theorem ck_371_54 : mk_371_54.all (okE 13 code) = true := all_okFb (C := [46, 182, 0, 195, 87, 44, 42, 29, 4, 96, 46, 42, 29, 5, 96, 46, 182, 0, 198, 87, 167, 1, 213, 43, 42, 29, 4, 96, 46, 42, 29, 5, 96, 46, 42, 29]) (k := 1728) (by decide +kernel) (by decide +kernel)
set_option maxRecDepth 100000 in
theorem ck_371_55 : mk_371_55.all (okE 13 code) = true := all_okFb (C := [96, 46, 42, 29, 6, 96, 46, 182, 0, 199, 87, 44, 42, 29, 4, 96, 46, 42, 29, 5, 96, 46, 42, 29, 6, 96, 46, 182, 0, 202, 87, 167, 1, 170, 43, 42]) (k := 1760) (by decide +kernel) (by decide +kernel)
set_option maxRecDepth 100000 in
theorem ck_371_56 : mk_371_56.all (okE 13 code) = true := all_okFb (C := [1, 170, 43, 42, 29, 4, 96, 46, 42, 29, 5, 96, 46, 42, 29, 6, 96, 46, 182, 0, 203, 87, 44, 42, 29, 4, 96, 46, 42, 29, 5, 96, 46, 42, 29, 6]) (k := 1792) (by decide +kernel) (by decide +kernel)
set_option maxRecDepth 100000 in
theorem ck_371_57 : mk_371_57.all (okE 13 code) = true := all_okFb (C := [46, 42, 29, 6, 96, 46, 182, 0, 206, 87, 167, 1, 127, 43, 42, 29, 4, 96, 46, 42, 29, 5, 96, 46, 42, 29, 6, 96, 46, 182, 0, 207, 87, 44, 42, 29]) (k := 1824) (by decide +kernel) (by decide +kernel)
set_option maxRecDepth 100000 in
theorem ck_371_58 : mk_371_58.all (okE 13 code) = true := all_okFb (C := [87, 44, 42, 29, 4, 96, 46, 42, 29, 5, 96, 46, 42, 29, 6, 96, 46, 182, 0, 210, 87, 167, 1, 84, 43, 42, 29, 4, 96, 46, 182, 0, 211, 87, 44, 42]) (k := 1856) (by decide +kernel) (by decide +kernel)
set_option maxRecDepth 100000 in
theorem ck_371_59 : mk_371_59.all (okE 13 code) = true := all_okFb (C := [211, 87, 44, 42, 29, 4, 96, 46, 182, 0, 214, 87, 167, 1, 61, 43, 42, 29, 4, 96, 46, 42, 29, 5, 96, 46, 182, 0, 215, 87, 44, 42, 29, 4, 96, 46]) (k := 1888) (by decide +kernel) (by decide +kernel)
set_option maxRecDepth 100000 in
theorem ck_371_60 : mk_371_60.all (okE 13 code) = true := all_okFb (C := [29, 4, 96, 46, 42, 29, 5, 96, 46, 182, 0, 218, 87, 167, 1, 28, 43, 42, 29, 4, 96, 46, 42, 29, 5, 96, 46, 42, 29, 6, 96, 46, 182, 0, 219, 87]) (k := 1920) (by decide +kernel) (by decide +kernel)
set_option maxRecDepth 100000 in
theorem ck_371_61 : mk_371_61.all (okE 13 code) = true := all_okFb (C := [182, 0, 219, 87, 44, 42, 29, 4, 96, 46, 42, 29, 5, 96, 46, 42, 29, 6, 96, 46, 182, 0, 222, 87, 167, 0, 241, 43, 42, 29, 4, 96, 46, 42, 29, 5]) (k := 1952) (by decide +kernel) (by decide +kernel)
set_option maxRecDepth 100000 in
theorem ck_371_62 : mk_371_62.all (okE 13 code) = true := all_okFb (C := [46, 42, 29, 5, 96, 46, 42, 29, 6, 96, 46, 133, 16, 32, 121, 42, 29, 7, 96, 46, 133, 20, 0, 223, 127, 129, 182, 0, 225, 87, 44, 42, 29, 4, 96, 46]) (k := 1984) (by decide +kernel) (by decide +kernel)
set_option maxRecDepth 100000 in
theorem ck_371_63 : mk_371_63.all (okE 13 code) = true := all_okFb (C := [29, 4, 96, 46, 42, 29, 5, 96, 46, 42, 29, 6, 96, 46, 133, 16, 32, 121, 42, 29, 7, 96, 46, 133, 20, 0, 223, 127, 129, 182, 0, 229, 87, 167, 0, 168]) (k := 2016) (by decide +kernel) (by decide +kernel)
set_option maxRecDepth 100000 in
theorem ck_371_64 : mk_371_64.all (okE 13 code) = true := all_okFb (C := [87, 167, 0, 168, 43, 42, 29, 4, 96, 46, 42, 29, 5, 96, 46, 182, 0, 230, 88, 44, 42, 29, 4, 96, 46, 42, 29, 5, 96, 46, 182, 0, 234, 88, 167, 0]) (k := 2048) (by decide +kernel) (by decide +kernel)
set_option maxRecDepth 100000 in
theorem ck_371_65 : mk_371_65.all (okE 13 code) = true := all_okFb (C := [234, 88, 167, 0, 135, 43, 42, 29, 4, 96, 46, 42, 29, 5, 96, 46, 42, 29, 6, 96, 46, 42, 29, 7, 96, 46, 42, 29, 8, 96, 46, 182, 0, 235, 87, 44]) (k := 2080) (by decide +kernel) (by decide +kernel)
set_option maxRecDepth 100000 in
theorem ck_371_66 : mk_371_66.all (okE 13 code) = true := all_okFb (C := [0, 235, 87, 44, 42, 29, 4, 96, 46, 42, 29, 5, 96, 46, 42, 29, 6, 96, 46, 42, 29, 7, 96, 46, 42, 29, 8, 96, 46, 182, 0, 238, 87, 167, 0, 72]) (k := 2112) (by decide +kernel) (by decide +kernel)
set_option maxRecDepth 100000 in
theorem ck_371_67 : mk_371_67.all (okE 13 code) = true := all_okFb (C := [87, 167, 0, 72, 43, 42, 29, 4, 96, 46, 42, 29, 5, 96, 46, 182, 0, 239, 87, 44, 42, 29, 4, 96, 46, 42, 29, 5, 96, 46, 182, 0, 242, 87, 167, 0]) (k := 2144) (by decide +kernel) (by decide +kernel)
set_option maxRecDepth 100000 in
theorem ck_371_68 : mk_371_68.all (okE 13 code) = true := all_okFb (C := [242, 87, 167, 0, 39, 43, 182, 0, 243, 87, 44, 182, 0, 246, 87, 167, 0, 26, 43, 42, 29, 4, 96, 46, 182, 0, 247, 87, 44, 42, 29, 4, 96, 46, 182, 0]) (k := 2176) (by decide +kernel) (by decide +kernel)
set_option maxRecDepth 100000 in
theorem ck_371_69 : mk_371_69.all (okE 13 code) = true := by decide +kernel
