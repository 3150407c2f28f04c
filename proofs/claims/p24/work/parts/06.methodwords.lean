/-! the words of the methods -/
set_option maxRecDepth 100000 in
set_option maxHeartbeats 4000000 in
theorem wc_0 : pickW lw_tbl [159, 7, 42, 91, 3, 19, 62, 43, 59, 55, 54, 45, 33, 48, 3, 2, 2, 4, 3, 3, 2, 2, 2, 3, 3, 4, 4, 4, 4, 3, 3, 3, 3, 3, 3, 3, 3, 3, 3, 3] = (List.range 40).map (fun k => (mt_0[k]?).map mcC) := rfl
set_option maxRecDepth 100000 in
set_option maxHeartbeats 4000000 in
theorem wi_0 : pickW lw_tbl [158, 7, 42, 91, 3, 19, 62, 43, 59, 55, 54, 45, 33, 47, 3, 3, 2, 3, 3, 3, 3, 2, 2, 3, 2, 4, 4, 4, 4, 3, 4, 2, 4, 2, 3, 3, 3, 3, 3, 4] = (List.range 40).map (fun k => (mt_0[k]?).map miC) := rfl
def mhk_0 : List Nat := [23, 30, 32, 39, 13, 14, 17, 18, 19, 24, 25, 26, 27, 28, 29, 31, 33, 34, 35, 36, 37, 38]
set_option maxRecDepth 100000 in
set_option maxHeartbeats 4000000 in
theorem wv_0 : pickW lw_tbl [0, 0, 0, 0, 728, 3, 10, 3, 3, 16, 4, 4, 4, 4, 3, 7, 7, 3, 3, 3, 3, 3] = mhk_0.map (fun k => (mt_0[k]?).map msC) := rfl
set_option maxRecDepth 100000 in
set_option maxHeartbeats 4000000 in
theorem wx_0 : (List.range 40).all (fun k => ((mt_0[k]?).map mvi).getD true || mhk_0.any (Nat.beq k)) = true := by decide +kernel
set_option maxRecDepth 100000 in
set_option maxHeartbeats 4000000 in
theorem wn_0 : (mt_0.map (fun M => mN[M.1]?)) = mt_0.map (fun M => some M.2.1.cls) := rfl
set_option maxRecDepth 100000 in
set_option maxHeartbeats 4000000 in
theorem wd_0 : mt_0.all (fun M => decide ((parseMethodDescriptor M.2.1.desc).map (fun d => d.parameters.length + (bif M.2.2.2.2.2.1 then 0 else 1)) = some M.2.2.2.2.2.2.1) && decide (M.2.2.2.1 ≤ 40) && (bif M.2.2.2.2.2.1 then true else decide (M.1 < 13)) && (decide (M.2.2.2.2.2.2.2 = 99) || decide (M.2.2.2.2.2.2.2 = M.1))) = true := by decide +kernel
set_option maxRecDepth 100000 in
set_option maxHeartbeats 4000000 in
theorem we_0 : mt_0.map (fun M => if M.2.2.2.2.2.2.2 = 99 then "<init>" else M.2.1.name) = mt_0.map (fun _ => "<init>") := rfl
set_option maxRecDepth 100000 in
set_option maxHeartbeats 4000000 in
theorem wc_1 : pickW lw_tbl [841, 3, 7, 3, 2, 3, 4, 3, 3, 3, 3, 3, 3, 4, 3, 4, 3, 3, 3, 3, 3, 4, 3, 3, 3, 3, 6, 3, 4, 3, 3, 2, 3, 4, 3, 4, 3, 3, 3, 4] = (List.range 40).map (fun k => (mt_1[k]?).map mcC) := rfl
set_option maxRecDepth 100000 in
set_option maxHeartbeats 4000000 in
theorem wi_1 : pickW lw_tbl [839, 3, 8, 3, 2, 2, 4, 3, 3, 3, 3, 3, 3, 4, 3, 4, 3, 4, 2, 3, 3, 4, 3, 3, 3, 3, 7, 3, 3, 3, 3, 3, 2, 4, 3, 4, 3, 3, 3, 5] = (List.range 40).map (fun k => (mt_1[k]?).map miC) := rfl
def mhk_1 : List Nat := [2, 3, 17, 26, 27, 39, 0, 1, 5, 6, 7, 8, 9, 10, 11, 12, 13, 14, 15, 16, 18, 19, 20, 21, 22, 23, 24, 25, 28, 29, 30, 32, 33, 34, 35, 36, 37, 38]
set_option maxRecDepth 100000 in
set_option maxHeartbeats 4000000 in
theorem wv_1 : pickW lw_tbl [4, 0, 0, 0, 0, 0, 830, 3, 18, 4, 3, 3, 3, 3, 3, 3, 4, 3, 4, 3, 7, 3, 3, 4, 3, 3, 3, 3, 15, 3, 3, 6, 4, 3, 4, 3, 3, 3] = mhk_1.map (fun k => (mt_1[k]?).map msC) := rfl
set_option maxRecDepth 100000 in
set_option maxHeartbeats 4000000 in
theorem wx_1 : (List.range 40).all (fun k => ((mt_1[k]?).map mvi).getD true || mhk_1.any (Nat.beq k)) = true := by decide +kernel
set_option maxRecDepth 100000 in
set_option maxHeartbeats 4000000 in
theorem wn_1 : (mt_1.map (fun M => mN[M.1]?)) = mt_1.map (fun M => some M.2.1.cls) := rfl
set_option maxRecDepth 100000 in
set_option maxHeartbeats 4000000 in
theorem wd_1 : mt_1.all (fun M => decide ((parseMethodDescriptor M.2.1.desc).map (fun d => d.parameters.length + (bif M.2.2.2.2.2.1 then 0 else 1)) = some M.2.2.2.2.2.2.1) && decide (M.2.2.2.1 ≤ 40) && (bif M.2.2.2.2.2.1 then true else decide (M.1 < 13)) && (decide (M.2.2.2.2.2.2.2 = 99) || decide (M.2.2.2.2.2.2.2 = M.1))) = true := by decide +kernel
set_option maxRecDepth 100000 in
set_option maxHeartbeats 4000000 in
theorem we_1 : mt_1.map (fun M => if M.2.2.2.2.2.2.2 = 99 then "<init>" else M.2.1.name) = mt_1.map (fun _ => "<init>") := rfl
set_option maxRecDepth 100000 in
set_option maxHeartbeats 4000000 in
theorem wc_2 : pickW lw_tbl [1014, 3, 3, 4, 3, 3, 3, 4, 3, 3, 3, 3, 3, 3, 3, 3, 4, 52, 3, 3, 4, 3, 3, 3, 3, 3, 3, 3, 3, 3, 3, 3, 3, 3, 14, 3, 4, 4, 3, 6] = (List.range 40).map (fun k => (mt_2[k]?).map mcC) := rfl
set_option maxRecDepth 100000 in
set_option maxHeartbeats 4000000 in
theorem wi_2 : pickW lw_tbl [1012, 3, 4, 4, 3, 3, 2, 4, 3, 3, 3, 3, 3, 4, 3, 3, 4, 52, 3, 3, 4, 3, 3, 3, 3, 3, 3, 3, 3, 3, 3, 3, 2, 4, 13, 3, 4, 4, 4, 5] = (List.range 40).map (fun k => (mt_2[k]?).map miC) := rfl
def mhk_2 : List Nat := [2, 3, 4, 5, 13, 14, 15, 16, 17, 18, 19, 20, 21, 22, 23, 24, 25, 26, 27, 28, 29, 30, 31, 38, 0, 1, 6, 7, 8, 9, 10, 11, 12, 32, 34, 35, 36, 37, 39]
set_option maxRecDepth 100000 in
set_option maxHeartbeats 4000000 in
theorem wv_2 : pickW lw_tbl [10, 0, 0, 0, 0, 0, 0, 0, 0, 0, 0, 0, 0, 0, 0, 0, 0, 0, 0, 0, 0, 0, 0, 0, 979, 3, 20, 4, 3, 3, 3, 3, 3, 130, 18, 3, 4, 4, 10] = mhk_2.map (fun k => (mt_2[k]?).map msC) := rfl
set_option maxRecDepth 100000 in
set_option maxHeartbeats 4000000 in
theorem wx_2 : (List.range 40).all (fun k => ((mt_2[k]?).map mvi).getD true || mhk_2.any (Nat.beq k)) = true := by decide +kernel
set_option maxRecDepth 100000 in
set_option maxHeartbeats 4000000 in
theorem wn_2 : (mt_2.map (fun M => mN[M.1]?)) = mt_2.map (fun M => some M.2.1.cls) := rfl
set_option maxRecDepth 100000 in
set_option maxHeartbeats 4000000 in
theorem wd_2 : mt_2.all (fun M => decide ((parseMethodDescriptor M.2.1.desc).map (fun d => d.parameters.length + (bif M.2.2.2.2.2.1 then 0 else 1)) = some M.2.2.2.2.2.2.1) && decide (M.2.2.2.1 ≤ 40) && (bif M.2.2.2.2.2.1 then true else decide (M.1 < 13)) && (decide (M.2.2.2.2.2.2.2 = 99) || decide (M.2.2.2.2.2.2.2 = M.1))) = true := by decide +kernel
set_option maxRecDepth 100000 in
set_option maxHeartbeats 4000000 in
theorem we_2 : mt_2.map (fun M => if M.2.2.2.2.2.2.2 = 99 then "<init>" else M.2.1.name) = mt_2.map (fun _ => "<init>") := rfl
set_option maxRecDepth 100000 in
set_option maxHeartbeats 4000000 in
theorem wc_3 : pickW lw_tbl [1243, 3, 3, 3, 3, 4, 2, 3, 3, 3, 4, 3, 3, 4, 4, 3, 3, 3, 3, 3, 3, 3, 5, 3, 3, 4, 5, 5, 3, 3, 3, 3, 3, 4, 3, 3, 3, 3, 3, 5] = (List.range 40).map (fun k => (mt_3[k]?).map mcC) := rfl
set_option maxRecDepth 100000 in
set_option maxHeartbeats 4000000 in
theorem wi_3 : pickW lw_tbl [1241, 4, 2, 4, 3, 4, 2, 3, 2, 3, 4, 4, 2, 4, 4, 3, 3, 3, 3, 3, 3, 3, 5, 3, 3, 4, 6, 5, 3, 2, 3, 3, 4, 3, 3, 3, 3, 3, 3, 5] = (List.range 40).map (fun k => (mt_3[k]?).map miC) := rfl
def mhk_3 : List Nat := [1, 3, 4, 5, 7, 11, 26, 27, 28, 32, 0, 2, 8, 9, 10, 12, 13, 14, 15, 16, 17, 18, 19, 20, 21, 22, 23, 24, 25, 29, 30, 31, 33, 34, 35, 36, 37, 38, 39]
set_option maxRecDepth 100000 in
set_option maxHeartbeats 4000000 in
theorem wv_3 : pickW lw_tbl [34, 0, 0, 0, 0, 0, 0, 0, 0, 0, 1198, 7, 23, 3, 4, 7, 4, 4, 3, 3, 3, 3, 3, 3, 3, 5, 3, 3, 4, 19, 3, 3, 8, 3, 3, 3, 3, 3, 5] = mhk_3.map (fun k => (mt_3[k]?).map msC) := rfl
set_option maxRecDepth 100000 in
set_option maxHeartbeats 4000000 in
theorem wx_3 : (List.range 40).all (fun k => ((mt_3[k]?).map mvi).getD true || mhk_3.any (Nat.beq k)) = true := by decide +kernel
set_option maxRecDepth 100000 in
set_option maxHeartbeats 4000000 in
theorem wn_3 : (mt_3.map (fun M => mN[M.1]?)) = mt_3.map (fun M => some M.2.1.cls) := rfl
set_option maxRecDepth 100000 in
set_option maxHeartbeats 4000000 in
theorem wd_3 : mt_3.all (fun M => decide ((parseMethodDescriptor M.2.1.desc).map (fun d => d.parameters.length + (bif M.2.2.2.2.2.1 then 0 else 1)) = some M.2.2.2.2.2.2.1) && decide (M.2.2.2.1 ≤ 40) && (bif M.2.2.2.2.2.1 then true else decide (M.1 < 13)) && (decide (M.2.2.2.2.2.2.2 = 99) || decide (M.2.2.2.2.2.2.2 = M.1))) = true := by decide +kernel
set_option maxRecDepth 100000 in
set_option maxHeartbeats 4000000 in
theorem we_3 : mt_3.map (fun M => if M.2.2.2.2.2.2.2 = 99 then "<init>" else M.2.1.name) = mt_3.map (fun _ => "<init>") := rfl
set_option maxRecDepth 100000 in
set_option maxHeartbeats 4000000 in
theorem wc_4 : pickW lw_tbl [1416, 3, 3, 4, 3, 4, 3, 3, 4, 3, 3, 5, 5, 6, 2, 3, 3, 3, 3, 4, 2, 4, 3, 3, 4, 5, 3, 3, 4, 3, 3, 3, 6, 3, 4, 3, 3, 4, 3, 3] = (List.range 40).map (fun k => (mt_4[k]?).map mcC) := rfl
set_option maxRecDepth 100000 in
set_option maxHeartbeats 4000000 in
theorem wi_4 : pickW lw_tbl [1414, 3, 3, 4, 3, 5, 2, 3, 4, 3, 4, 5, 5, 6, 2, 2, 3, 3, 3, 5, 2, 4, 2, 3, 4, 5, 4, 3, 3, 3, 3, 3, 6, 3, 5, 3, 3, 4, 2, 3] = (List.range 40).map (fun k => (mt_4[k]?).map miC) := rfl
def mhk_4 : List Nat := [10, 11, 12, 19, 21, 26, 27, 34, 35, 36, 37, 0, 1, 2, 3, 4, 6, 7, 8, 9, 15, 16, 17, 18, 22, 23, 24, 25, 28, 29, 30, 31, 32, 33, 38, 39]
set_option maxRecDepth 100000 in
set_option maxHeartbeats 4000000 in
theorem wv_4 : pickW lw_tbl [44, 0, 0, 0, 0, 0, 0, 0, 0, 0, 0, 1360, 3, 3, 4, 3, 8, 3, 4, 3, 29, 3, 3, 3, 16, 3, 4, 5, 12, 3, 3, 3, 6, 3, 21, 3] = mhk_4.map (fun k => (mt_4[k]?).map msC) := rfl
set_option maxRecDepth 100000 in
set_option maxHeartbeats 4000000 in
theorem wx_4 : (List.range 40).all (fun k => ((mt_4[k]?).map mvi).getD true || mhk_4.any (Nat.beq k)) = true := by decide +kernel
set_option maxRecDepth 100000 in
set_option maxHeartbeats 4000000 in
theorem wn_4 : (mt_4.map (fun M => mN[M.1]?)) = mt_4.map (fun M => some M.2.1.cls) := rfl
set_option maxRecDepth 100000 in
set_option maxHeartbeats 4000000 in
theorem wd_4 : mt_4.all (fun M => decide ((parseMethodDescriptor M.2.1.desc).map (fun d => d.parameters.length + (bif M.2.2.2.2.2.1 then 0 else 1)) = some M.2.2.2.2.2.2.1) && decide (M.2.2.2.1 ≤ 40) && (bif M.2.2.2.2.2.1 then true else decide (M.1 < 13)) && (decide (M.2.2.2.2.2.2.2 = 99) || decide (M.2.2.2.2.2.2.2 = M.1))) = true := by decide +kernel
set_option maxRecDepth 100000 in
set_option maxHeartbeats 4000000 in
theorem we_4 : mt_4.map (fun M => if M.2.2.2.2.2.2.2 = 99 then "<init>" else M.2.1.name) = mt_4.map (fun _ => "<init>") := rfl
set_option maxRecDepth 100000 in
set_option maxHeartbeats 4000000 in
theorem wc_5 : pickW lw_tbl [1595, 3, 4, 3, 3, 3, 4, 5, 4, 3, 3, 5, 3, 3, 3, 3, 3, 3, 4, 3, 3, 3, 4, 2, 3, 5, 3, 4, 4, 3, 3, 3, 3, 3, 4, 337, 2, 3, 4, 3] = (List.range 40).map (fun k => (mt_5[k]?).map mcC) := rfl
set_option maxRecDepth 100000 in
set_option maxHeartbeats 4000000 in
theorem wi_5 : pickW lw_tbl [1593, 3, 4, 3, 3, 3, 5, 5, 3, 3, 4, 5, 3, 3, 3, 2, 3, 3, 4, 3, 3, 3, 4, 3, 2, 5, 3, 4, 4, 3, 3, 3, 3, 3, 5, 336, 3, 3, 4, 2] = (List.range 40).map (fun k => (mt_5[k]?).map miC) := rfl
def mhk_5 : List Nat := [6, 7, 10, 11, 12, 13, 14, 37, 38, 0, 1, 2, 3, 4, 5, 8, 9, 15, 16, 17, 18, 19, 20, 21, 22, 24, 25, 26, 27, 28, 29, 30, 31, 32, 33, 35, 39]
set_option maxRecDepth 100000 in
set_option maxHeartbeats 4000000 in
theorem wv_5 : pickW lw_tbl [55, 0, 0, 0, 0, 0, 0, 0, 0, 1530, 3, 4, 3, 3, 3, 15, 3, 25, 3, 3, 4, 3, 3, 3, 4, 6, 5, 3, 4, 4, 3, 3, 3, 3, 3, 342, 15] = mhk_5.map (fun k => (mt_5[k]?).map msC) := rfl
set_option maxRecDepth 100000 in
set_option maxHeartbeats 4000000 in
theorem wx_5 : (List.range 40).all (fun k => ((mt_5[k]?).map mvi).getD true || mhk_5.any (Nat.beq k)) = true := by decide +kernel
set_option maxRecDepth 100000 in
set_option maxHeartbeats 4000000 in
theorem wn_5 : (mt_5.map (fun M => mN[M.1]?)) = mt_5.map (fun M => some M.2.1.cls) := rfl
set_option maxRecDepth 100000 in
set_option maxHeartbeats 4000000 in
theorem wd_5 : mt_5.all (fun M => decide ((parseMethodDescriptor M.2.1.desc).map (fun d => d.parameters.length + (bif M.2.2.2.2.2.1 then 0 else 1)) = some M.2.2.2.2.2.2.1) && decide (M.2.2.2.1 ≤ 40) && (bif M.2.2.2.2.2.1 then true else decide (M.1 < 13)) && (decide (M.2.2.2.2.2.2.2 = 99) || decide (M.2.2.2.2.2.2.2 = M.1))) = true := by decide +kernel
set_option maxRecDepth 100000 in
set_option maxHeartbeats 4000000 in
theorem we_5 : mt_5.map (fun M => if M.2.2.2.2.2.2.2 = 99 then "<init>" else M.2.1.name) = mt_5.map (fun _ => "<init>") := rfl
set_option maxRecDepth 100000 in
set_option maxHeartbeats 4000000 in
theorem wc_6 : pickW lw_tbl [2102, 3, 3, 3, 3, 3, 3, 2, 3, 3, 3, 3, 3, 3, 3, 3, 4, 3, 3, 3, 4, 3, 3, 2, 3, 3, 3, 3, 3, 3, 3, 3, 4, 3, 3, 3, 3, 3, 3, 2] = (List.range 40).map (fun k => (mt_6[k]?).map mcC) := rfl
set_option maxRecDepth 100000 in
set_option maxHeartbeats 4000000 in
theorem wi_6 : pickW lw_tbl [2101, 2, 3, 4, 2, 4, 3, 2, 3, 3, 2, 4, 2, 3, 4, 2, 4, 3, 3, 3, 5, 2, 3, 3, 3, 3, 3, 3, 2, 3, 3, 4, 4, 3, 2, 4, 2, 3, 4, 2] = (List.range 40).map (fun k => (mt_6[k]?).map miC) := rfl
def mhk_6 : List Nat := [0, 3, 5, 6, 8, 9, 11, 14, 20, 24, 25, 26, 27, 31, 32, 33, 35, 38, 1, 2, 4, 10, 12, 13, 15, 16, 17, 18, 19, 21, 22, 28, 29, 30, 34, 36, 37]
set_option maxRecDepth 100000 in
set_option maxHeartbeats 4000000 in
theorem wv_6 : pickW lw_tbl [64, 0, 0, 0, 0, 0, 0, 0, 0, 0, 0, 0, 0, 0, 0, 0, 0, 0, 2023, 3, 7, 22, 7, 3, 7, 4, 3, 3, 3, 8, 3, 22, 3, 3, 16, 7, 3] = mhk_6.map (fun k => (mt_6[k]?).map msC) := rfl
set_option maxRecDepth 100000 in
set_option maxHeartbeats 4000000 in
theorem wx_6 : (List.range 40).all (fun k => ((mt_6[k]?).map mvi).getD true || mhk_6.any (Nat.beq k)) = true := by decide +kernel
set_option maxRecDepth 100000 in
set_option maxHeartbeats 4000000 in
theorem wn_6 : (mt_6.map (fun M => mN[M.1]?)) = mt_6.map (fun M => some M.2.1.cls) := rfl
set_option maxRecDepth 100000 in
set_option maxHeartbeats 4000000 in
theorem wd_6 : mt_6.all (fun M => decide ((parseMethodDescriptor M.2.1.desc).map (fun d => d.parameters.length + (bif M.2.2.2.2.2.1 then 0 else 1)) = some M.2.2.2.2.2.2.1) && decide (M.2.2.2.1 ≤ 40) && (bif M.2.2.2.2.2.1 then true else decide (M.1 < 13)) && (decide (M.2.2.2.2.2.2.2 = 99) || decide (M.2.2.2.2.2.2.2 = M.1))) = true := by decide +kernel
set_option maxRecDepth 100000 in
set_option maxHeartbeats 4000000 in
theorem we_6 : mt_6.map (fun M => if M.2.2.2.2.2.2.2 = 99 then "<init>" else M.2.1.name) = mt_6.map (fun _ => "<init>") := rfl
set_option maxRecDepth 100000 in
set_option maxHeartbeats 4000000 in
theorem wc_7 : pickW lw_tbl [2261, 3, 4, 8, 3, 3, 3, 3, 3, 3, 3, 5, 3, 3, 7, 3, 3, 3, 3, 3, 3, 2, 3, 3, 3, 3, 3, 3, 3, 3, 3, 3, 3, 3, 3, 3, 3, 3, 3, 3] = (List.range 40).map (fun k => (mt_7[k]?).map mcC) := rfl
set_option maxRecDepth 100000 in
set_option maxHeartbeats 4000000 in
theorem wi_7 : pickW lw_tbl [2260, 3, 4, 8, 3, 3, 3, 3, 3, 3, 3, 5, 3, 3, 6, 4, 2, 4, 3, 3, 3, 2, 3, 3, 3, 2, 3, 4, 2, 4, 2, 4, 2, 4, 3, 3, 2, 4, 2, 4] = (List.range 40).map (fun k => (mt_7[k]?).map miC) := rfl
def mhk_7 : List Nat := [1, 2, 3, 4, 5, 6, 7, 8, 9, 10, 11, 12, 13, 15, 17, 18, 19, 20, 22, 23, 24, 27, 29, 31, 33, 34, 35, 37, 39, 14, 16, 25, 26, 28, 30, 32, 36, 38]
set_option maxRecDepth 100000 in
set_option maxHeartbeats 4000000 in
theorem wv_7 : pickW lw_tbl [82, 0, 0, 0, 0, 0, 0, 0, 0, 0, 0, 0, 0, 0, 0, 0, 0, 0, 0, 0, 0, 0, 0, 0, 0, 0, 0, 0, 0, 2217, 7, 34, 3, 7, 7, 7, 15, 7] = mhk_7.map (fun k => (mt_7[k]?).map msC) := rfl
set_option maxRecDepth 100000 in
set_option maxHeartbeats 4000000 in
theorem wx_7 : (List.range 40).all (fun k => ((mt_7[k]?).map mvi).getD true || mhk_7.any (Nat.beq k)) = true := by decide +kernel
set_option maxRecDepth 100000 in
set_option maxHeartbeats 4000000 in
theorem wn_7 : (mt_7.map (fun M => mN[M.1]?)) = mt_7.map (fun M => some M.2.1.cls) := rfl
set_option maxRecDepth 100000 in
set_option maxHeartbeats 4000000 in
theorem wd_7 : mt_7.all (fun M => decide ((parseMethodDescriptor M.2.1.desc).map (fun d => d.parameters.length + (bif M.2.2.2.2.2.1 then 0 else 1)) = some M.2.2.2.2.2.2.1) && decide (M.2.2.2.1 ≤ 40) && (bif M.2.2.2.2.2.1 then true else decide (M.1 < 13)) && (decide (M.2.2.2.2.2.2.2 = 99) || decide (M.2.2.2.2.2.2.2 = M.1))) = true := by decide +kernel
set_option maxRecDepth 100000 in
set_option maxHeartbeats 4000000 in
theorem we_7 : mt_7.map (fun M => if M.2.2.2.2.2.2.2 = 99 then "<init>" else M.2.1.name) = mt_7.map (fun _ => "<init>") := rfl
set_option maxRecDepth 100000 in
set_option maxHeartbeats 4000000 in
theorem wc_8 : pickW lw_tbl [2432, 3, 3, 3, 3, 3, 3, 3, 3, 3, 3, 3, 7, 3, 3, 3, 3, 3, 3, 3, 3, 3, 3, 3, 3, 3, 3, 3, 3, 3, 3, 3, 3, 3, 3, 3, 3, 3, 3, 3] = (List.range 40).map (fun k => (mt_8[k]?).map mcC) := rfl
set_option maxRecDepth 100000 in
set_option maxHeartbeats 4000000 in
theorem wi_8 : pickW lw_tbl [2430, 3, 3, 4, 2, 4, 3, 2, 3, 3, 4, 3, 6, 3, 3, 4, 3, 2, 3, 3, 4, 2, 3, 3, 3, 4, 3, 2, 4, 3, 3, 3, 3, 3, 3, 3, 3, 3, 3, 3] = (List.range 40).map (fun k => (mt_8[k]?).map miC) := rfl
def mhk_8 : List Nat := [3, 5, 6, 10, 11, 15, 16, 20, 25, 26, 28, 29, 30, 31, 32, 33, 34, 35, 36, 37, 38, 39, 0, 1, 2, 4, 7, 8, 9, 12, 13, 14, 17, 18, 19, 21, 22, 23, 24, 27]
set_option maxRecDepth 100000 in
set_option maxHeartbeats 4000000 in
theorem wv_8 : pickW lw_tbl [111, 0, 0, 0, 0, 0, 0, 0, 0, 0, 0, 0, 0, 0, 0, 0, 0, 0, 0, 0, 0, 0, 2298, 3, 3, 7, 11, 3, 3, 15, 3, 3, 11, 3, 3, 7, 3, 3, 3, 11] = mhk_8.map (fun k => (mt_8[k]?).map msC) := rfl
set_option maxRecDepth 100000 in
set_option maxHeartbeats 4000000 in
theorem wx_8 : (List.range 40).all (fun k => ((mt_8[k]?).map mvi).getD true || mhk_8.any (Nat.beq k)) = true := by decide +kernel
set_option maxRecDepth 100000 in
set_option maxHeartbeats 4000000 in
theorem wn_8 : (mt_8.map (fun M => mN[M.1]?)) = mt_8.map (fun M => some M.2.1.cls) := rfl
set_option maxRecDepth 100000 in
set_option maxHeartbeats 4000000 in
theorem wd_8 : mt_8.all (fun M => decide ((parseMethodDescriptor M.2.1.desc).map (fun d => d.parameters.length + (bif M.2.2.2.2.2.1 then 0 else 1)) = some M.2.2.2.2.2.2.1) && decide (M.2.2.2.1 ≤ 40) && (bif M.2.2.2.2.2.1 then true else decide (M.1 < 13)) && (decide (M.2.2.2.2.2.2.2 = 99) || decide (M.2.2.2.2.2.2.2 = M.1))) = true := by decide +kernel
set_option maxRecDepth 100000 in
set_option maxHeartbeats 4000000 in
theorem we_8 : mt_8.map (fun M => if M.2.2.2.2.2.2.2 = 99 then "<init>" else M.2.1.name) = mt_8.map (fun _ => "<init>") := rfl
set_option maxRecDepth 100000 in
set_option maxHeartbeats 4000000 in
theorem wc_9 : pickW lw_tbl [2596, 3, 2, 3, 3, 3, 3, 4, 3, 3, 3] = (List.range 11).map (fun k => (mt_9[k]?).map mcC) := rfl
set_option maxRecDepth 100000 in
set_option maxHeartbeats 4000000 in
theorem wi_9 : pickW lw_tbl [2594, 3, 3, 2, 3, 4, 2, 4, 3, 3, 3] = (List.range 11).map (fun k => (mt_9[k]?).map miC) := rfl
def mhk_9 : List Nat := [5, 0, 1, 3, 4, 6, 7, 8, 9, 10]
set_option maxRecDepth 100000 in
set_option maxHeartbeats 4000000 in
theorem wv_9 : pickW lw_tbl [133, 2461, 3, 6, 3, 7, 4, 3, 3, 3] = mhk_9.map (fun k => (mt_9[k]?).map msC) := rfl
set_option maxRecDepth 100000 in
set_option maxHeartbeats 4000000 in
theorem wx_9 : (List.range 11).all (fun k => ((mt_9[k]?).map mvi).getD true || mhk_9.any (Nat.beq k)) = true := by decide +kernel
set_option maxRecDepth 100000 in
set_option maxHeartbeats 4000000 in
theorem wn_9 : (mt_9.map (fun M => mN[M.1]?)) = mt_9.map (fun M => some M.2.1.cls) := rfl
set_option maxRecDepth 100000 in
set_option maxHeartbeats 4000000 in
theorem wd_9 : mt_9.all (fun M => decide ((parseMethodDescriptor M.2.1.desc).map (fun d => d.parameters.length + (bif M.2.2.2.2.2.1 then 0 else 1)) = some M.2.2.2.2.2.2.1) && decide (M.2.2.2.1 ≤ 40) && (bif M.2.2.2.2.2.1 then true else decide (M.1 < 13)) && (decide (M.2.2.2.2.2.2.2 = 99) || decide (M.2.2.2.2.2.2.2 = M.1))) = true := by decide +kernel
set_option maxRecDepth 100000 in
set_option maxHeartbeats 4000000 in
theorem we_9 : mt_9.map (fun M => if M.2.2.2.2.2.2.2 = 99 then "<init>" else M.2.1.name) = mt_9.map (fun _ => "<init>") := rfl
