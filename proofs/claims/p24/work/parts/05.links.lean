/-! the words of the tables of links, of the classes and of the methods, each table by one pass over the words (wip/gen3c.py) -/
set_option maxRecDepth 100000 in
set_option maxHeartbeats 4000000 in
theorem fl_ok : pickW lw_tbl [169, 0, 0, 0, 0, 0, 0, 0, 0, 0, 0, 0, 0, 0, 0, 0, 0, 26, 0, 0, 0, 0, 0, 0, 0, 0, 0, 0, 0, 0, 0, 0, 0, 0, 0, 0, 0, 0, 0, 0, 0, 0, 0, 0, 0, 0, 0, 0, 0, 0, 0, 0, 0, 0, 0, 0, 0, 0, 0, 0, 52, 0, 0, 0, 0, 0, 16, 0, 0, 0, 0, 0, 0, 0, 0, 0, 0, 0, 0, 0, 0, 0, 0, 0, 0, 0, 0, 41, 0, 0, 0, 0, 0, 0, 0, 0, 0, 0, 0, 0, 0, 32, 0, 0, 0, 0, 0, 0, 0, 0, 0, 0, 0, 0, 0, 0, 0, 0, 0, 0, 0, 0, 37, 0, 0, 0, 0, 0, 0, 0, 0, 0, 0, 0, 0, 0, 0, 0, 0, 39, 0, 0, 0, 0, 0, 0, 0, 0, 0, 0, 0, 0, 0, 0, 0, 39, 0, 0, 0, 0, 0, 0, 0, 0, 0, 0, 0, 0, 33, 0, 0, 0, 0, 0, 0, 0, 0, 25, 0, 0, 7, 0, 0, 0, 0, 0, 0, 0, 0, 0, 0, 1039, 0, 0, 0, 0, 0, 0, 0, 0, 0, 0, 0, 0, 0, 0, 0, 0, 0, 0, 0, 0, 0, 0, 0, 0, 0, 0, 0, 0, 0, 0, 0, 0, 0, 0, 0, 0, 0, 0, 0, 0, 0, 0, 0, 0, 0, 0, 0, 0, 0, 0, 0, 0, 0, 0, 0, 0, 0, 0, 0, 0, 0, 0, 0, 0, 0, 0, 0, 0, 0, 0, 0, 0, 0, 0, 0, 0, 0, 0, 0, 0, 0, 0, 0, 0, 0, 0, 0, 0, 0, 0, 0, 0, 0, 0, 0, 0, 0, 0, 0, 0, 0, 0, 0, 0, 0, 0, 0, 0, 0] = mFLt.map (fun q => some (flC q)) := rfl
set_option maxRecDepth 100000 in
set_option maxHeartbeats 4000000 in
theorem ml_ok : pickW lw_tbl [157, 7, 42, 91, 3, 19, 3, 58, 43, 59, 55, 54, 45, 33, 47, 3, 3, 2, 3, 3, 3, 3, 2, 2, 2, 3, 3, 0, 4, 3, 0, 3, 0, 3, 3, 3, 3, 3, 3, 3, 3, 3, 3, 3, 3, 3, 5, 0, 0, 3, 3, 2, 3, 0, 3, 3, 3, 3, 3, 3, 4, 3, 4, 3, 3, 3, 3, 3, 3, 0, 3, 3, 3, 3, 3, 0, 1, 3, 4, 3, 3, 3, 2, 3, 0, 3, 3, 0, 3, 3, 3, 3, 0, 3, 3, 3, 3, 0, 3, 3, 3, 3, 0, 3, 3, 3, 3, 3, 3, 3, 3, 3, 0, 52, 3, 3, 3, 0, 3, 3, 3, 3, 3, 3, 3, 3, 3, 3, 3, 3, 3, 0, 9, 3, 3, 3, 0, 4, 3, 3, 0, 1, 3, 3, 3, 3, 3, 3, 0, 3, 2, 3, 3, 3, 0, 3, 3, 3, 0, 3, 0, 3, 3, 3, 3, 3, 3, 3, 3, 0, 0, 3, 3, 3, 0, 3, 0, 0, 3, 0, 0, 3, 3, 3, 3, 3, 3, 0, 3, 3, 3, 3, 3, 3, 0, 0, 3, 3, 3, 4, 3, 3, 0, 0, 2, 3, 3, 0, 3, 3, 3, 0, 0, 3, 0, 0, 7, 2, 2, 3, 3, 3, 3, 0, 3, 2, 0, 3, 3, 3, 0, 3, 0, 0, 3, 3, 4, 3, 3, 3, 3, 0, 0, 0, 3, 4, 3, 3, 3, 0, 3, 3, 3, 3, 3, 0, 3, 3, 3, 3, 0, 4, 0, 3, 0, 3, 3, 5, 3, 3, 3, 3, 3, 3, 3, 0, 3, 3, 3, 3, 0, 3, 2, 4, 0, 3, 4, 3, 0, 3, 3, 3, 3, 3, 5, 336, 3, 2, 4, 3, 3, 3, 3, 3, 3, 3, 3, 3, 2, 3, 3, 3, 3, 3, 3, 3, 4, 3, 3, 3, 4, 3, 3, 3, 2, 3, 3, 3, 3, 3, 3, 3, 4, 3, 3, 3, 3, 3, 3, 3, 2, 2, 4, 8, 3, 3, 3, 3, 3, 3, 3, 5, 3, 3, 7, 3, 3, 3, 3, 3, 3, 3, 2, 3, 3, 3, 3, 3, 3, 3, 3, 3, 3, 3, 3, 3, 3, 3, 3, 3, 3, 3, 3, 3, 3, 3, 3, 3, 3, 3, 3, 3, 7, 3, 3, 3, 3, 3, 3, 3, 3, 3, 3, 3, 3, 3, 3, 3, 3, 3, 3, 3, 3, 3, 3, 3, 3, 3, 3, 3, 3, 3, 3, 2, 3, 3, 3, 4, 3, 3, 3] = mMLt.map (fun q => some (mlC q)) := rfl
set_option maxRecDepth 100000 in
set_option maxHeartbeats 4000000 in
theorem oi_ok : pickW lw_tbl [160, 7, 42, 91, 23, 62, 43, 59, 55, 54, 45, 33, 1059] = mOIt.map (fun q => some (oiC q)) := rfl
set_option maxRecDepth 100000 in
set_option maxHeartbeats 4000000 in
theorem cl_ok : pickW lw_tbl [155, 7, 42, 91, 23, 62, 43, 59, 55, 54, 45, 33, 1059] = mCLt.map (fun q => some (clC q)) := rfl
set_option maxRecDepth 100000 in
set_option maxHeartbeats 4000000 in
theorem ca_ok : pickW lw_tbl [435] = mCAt.map (fun q => some (caC q)) := rfl
set_option maxRecDepth 100000 in
set_option maxHeartbeats 4000000 in
theorem ki_ok : pickW lw_tbl [744, 34, 123, 47, 8, 263, 200, 47, 92, 55, 467, 71, 16, 298, 1] = mKIt.map (fun q => some (kiC q)) := rfl
set_option maxRecDepth 100000 in
set_option maxHeartbeats 4000000 in
theorem kl_ok : pickW lw_tbl [894, 579, 0, 224, 526, 38, 4, 0, 0, 0, 0, 46, 0, 0, 0, 151, 1, 140, 16] = mKLt.map (fun q => some (klC q)) := rfl
set_option maxRecDepth 100000 in
set_option maxHeartbeats 4000000 in
theorem fw_0 : pickW lw_tbl [707, 1, 1, 1, 1, 1, 1, 1, 1, 1, 1] = (List.range 11).map (fun k => some (u_lay "PointsHome" (fTof "PointsHome" mf_0) k)) := rfl
set_option maxRecDepth 100000 in
set_option maxHeartbeats 4000000 in
theorem fw_1 : pickW lw_tbl [186, 1, 1, 1, 1, 1, 1, 1, 1] = (List.range 9).map (fun k => some (u_lay "PointsHome$Places" (fTof "PointsHome$Places" mf_1) k)) := rfl
set_option maxRecDepth 100000 in
set_option maxHeartbeats 4000000 in
theorem fw_2 : pickW lw_tbl [255, 1, 1, 1, 1, 1, 1, 1, 1, 1, 1, 1, 1, 1, 1, 1, 1, 1, 1, 1] = (List.range 20).map (fun k => some (u_lay "PointsHome$Bodies" (fTof "PointsHome$Bodies" mf_2) k)) := rfl
set_option maxRecDepth 100000 in
set_option maxHeartbeats 4000000 in
theorem fw_3 : pickW lw_tbl [313, 1, 1, 1] = (List.range 4).map (fun k => some (u_lay "PointsHome$Shelves" (fTof "PointsHome$Shelves" mf_3) k)) := rfl
set_option maxRecDepth 100000 in
set_option maxHeartbeats 4000000 in
theorem fw_4 : pickW lw_tbl [350, 1, 1, 1, 1, 1, 1, 1, 1, 1, 1, 1, 1, 1, 1, 1, 1] = (List.range 17).map (fun k => some (u_lay "PointsHome$Files" (fTof "PointsHome$Files" mf_4) k)) := rfl
set_option maxRecDepth 100000 in
set_option maxHeartbeats 4000000 in
theorem fw_5 : pickW lw_tbl [405, 1, 1, 1, 1, 1, 1, 1, 1, 1, 1] = (List.range 11).map (fun k => some (u_lay "PointsHome$Tape" (fTof "PointsHome$Tape" mf_5) k)) := rfl
set_option maxRecDepth 100000 in
set_option maxHeartbeats 4000000 in
theorem fw_6 : pickW lw_tbl [458, 1, 1, 1, 1, 1, 1, 1, 1, 1, 1, 1, 1, 1, 1] = (List.range 15).map (fun k => some (u_lay "PointsHome$Rules" (fTof "PointsHome$Rules" mf_6) k)) := rfl
set_option maxRecDepth 100000 in
set_option maxHeartbeats 4000000 in
theorem fw_7 : pickW lw_tbl [512, 1, 1, 1, 1, 1, 1, 1, 1, 1, 1, 1, 1, 1, 1, 1] = (List.range 16).map (fun k => some (u_lay "PointsHome$Fleet" (fTof "PointsHome$Fleet" mf_7) k)) := rfl
set_option maxRecDepth 100000 in
set_option maxHeartbeats 4000000 in
theorem fw_8 : pickW lw_tbl [567, 1, 1, 1, 1, 1, 1, 1, 1, 1, 1, 1, 1, 1, 1, 1] = (List.range 16).map (fun k => some (u_lay "PointsHome$Relief" (fTof "PointsHome$Relief" mf_8) k)) := rfl
set_option maxRecDepth 100000 in
set_option maxHeartbeats 4000000 in
theorem fw_9 : pickW lw_tbl [619, 1, 1, 1, 1, 1, 1, 1, 1, 1, 1, 1, 1] = (List.range 13).map (fun k => some (u_lay "PointsHome$Voyages" (fTof "PointsHome$Voyages" mf_9) k)) := rfl
set_option maxRecDepth 100000 in
set_option maxHeartbeats 4000000 in
theorem fw_10 : pickW lw_tbl [661, 1, 1, 1, 1, 1, 1, 1, 1] = (List.range 9).map (fun k => some (u_lay "PointsHome$Shutting" (fTof "PointsHome$Shutting" mf_10) k)) := rfl
set_option maxRecDepth 100000 in
set_option maxHeartbeats 4000000 in
theorem fw_11 : pickW lw_tbl [689, 1, 1] = (List.range 3).map (fun k => some (u_lay "PointsHome$Line" (fTof "PointsHome$Line" mf_11) k)) := rfl
set_option maxRecDepth 100000 in
set_option maxHeartbeats 4000000 in
theorem fw_12 : pickW lw_tbl [1856, 1, 1, 1, 1, 1, 1, 1, 1, 1, 1, 1, 1, 1, 1, 1, 1, 1, 1, 1, 1, 1, 1, 1, 1, 1, 1, 1, 1, 1, 1, 1, 1, 1, 1, 1, 1, 1, 1, 1, 1, 1, 1, 1, 1, 1, 1, 1, 1, 1, 1, 1, 1, 1, 1, 1, 1, 1, 1, 1, 1, 1, 1, 1, 1, 1, 1, 1, 1, 1, 1, 1, 1, 1, 1, 1, 1, 1, 1, 1, 1, 1, 1, 1, 1, 1, 1, 1, 1, 1, 1, 1, 1, 1, 1, 1, 1, 1, 1, 1, 1, 1, 1, 1, 1, 1, 1, 1, 1, 1, 1] = (List.range 111).map (fun k => some (u_lay "PointsHomeModel" (fTof "PointsHomeModel" mf_12) k)) := rfl
def inw : List Cond := [.initialized "PointsHomeLaw", .initialized "PointsHome", .initialized "PointsHome$Places", .initialized "PointsHome$Bodies", .initialized "PointsHome$Shelves", .initialized "java/util/Arrays", .initialized "PointsHome$Files", .initialized "PointsHome$Tape", .initialized "PointsHome$Rules", .initialized "PointsHome$Fleet", .initialized "PointsHome$Relief", .initialized "PointsHome$Voyages", .initialized "PointsHome$Shutting", .initialized "PointsHome$Line", .initialized "PointsHomeModel", .initialized "java/lang/Math", .instantiable "PointsHome" 11, .instantiable "PointsHome$Places" 9, .instantiable "PointsHome$Bodies" 20, .instantiable "PointsHome$Shelves" 4, .instantiable "PointsHome$Files" 17, .instantiable "PointsHome$Tape" 11, .instantiable "PointsHome$Rules" 15, .instantiable "PointsHome$Fleet" 16, .instantiable "PointsHome$Relief" 16, .instantiable "PointsHome$Voyages" 13, .instantiable "PointsHome$Shutting" 9, .instantiable "PointsHome$Line" 3, .instantiable "PointsHomeModel" 111]
set_option maxRecDepth 100000 in
set_option maxHeartbeats 4000000 in
theorem inw_ok : pickW lw_tbl [134, 0, 0, 0, 0, 0, 0, 0, 0, 0, 0, 0, 0, 0, 0, 0, 6, 7, 42, 91, 23, 62, 43, 59, 55, 54, 45, 33, 1059] = inw.map (fun q => some q) := rfl
theorem nw_13 : Cond.initialized "PointsHomeLaw" ∈ lw_tbl := tab_in inw_ok (n := 0) rfl
theorem nw_0 : Cond.initialized "PointsHome" ∈ lw_tbl := tab_in inw_ok (n := 1) rfl
theorem nw_1 : Cond.initialized "PointsHome$Places" ∈ lw_tbl := tab_in inw_ok (n := 2) rfl
theorem nw_2 : Cond.initialized "PointsHome$Bodies" ∈ lw_tbl := tab_in inw_ok (n := 3) rfl
theorem nw_3 : Cond.initialized "PointsHome$Shelves" ∈ lw_tbl := tab_in inw_ok (n := 4) rfl
theorem nw_15 : Cond.initialized "java/util/Arrays" ∈ lw_tbl := tab_in inw_ok (n := 5) rfl
theorem nw_4 : Cond.initialized "PointsHome$Files" ∈ lw_tbl := tab_in inw_ok (n := 6) rfl
theorem nw_5 : Cond.initialized "PointsHome$Tape" ∈ lw_tbl := tab_in inw_ok (n := 7) rfl
theorem nw_6 : Cond.initialized "PointsHome$Rules" ∈ lw_tbl := tab_in inw_ok (n := 8) rfl
theorem nw_7 : Cond.initialized "PointsHome$Fleet" ∈ lw_tbl := tab_in inw_ok (n := 9) rfl
theorem nw_8 : Cond.initialized "PointsHome$Relief" ∈ lw_tbl := tab_in inw_ok (n := 10) rfl
theorem nw_9 : Cond.initialized "PointsHome$Voyages" ∈ lw_tbl := tab_in inw_ok (n := 11) rfl
theorem nw_10 : Cond.initialized "PointsHome$Shutting" ∈ lw_tbl := tab_in inw_ok (n := 12) rfl
theorem nw_11 : Cond.initialized "PointsHome$Line" ∈ lw_tbl := tab_in inw_ok (n := 13) rfl
theorem nw_12 : Cond.initialized "PointsHomeModel" ∈ lw_tbl := tab_in inw_ok (n := 14) rfl
theorem nw_14 : Cond.initialized "java/lang/Math" ∈ lw_tbl := tab_in inw_ok (n := 15) rfl
theorem iw_0 : Cond.instantiable "PointsHome" 11 ∈ lw_tbl := tab_in inw_ok (n := 16) rfl
theorem iw_1 : Cond.instantiable "PointsHome$Places" 9 ∈ lw_tbl := tab_in inw_ok (n := 17) rfl
theorem iw_2 : Cond.instantiable "PointsHome$Bodies" 20 ∈ lw_tbl := tab_in inw_ok (n := 18) rfl
theorem iw_3 : Cond.instantiable "PointsHome$Shelves" 4 ∈ lw_tbl := tab_in inw_ok (n := 19) rfl
theorem iw_4 : Cond.instantiable "PointsHome$Files" 17 ∈ lw_tbl := tab_in inw_ok (n := 20) rfl
theorem iw_5 : Cond.instantiable "PointsHome$Tape" 11 ∈ lw_tbl := tab_in inw_ok (n := 21) rfl
theorem iw_6 : Cond.instantiable "PointsHome$Rules" 15 ∈ lw_tbl := tab_in inw_ok (n := 22) rfl
theorem iw_7 : Cond.instantiable "PointsHome$Fleet" 16 ∈ lw_tbl := tab_in inw_ok (n := 23) rfl
theorem iw_8 : Cond.instantiable "PointsHome$Relief" 16 ∈ lw_tbl := tab_in inw_ok (n := 24) rfl
theorem iw_9 : Cond.instantiable "PointsHome$Voyages" 13 ∈ lw_tbl := tab_in inw_ok (n := 25) rfl
theorem iw_10 : Cond.instantiable "PointsHome$Shutting" 9 ∈ lw_tbl := tab_in inw_ok (n := 26) rfl
theorem iw_11 : Cond.instantiable "PointsHome$Line" 3 ∈ lw_tbl := tab_in inw_ok (n := 27) rfl
theorem iw_12 : Cond.instantiable "PointsHomeModel" 111 ∈ lw_tbl := tab_in inw_ok (n := 28) rfl
set_option maxRecDepth 100000 in
theorem kk_ok : mF.all okK = true := by decide +kernel
set_option maxRecDepth 100000 in
theorem nm_0 : (mf_0.map (fun f => f.1)).Nodup := by decide +kernel
set_option maxRecDepth 100000 in
theorem nm_1 : (mf_1.map (fun f => f.1)).Nodup := by decide +kernel
set_option maxRecDepth 100000 in
theorem nm_2 : (mf_2.map (fun f => f.1)).Nodup := by decide +kernel
set_option maxRecDepth 100000 in
theorem nm_3 : (mf_3.map (fun f => f.1)).Nodup := by decide +kernel
set_option maxRecDepth 100000 in
theorem nm_4 : (mf_4.map (fun f => f.1)).Nodup := by decide +kernel
set_option maxRecDepth 100000 in
theorem nm_5 : (mf_5.map (fun f => f.1)).Nodup := by decide +kernel
set_option maxRecDepth 100000 in
theorem nm_6 : (mf_6.map (fun f => f.1)).Nodup := by decide +kernel
set_option maxRecDepth 100000 in
theorem nm_7 : (mf_7.map (fun f => f.1)).Nodup := by decide +kernel
set_option maxRecDepth 100000 in
theorem nm_8 : (mf_8.map (fun f => f.1)).Nodup := by decide +kernel
set_option maxRecDepth 100000 in
theorem nm_9 : (mf_9.map (fun f => f.1)).Nodup := by decide +kernel
set_option maxRecDepth 100000 in
theorem nm_10 : (mf_10.map (fun f => f.1)).Nodup := by decide +kernel
set_option maxRecDepth 100000 in
theorem nm_11 : (mf_11.map (fun f => f.1)).Nodup := by decide +kernel
set_option maxRecDepth 100000 in
theorem nm_12 : (mf_12.map (fun f => f.1)).Nodup := by decide +kernel
