/-! the words of the tables of links, of the classes and of the methods (places: wip/gen3.py) -/
set_option maxRecDepth 100000 in
set_option maxHeartbeats 4000000 in
theorem fl_ok : mFLt.map (fun q => lw_tbl[q.2.2.2.2]?) = mFLt.map (fun q => some (flC q)) := rfl
set_option maxRecDepth 100000 in
set_option maxHeartbeats 4000000 in
theorem ml_ok : mMLt.map (fun q => lw_tbl[q.2.2.2.2]?) = mMLt.map (fun q => some (mlC q)) := rfl
set_option maxRecDepth 100000 in
set_option maxHeartbeats 4000000 in
theorem oi_ok : mOIt.map (fun q => lw_tbl[q.2.2]?) = mOIt.map (fun q => some (oiC q)) := rfl
set_option maxRecDepth 100000 in
set_option maxHeartbeats 4000000 in
theorem cl_ok : mCLt.map (fun q => lw_tbl[q.2.2.2]?) = mCLt.map (fun q => some (clC q)) := rfl
set_option maxRecDepth 100000 in
set_option maxHeartbeats 4000000 in
theorem ca_ok : mCAt.map (fun q => lw_tbl[q.2.2]?) = mCAt.map (fun q => some (caC q)) := rfl
set_option maxRecDepth 100000 in
set_option maxHeartbeats 4000000 in
theorem ki_ok : mKIt.map (fun q => lw_tbl[q.2.2.2]?) = mKIt.map (fun q => some (kiC q)) := rfl
set_option maxRecDepth 100000 in
set_option maxHeartbeats 4000000 in
theorem kl_ok : mKLt.map (fun q => lw_tbl[q.2.2.2]?) = mKLt.map (fun q => some (klC q)) := rfl
def mfh_0 : List Nat := [707, 709, 711, 713, 715, 717, 719, 721, 723, 725, 727]
set_option maxRecDepth 100000 in
set_option maxHeartbeats 4000000 in
theorem fw_0 : (List.range 11).map (fun k => (mfh_0[k]?).bind (fun h => lw_tbl[h]?)) = (List.range 11).map (fun k => some (u_lay "PointsHome" (fTof "PointsHome" mf_0) k)) := rfl
set_option maxRecDepth 100000 in
set_option maxHeartbeats 4000000 in
theorem iw_0 : lw_tbl[156]? = some (.instantiable "PointsHome" 11) := rfl
def mfh_1 : List Nat := [186, 188, 190, 192, 194, 196, 198, 200, 202]
set_option maxRecDepth 100000 in
set_option maxHeartbeats 4000000 in
theorem fw_1 : (List.range 9).map (fun k => (mfh_1[k]?).bind (fun h => lw_tbl[h]?)) = (List.range 9).map (fun k => some (u_lay "PointsHome$Places" (fTof "PointsHome$Places" mf_1) k)) := rfl
set_option maxRecDepth 100000 in
set_option maxHeartbeats 4000000 in
theorem iw_1 : lw_tbl[164]? = some (.instantiable "PointsHome$Places" 9) := rfl
def mfh_2 : List Nat := [255, 257, 259, 261, 263, 265, 267, 269, 271, 273, 275, 277, 279, 281, 283, 285, 287, 289, 291, 293]
set_option maxRecDepth 100000 in
set_option maxHeartbeats 4000000 in
theorem fw_2 : (List.range 20).map (fun k => (mfh_2[k]?).bind (fun h => lw_tbl[h]?)) = (List.range 20).map (fun k => some (u_lay "PointsHome$Bodies" (fTof "PointsHome$Bodies" mf_2) k)) := rfl
set_option maxRecDepth 100000 in
set_option maxHeartbeats 4000000 in
theorem iw_2 : lw_tbl[207]? = some (.instantiable "PointsHome$Bodies" 20) := rfl
def mfh_3 : List Nat := [313, 315, 317, 319]
set_option maxRecDepth 100000 in
set_option maxHeartbeats 4000000 in
theorem fw_3 : (List.range 4).map (fun k => (mfh_3[k]?).bind (fun h => lw_tbl[h]?)) = (List.range 4).map (fun k => some (u_lay "PointsHome$Shelves" (fTof "PointsHome$Shelves" mf_3) k)) := rfl
set_option maxRecDepth 100000 in
set_option maxHeartbeats 4000000 in
theorem iw_3 : lw_tbl[299]? = some (.instantiable "PointsHome$Shelves" 4) := rfl
def mfh_4 : List Nat := [350, 352, 354, 356, 358, 360, 362, 364, 366, 368, 370, 372, 374, 376, 378, 380, 382]
set_option maxRecDepth 100000 in
set_option maxHeartbeats 4000000 in
theorem fw_4 : (List.range 17).map (fun k => (mfh_4[k]?).bind (fun h => lw_tbl[h]?)) = (List.range 17).map (fun k => some (u_lay "PointsHome$Files" (fTof "PointsHome$Files" mf_4) k)) := rfl
set_option maxRecDepth 100000 in
set_option maxHeartbeats 4000000 in
theorem iw_4 : lw_tbl[323]? = some (.instantiable "PointsHome$Files" 17) := rfl
def mfh_5 : List Nat := [405, 407, 409, 411, 413, 415, 417, 419, 421, 423, 425]
set_option maxRecDepth 100000 in
set_option maxHeartbeats 4000000 in
theorem fw_5 : (List.range 11).map (fun k => (mfh_5[k]?).bind (fun h => lw_tbl[h]?)) = (List.range 11).map (fun k => some (u_lay "PointsHome$Tape" (fTof "PointsHome$Tape" mf_5) k)) := rfl
set_option maxRecDepth 100000 in
set_option maxHeartbeats 4000000 in
theorem iw_5 : lw_tbl[386]? = some (.instantiable "PointsHome$Tape" 11) := rfl
def mfh_6 : List Nat := [458, 460, 462, 464, 466, 468, 470, 472, 474, 476, 478, 480, 482, 484, 486]
set_option maxRecDepth 100000 in
set_option maxHeartbeats 4000000 in
theorem fw_6 : (List.range 15).map (fun k => (mfh_6[k]?).bind (fun h => lw_tbl[h]?)) = (List.range 15).map (fun k => some (u_lay "PointsHome$Rules" (fTof "PointsHome$Rules" mf_6) k)) := rfl
set_option maxRecDepth 100000 in
set_option maxHeartbeats 4000000 in
theorem iw_6 : lw_tbl[430]? = some (.instantiable "PointsHome$Rules" 15) := rfl
def mfh_7 : List Nat := [512, 514, 516, 518, 520, 522, 524, 526, 528, 530, 532, 534, 536, 538, 540, 542]
set_option maxRecDepth 100000 in
set_option maxHeartbeats 4000000 in
theorem fw_7 : (List.range 16).map (fun k => (mfh_7[k]?).bind (fun h => lw_tbl[h]?)) = (List.range 16).map (fun k => some (u_lay "PointsHome$Fleet" (fTof "PointsHome$Fleet" mf_7) k)) := rfl
set_option maxRecDepth 100000 in
set_option maxHeartbeats 4000000 in
theorem iw_7 : lw_tbl[490]? = some (.instantiable "PointsHome$Fleet" 16) := rfl
def mfh_8 : List Nat := [567, 569, 571, 573, 575, 577, 579, 581, 583, 585, 587, 589, 591, 593, 595, 597]
set_option maxRecDepth 100000 in
set_option maxHeartbeats 4000000 in
theorem fw_8 : (List.range 16).map (fun k => (mfh_8[k]?).bind (fun h => lw_tbl[h]?)) = (List.range 16).map (fun k => some (u_lay "PointsHome$Relief" (fTof "PointsHome$Relief" mf_8) k)) := rfl
set_option maxRecDepth 100000 in
set_option maxHeartbeats 4000000 in
theorem iw_8 : lw_tbl[546]? = some (.instantiable "PointsHome$Relief" 16) := rfl
def mfh_9 : List Nat := [619, 621, 623, 625, 627, 629, 631, 633, 635, 637, 639, 641, 643]
set_option maxRecDepth 100000 in
set_option maxHeartbeats 4000000 in
theorem fw_9 : (List.range 13).map (fun k => (mfh_9[k]?).bind (fun h => lw_tbl[h]?)) = (List.range 13).map (fun k => some (u_lay "PointsHome$Voyages" (fTof "PointsHome$Voyages" mf_9) k)) := rfl
set_option maxRecDepth 100000 in
set_option maxHeartbeats 4000000 in
theorem iw_9 : lw_tbl[601]? = some (.instantiable "PointsHome$Voyages" 13) := rfl
def mfh_10 : List Nat := [661, 663, 665, 667, 669, 671, 673, 675, 677]
set_option maxRecDepth 100000 in
set_option maxHeartbeats 4000000 in
theorem fw_10 : (List.range 9).map (fun k => (mfh_10[k]?).bind (fun h => lw_tbl[h]?)) = (List.range 9).map (fun k => some (u_lay "PointsHome$Shutting" (fTof "PointsHome$Shutting" mf_10) k)) := rfl
set_option maxRecDepth 100000 in
set_option maxHeartbeats 4000000 in
theorem iw_10 : lw_tbl[647]? = some (.instantiable "PointsHome$Shutting" 9) := rfl
def mfh_11 : List Nat := [689, 691, 693]
set_option maxRecDepth 100000 in
set_option maxHeartbeats 4000000 in
theorem fw_11 : (List.range 3).map (fun k => (mfh_11[k]?).bind (fun h => lw_tbl[h]?)) = (List.range 3).map (fun k => some (u_lay "PointsHome$Line" (fTof "PointsHome$Line" mf_11) k)) := rfl
set_option maxRecDepth 100000 in
set_option maxHeartbeats 4000000 in
theorem iw_11 : lw_tbl[681]? = some (.instantiable "PointsHome$Line" 3) := rfl
def mfh_12 : List Nat := [1856, 1858, 1860, 1862, 1864, 1866, 1868, 1870, 1872, 1874, 1876, 1878, 1880, 1882, 1884, 1886, 1888, 1890, 1892, 1894, 1896, 1898, 1900, 1902, 1904, 1906, 1908, 1910, 1912, 1914, 1916, 1918, 1920, 1922, 1924, 1926, 1928, 1930, 1932, 1934, 1936, 1938, 1940, 1942, 1944, 1946, 1948, 1950, 1952, 1954, 1956, 1958, 1960, 1962, 1964, 1966, 1968, 1970, 1972, 1974, 1976, 1978, 1980, 1982, 1984, 1986, 1988, 1990, 1992, 1994, 1996, 1998, 2000, 2002, 2004, 2006, 2008, 2010, 2012, 2014, 2016, 2018, 2020, 2022, 2024, 2026, 2028, 2030, 2032, 2034, 2036, 2038, 2040, 2042, 2044, 2046, 2048, 2050, 2052, 2054, 2056, 2058, 2060, 2062, 2064, 2066, 2068, 2070, 2072, 2074, 2076]
set_option maxRecDepth 100000 in
set_option maxHeartbeats 4000000 in
theorem fw_12 : (List.range 111).map (fun k => (mfh_12[k]?).bind (fun h => lw_tbl[h]?)) = (List.range 111).map (fun k => some (u_lay "PointsHomeModel" (fTof "PointsHomeModel" mf_12) k)) := rfl
set_option maxRecDepth 100000 in
set_option maxHeartbeats 4000000 in
theorem iw_12 : lw_tbl[1741]? = some (.instantiable "PointsHomeModel" 111) := rfl
set_option maxRecDepth 100000 in
set_option maxHeartbeats 4000000 in
theorem nw_0 : lw_tbl[135]? = some (.initialized "PointsHome") := rfl
set_option maxRecDepth 100000 in
set_option maxHeartbeats 4000000 in
theorem nw_1 : lw_tbl[136]? = some (.initialized "PointsHome$Places") := rfl
set_option maxRecDepth 100000 in
set_option maxHeartbeats 4000000 in
theorem nw_2 : lw_tbl[137]? = some (.initialized "PointsHome$Bodies") := rfl
set_option maxRecDepth 100000 in
set_option maxHeartbeats 4000000 in
theorem nw_3 : lw_tbl[138]? = some (.initialized "PointsHome$Shelves") := rfl
set_option maxRecDepth 100000 in
set_option maxHeartbeats 4000000 in
theorem nw_4 : lw_tbl[140]? = some (.initialized "PointsHome$Files") := rfl
set_option maxRecDepth 100000 in
set_option maxHeartbeats 4000000 in
theorem nw_5 : lw_tbl[141]? = some (.initialized "PointsHome$Tape") := rfl
set_option maxRecDepth 100000 in
set_option maxHeartbeats 4000000 in
theorem nw_6 : lw_tbl[142]? = some (.initialized "PointsHome$Rules") := rfl
set_option maxRecDepth 100000 in
set_option maxHeartbeats 4000000 in
theorem nw_7 : lw_tbl[143]? = some (.initialized "PointsHome$Fleet") := rfl
set_option maxRecDepth 100000 in
set_option maxHeartbeats 4000000 in
theorem nw_8 : lw_tbl[144]? = some (.initialized "PointsHome$Relief") := rfl
set_option maxRecDepth 100000 in
set_option maxHeartbeats 4000000 in
theorem nw_9 : lw_tbl[145]? = some (.initialized "PointsHome$Voyages") := rfl
set_option maxRecDepth 100000 in
set_option maxHeartbeats 4000000 in
theorem nw_10 : lw_tbl[146]? = some (.initialized "PointsHome$Shutting") := rfl
set_option maxRecDepth 100000 in
set_option maxHeartbeats 4000000 in
theorem nw_11 : lw_tbl[147]? = some (.initialized "PointsHome$Line") := rfl
set_option maxRecDepth 100000 in
set_option maxHeartbeats 4000000 in
theorem nw_12 : lw_tbl[148]? = some (.initialized "PointsHomeModel") := rfl
set_option maxRecDepth 100000 in
set_option maxHeartbeats 4000000 in
theorem nw_13 : lw_tbl[134]? = some (.initialized "PointsHomeLaw") := rfl
set_option maxRecDepth 100000 in
set_option maxHeartbeats 4000000 in
theorem nw_14 : lw_tbl[149]? = some (.initialized "java/lang/Math") := rfl
set_option maxRecDepth 100000 in
set_option maxHeartbeats 4000000 in
theorem nw_15 : lw_tbl[139]? = some (.initialized "java/util/Arrays") := rfl
set_option maxRecDepth 100000 in
theorem kk_ok : mF.all okK = true := by decide +kernel
set_option maxRecDepth 100000 in
theorem nm_0 : (mf_0.map (fun f => f.1)).Nodup := by decide +kernel
set_option maxRecDepth 100000 in
theorem nm_1 : (mf_1.map (fun f => f.1)).Nodup := by decide +kernel
set_option maxRecDepth 100000 in
theorem nm_2 : (mf_2.map (fun f => f.1)).Nodup := by decide +kernel
set_option maxRecDepth 100000 in
theorem nm_3 : (mf_3.map (fun f => f.1)).Nodup := by decide +kernel
set_option maxRecDepth 100000 in
theorem nm_4 : (mf_4.map (fun f => f.1)).Nodup := by decide +kernel
set_option maxRecDepth 100000 in
theorem nm_5 : (mf_5.map (fun f => f.1)).Nodup := by decide +kernel
set_option maxRecDepth 100000 in
theorem nm_6 : (mf_6.map (fun f => f.1)).Nodup := by decide +kernel
set_option maxRecDepth 100000 in
theorem nm_7 : (mf_7.map (fun f => f.1)).Nodup := by decide +kernel
set_option maxRecDepth 100000 in
theorem nm_8 : (mf_8.map (fun f => f.1)).Nodup := by decide +kernel
set_option maxRecDepth 100000 in
theorem nm_9 : (mf_9.map (fun f => f.1)).Nodup := by decide +kernel
set_option maxRecDepth 100000 in
theorem nm_10 : (mf_10.map (fun f => f.1)).Nodup := by decide +kernel
set_option maxRecDepth 100000 in
theorem nm_11 : (mf_11.map (fun f => f.1)).Nodup := by decide +kernel
set_option maxRecDepth 100000 in
theorem nm_12 : (mf_12.map (fun f => f.1)).Nodup := by decide +kernel
