/-! certificates (wip/gencert.py) -/
/-! PointsHome$Files.readRow (ILPointsHome$Shelves;III)I -/
def ct_197 : List (Nat × List aC) := [(21, [(((189, 21, [zlR 0 75, zlV 1 1], []), [(188, 8, [zlR 0 0, zlV 1 1], [])], (2, [zbT 1]), [], [], [zK 0, zV 1]), [zK 1])]),
  (22, [(((189, 22, [zlR 0 75, zlV 1 1], [ziV 2]), [(188, 8, [zlR 0 0, zlV 1 1], [])], (3, [zbT 1, zb 2 (-1) 2]), [], [], [zK 0, zV 1]), [zK 0])])]
noncomputable def stp_197 : aS → Option (List aS) := stpO noSp (mkT vV Lc_197) [] (some (.inl ((-1), 2)), [], 2, []) 41
set_option maxRecDepth 1000000 in
theorem cq_197 : certB stp_197 ct_197 1 17 (eA (mkT vV Lc_197) 188 [.inr (some 0), .inl ((-2147483648), 2147483647)] [] []) = true := by decide +kernel
/-! PointsHomeModel.operand ()V -/
def ct_328 : List (Nat × List aC) := [(14, [(((236, 14, [zlV 0 1, zlK 1 0, zlV 2 2], []), [(246, 11, [zlR 0 94, zlV 1 1], []), (251, 5, [zlR 0 94, zlV 1 1], []), (318, 5, [zlR 0 94, zlV 1 1, zlV 2 3], [])], (4, [zbT 1, zb 2 (-1) 199, zbT 3]), [((94, zK 11), zA 1 2)], [], [zK 0, zV 1, zV 3]), [zK 10]),
    (((236, 14, [zlV 0 1, zlK 1 0, zlV 2 2], []), [(311, 11, [zlR 0 94, zlV 1 1], []), (318, 13, [zlR 0 94, zlV 1 3, zlV 2 1], [])], (6, [zbT 1, zb 2 (-1) 15, zb 3 0 199, zb 4 1 200, zb 5 1 2]), [zmKV 94 11 4, ((94, zK 60), zA 1 2), zmVV 103 3 5], [zD (-1) 3 4], [zK 0, zV 3, zV 1]), [zK 3])]),
  (15, [(((236, 15, [zlV 0 1, zlK 1 0, zlV 2 2], [ziK 1]), [(246, 11, [zlR 0 94, zlV 1 1], []), (251, 5, [zlR 0 94, zlV 1 1], []), (318, 5, [zlR 0 94, zlV 1 1, zlV 2 3], [])], (4, [zb 1 0 199, zb 2 0 199, zbT 3]), [((94, zK 11), zA 1 2)], [zD 0 1 2], [zK 0, zV 1, zV 3]), [zK 8]),
    (((236, 15, [zlV 0 1, zlK 1 0, zlV 2 2], [ziK 0]), [(246, 11, [zlR 0 94, zlV 1 1], []), (251, 5, [zlR 0 94, zlV 1 1], []), (318, 5, [zlR 0 94, zlV 1 1, zlV 2 3], [])], (4, [zbT 1, zb 2 (-1) 199, zbT 3]), [((94, zK 11), zA 1 2)], [], [zK 0, zV 1, zV 3]), [zK 9]),
    (((236, 15, [zlV 0 1, zlK 1 0, zlV 2 2], [ziK 1]), [(311, 11, [zlR 0 94, zlV 1 1], []), (318, 13, [zlR 0 94, zlV 1 3, zlV 2 1], [])], (6, [zb 1 0 15, zb 2 0 15, zb 3 0 199, zb 4 1 200, zb 5 1 2]), [zmKV 94 11 4, ((94, zK 60), zA 1 2), zmVV 103 3 5], [zD 0 1 2, zD (-1) 3 4], [zK 0, zV 3, zV 1]), [zK 4]),
    (((236, 15, [zlV 0 1, zlK 1 0, zlV 2 2], [ziK 0]), [(311, 11, [zlR 0 94, zlV 1 1], []), (318, 13, [zlR 0 94, zlV 1 3, zlV 2 1], [])], (6, [zbT 1, zb 2 (-1) 15, zb 3 0 199, zb 4 1 200, zb 5 1 2]), [zmKV 94 11 4, ((94, zK 60), zA 1 2), zmVV 103 3 5], [zD (-1) 3 4], [zK 0, zV 3, zV 1]), [zK 2])]),
  (16, [(((318, 16, [zlR 0 94, zlV 1 1, zlV 2 2], []), [], (4, [zbT 1, zbT 2, zb 3 0 200]), [zmKV 94 11 3], [], [zK 0, zV 1, zV 2]), [zK 0])]),
  (28, [(((251, 28, [zlR 0 94, zlV 1 1], []), [(318, 5, [zlR 0 94, zlV 1 1, zlV 2 2], [])], (5, [zb 1 0 199, zbT 2, zb 3 1 200, zb 4 1 2]), [zmKV 94 11 3, zmVV 103 1 4], [zD (-1) 1 3], [zK 0, zV 1, zV 2]), [zK 6])]),
  (32, [(((251, 32, [zlR 0 94, zlV 1 1], []), [(318, 5, [zlR 0 94, zlV 1 1, zlV 2 2], [])], (4, [zbT 1, zbT 2, zb 3 0 200]), [zmKV 94 11 3], [], [zK 0, zV 1, zV 2]), [zK 7])]),
  (33, [(((251, 33, [zlR 0 94, zlV 1 1], [ziK 1]), [(318, 5, [zlR 0 94, zlV 1 1, zlV 2 2], [])], (5, [zb 1 0 199, zbT 2, zb 3 1 200, zb 4 1 2]), [zmKV 94 11 3, zmVV 103 1 4], [zD (-1) 1 3], [zK 0, zV 1, zV 2]), [zK 5]),
    (((251, 33, [zlR 0 94, zlV 1 1], [ziK 0]), [(318, 5, [zlR 0 94, zlV 1 1, zlV 2 2], [])], (4, [zbT 1, zbT 2, zb 3 0 200]), [zmKV 94 11 3], [], [zK 0, zV 1, zV 2]), [zK 1])])]
noncomputable def stp_328 : aS → Option (List aS) := stpO noSp (mkT vV Lc_328) [(94, some 56), (94, some 57), (94, some 58), (94, some 59), (94, some 204), (94, some 205), (94, some 206), (94, some 207), (107, none), (109, none), (111, none), (112, none), (133, none), (134, none)] (some (.inl ((-2147483648), 2147483647)), [], 3, []) 47
set_option maxRecDepth 1000000 in
theorem cq_328 : certB stp_328 ct_328 1 42 (eA (mkT vV Lc_328) 318 [.inr (some 94), .inl ((-2147483648), 2147483647), .inl ((-2147483648), 2147483647)] [] []) = true := by decide +kernel
/-! PointsHomeModel.relieve (IIIJ)V -/
def ct_342 : List (Nat × List aC) := [(26, [(((330, 26, [zlR 0 94, zlV 1 1, zlV 2 2, zlV 3 3, (4, .inr none)], []), [], (6, [zb 1 4 4, zb 2 0 4, zb 3 5 8, zb 4 4 4, zb 5 0 1]), [zmKV 94 68 4, zmKV 94 77 5], [], [zK 0, zV 1, zV 2, zV 3, zK 0]), [zK 3, zK 0, zK 0])]),
  (48, [(((330, 48, [zlR 0 94, zlV 1 1, zlV 2 2, zlV 3 3, (4, .inr none), zlV 6 4], []), [], (7, [zb 1 4 4, zb 2 0 4, zb 3 5 8, zb 4 0 8, zb 5 4 4, zb 6 0 8]), [zmKV 94 68 5, zmKV 94 71 6, zmKV 94 75 6, zmKK 94 77 1], [], [zK 0, zV 1, zV 2, zV 3, zK 0]), [zK 0, zN 2147483648 4, zK 0])]),
  (75, [(((331, 75, [zlR 0 94, zlV 1 1, zlV 2 2, zlV 3 3], []), [(330, 140, [zlR 0 94, zlV 1 2, zlV 2 4, zlV 3 5, (4, .inr none), zlV 6 1], [])], (9, [zb 1 5 7, zb 2 4 4, zb 3 0 199, zb 4 1 4, zb 5 5 8, zb 6 5 5, zb 7 6 8, zb 8 (-1) 4]), [zmKV 94 68 6, zmKV 94 71 7, zmVV 144 1 3, zmVV 146 1 8], [zD (-1) 1 7], [zK 0, zV 2, zV 4, zV 5, zK 0]), [zK 2, zN 2147483648 1, zK 3])]),
  (76, [(((331, 76, [zlR 0 94, zlV 1 1, zlV 2 2, zlV 3 3], [ziK 1]), [(330, 140, [zlR 0 94, zlV 1 2, zlV 2 4, zlV 3 5, (4, .inr none), zlV 6 1], [])], (15, [zb 1 5 7, zb 2 4 4, zb 3 0 199, zb 4 1 4, zb 5 5 8, zb 6 5 5, zb 7 6 8, zb 8 0 9, zb 9 0 0, zb 10 0 19, zb 11 0 19, zb 12 0 939, zb 13 (-1) (-1), zb 14 (-2147483648) 9]), [zmKV 94 68 6, zmKV 94 71 7, zmVV 105 3 8, zmVV 107 3 9, zmVV 108 3 10, zmVV 142 2 11, zmVV 143 2 12, zmVV 144 1 3, zmVV 146 1 13, ((102, (0, [(10, 20), (11, 1)])), zV 14)], [zD (-1) 1 7], [zK 0, zV 2, zV 4, zV 5, zK 0]), [zK 2, zN 2147483648 1, zK 1]),
    (((331, 76, [zlR 0 94, zlV 1 1, zlV 2 2, zlV 3 3], [ziK 0]), [(330, 140, [zlR 0 94, zlV 1 2, zlV 2 4, zlV 3 5, (4, .inr none), zlV 6 1], [])], (9, [zb 1 5 7, zb 2 4 4, zb 3 0 199, zb 4 1 4, zb 5 5 8, zb 6 5 5, zb 7 6 8, zb 8 (-1) 4]), [zmKV 94 68 6, zmKV 94 71 7, zmVV 144 1 3, zmVV 146 1 8], [zD (-1) 1 7], [zK 0, zV 2, zV 4, zV 5, zK 0]), [zK 2, zN 2147483648 1, zK 2])]),
  (114, [(((330, 114, [zlR 0 94, zlV 1 1, zlV 2 2, zlV 3 3, (4, .inr none)], [ziK 0, .inl (zA 1 1), zrf 94]), [], (5, [zb 1 4 4, zb 2 0 0, zb 3 5 8, zb 4 5 5]), [zmKV 94 68 4], [], [zK 0, zV 1, zV 2, zV 3, zK 0]), [zK 1, zK 0, zK 0])]),
  (124, [(((330, 124, [zlR 0 94, zlV 1 1, zlV 2 2, zlV 3 3, (4, .inr none), zlV 6 4], []), [], (6, [zb 1 4 4, zb 2 1 4, zb 3 5 8, zb 4 5 8, zb 5 5 5]), [zmKV 94 68 5], [], [zK 0, zV 1, zV 2, zV 3, zK 0]), [zK 2, zN 2147483648 4, zK 4])]),
  (185, [(((330, 185, [zlR 0 94, zlV 1 1, zlV 2 2, zlV 3 3, (4, .inr none), zlV 6 4], []), [], (9, [zb 1 4 4, zb 2 1 4, zb 3 5 8, zb 4 5 7, zb 5 5 5, zb 6 6 8, zb 7 0 199, zb 8 (-1) 4]), [zmKV 94 68 5, zmKV 94 71 6, zmVV 144 4 7, zmVV 146 4 8], [zD (-1) 4 6], [zK 0, zV 1, zV 2, zV 3, zK 0]), [zK 2, zN 2147483648 4, zK 0])])]
noncomputable def stp_342 : aS → Option (List aS) := stpO noSp (mkT vV Lc_342) [(94, some 75), (94, some 77), (146, none), (147, none)] (none, [], 5, []) 45
set_option maxRecDepth 1000000 in
theorem cq_342 : certB stp_342 ct_342 3 64 (eA (mkT vV Lc_342) 330 [.inr (some 94), .inl (4, 4), .inl (0, 4), .inl (5, 8), .inr none] [((-4), [((1, 94, 68), 1)])] []) = true := by decide +kernel
/-! PointsHomeModel.relieve (IIIJ)V -/
def ct_377 : List (Nat × List aC) := [(26, [(((330, 26, [zlR 0 94, zlV 1 1, zlV 2 2, zlV 3 3, (4, .inr none)], []), [], (6, [zb 1 1 1, zb 2 0 8, zb 3 1 8, zb 4 1 1, zb 5 0 1]), [zmKV 94 68 4, zmKV 94 77 5], [], [zK 0, zV 1, zV 2, zV 3, zK 0]), [zK 3, zK 0, zK 0])]),
  (48, [(((330, 48, [zlR 0 94, zlV 1 1, zlV 2 2, zlV 3 3, (4, .inr none), zlV 6 4], []), [], (7, [zb 1 1 1, zb 2 0 8, zb 3 1 8, zb 4 0 8, zb 5 1 1, zb 6 0 8]), [zmKV 94 68 5, zmKV 94 71 6, zmKV 94 75 6, zmKK 94 77 1], [], [zK 0, zV 1, zV 2, zV 3, zK 0]), [zK 0, zN 2147483648 4, zK 0])]),
  (75, [(((331, 75, [zlR 0 94, zlV 1 1, zlV 2 2, zlV 3 3], []), [(330, 140, [zlR 0 94, zlV 1 2, zlV 2 4, zlV 3 5, (4, .inr none), zlV 6 1], [])], (9, [zb 1 1 7, zb 2 1 1, zb 3 0 199, zb 4 1 8, zb 5 1 8, zb 6 2 5, zb 7 2 8, zb 8 (-1) 4]), [zmKV 94 68 6, zmKV 94 71 7, zmVV 144 1 3, zmVV 146 1 8], [zD (-1) 1 7], [zK 0, zV 2, zV 4, zV 5, zK 0]), [zK 2, zN 2147483648 1, zK 3])]),
  (76, [(((331, 76, [zlR 0 94, zlV 1 1, zlV 2 2, zlV 3 3], [ziK 1]), [(330, 140, [zlR 0 94, zlV 1 2, zlV 2 4, zlV 3 5, (4, .inr none), zlV 6 1], [])], (15, [zb 1 1 7, zb 2 1 1, zb 3 0 199, zb 4 1 8, zb 5 1 8, zb 6 2 5, zb 7 2 8, zb 8 0 9, zb 9 0 0, zb 10 0 19, zb 11 0 19, zb 12 0 939, zb 13 (-1) (-1), zb 14 (-2147483648) 9]), [zmKV 94 68 6, zmKV 94 71 7, zmVV 105 3 8, zmVV 107 3 9, zmVV 108 3 10, zmVV 142 2 11, zmVV 143 2 12, zmVV 144 1 3, zmVV 146 1 13, ((102, (0, [(10, 20), (11, 1)])), zV 14)], [zD (-1) 1 7], [zK 0, zV 2, zV 4, zV 5, zK 0]), [zK 2, zN 2147483648 1, zK 1]),
    (((331, 76, [zlR 0 94, zlV 1 1, zlV 2 2, zlV 3 3], [ziK 0]), [(330, 140, [zlR 0 94, zlV 1 2, zlV 2 4, zlV 3 5, (4, .inr none), zlV 6 1], [])], (9, [zb 1 1 7, zb 2 1 1, zb 3 0 199, zb 4 1 8, zb 5 1 8, zb 6 2 5, zb 7 2 8, zb 8 (-1) 4]), [zmKV 94 68 6, zmKV 94 71 7, zmVV 144 1 3, zmVV 146 1 8], [zD (-1) 1 7], [zK 0, zV 2, zV 4, zV 5, zK 0]), [zK 2, zN 2147483648 1, zK 2])]),
  (114, [(((330, 114, [zlR 0 94, zlV 1 1, zlV 2 2, zlV 3 3, (4, .inr none)], [ziV 4, .inl (zA 1 1), zrf 94]), [], (7, [zb 1 1 1, zb 2 0 0, zb 3 1 8, zb 4 0 9, zb 5 3 5, zb 6 0 939]), [zmKV 94 68 5, ((143, zA 1 1), zV 6)], [], [zK 0, zV 1, zV 2, zV 3, zK 0]), [zK 4, zK 0, zK 0]),
    (((330, 114, [zlR 0 94, zlV 1 1, zlV 2 2, zlV 3 3, (4, .inr none)], [ziK 0, .inl (zA 1 1), zrf 94]), [], (5, [zb 1 1 1, zb 2 0 0, zb 3 1 8, zb 4 2 2]), [zmKV 94 68 4], [], [zK 0, zV 1, zV 2, zV 3, zK 0]), [zK 1, zK 0, zK 0])]),
  (124, [(((330, 124, [zlR 0 94, zlV 1 1, zlV 2 2, zlV 3 3, (4, .inr none), zlV 6 4], []), [], (6, [zb 1 1 1, zb 2 1 8, zb 3 1 8, zb 4 1 8, zb 5 2 5]), [zmKV 94 68 5], [], [zK 0, zV 1, zV 2, zV 3, zK 0]), [zK 2, zN 2147483648 4, zK 4])]),
  (185, [(((330, 185, [zlR 0 94, zlV 1 1, zlV 2 2, zlV 3 3, (4, .inr none), zlV 6 4], []), [], (9, [zb 1 1 1, zb 2 1 8, zb 3 1 8, zb 4 1 7, zb 5 2 5, zb 6 2 8, zb 7 0 199, zb 8 (-1) 4]), [zmKV 94 68 5, zmKV 94 71 6, zmVV 144 4 7, zmVV 146 4 8], [zD (-1) 4 6], [zK 0, zV 1, zV 2, zV 3, zK 0]), [zK 2, zN 2147483648 4, zK 0])])]
noncomputable def stp_377 : aS → Option (List aS) := stpO noSp (mkT vV Lc_377) [(94, some 75), (94, some 77), (146, none), (147, none)] (none, [], 5, []) 76
set_option maxRecDepth 1000000 in
theorem cq_377 : certB stp_377 ct_377 3 64 (eA (mkT vV Lc_377) 330 [.inr (some 94), .inl (1, 1), .inl (0, 8), .inl (1, 8), .inr none] [((-1), [((1, 94, 68), 1)])] []) = true := by decide +kernel
/-! PointsHomeModel.voyage (I)I -/
def ct_404 : List (Nat × List aC) := [(14, [(((236, 14, [zlV 0 1, zlK 1 0, zlV 2 2], []), [(337, 11, [zlR 0 94, zlV 1 1], [])], (3, [zbT 1, zb 2 (-2) 10]), [((94, zK 89), zA 1 2)], [], [zK 0, zV 1]), [zK 2])]),
  (15, [(((236, 15, [zlV 0 1, zlK 1 0, zlV 2 2], [ziK 1]), [(337, 11, [zlR 0 94, zlV 1 1], [])], (3, [zb 1 0 10, zb 2 0 10]), [((94, zK 89), zA 1 2)], [zD 0 1 2], [zK 0, zV 1]), [zK 3]),
    (((236, 15, [zlV 0 1, zlK 1 0, zlV 2 2], [ziK 0]), [(337, 11, [zlR 0 94, zlV 1 1], [])], (3, [zbT 1, zb 2 (-2) 10]), [((94, zK 89), zA 1 2)], [], [zK 0, zV 1]), [zK 1])]),
  (24, [(((337, 24, [zlR 0 94, zlV 1 1], [ziV 2]), [], (4, [zbT 1, zb 2 (-1) 9, zb 3 (-1) 11]), [zmKV 94 89 3], [], [zK 0, zV 1]), [zK 0])])]
noncomputable def stp_404 : aS → Option (List aS) := stpO noSp (mkT vV Lc_404) [] (some (.inl ((-1), 9)), [], 2, []) 41
set_option maxRecDepth 1000000 in
theorem cq_404 : certB stp_404 ct_404 1 17 (eA (mkT vV Lc_404) 337 [.inr (some 94), .inl ((-2147483648), 2147483647)] [] []) = true := by decide +kernel
/-! PointsHomeModel.have (II)I -/
def ct_417 : List (Nat × List aC) := [(14, [(((236, 14, [zlV 0 1, zlK 1 0, zlK 2 99], []), [(342, 7, [zlR 0 94, zlV 1 1, zlV 2 2], [])], (3, [zbT 1, zbT 2]), [], [], [zK 0, zV 1, zV 2]), [zK 2]),
    (((236, 14, [zlV 0 1, zlK 1 0, zlK 2 199], []), [(342, 18, [zlR 0 94, zlV 1 2, zlV 2 1], [])], (3, [zbT 1, zb 2 0 99]), [], [], [zK 0, zV 2, zV 1]), [zK 4])]),
  (15, [(((236, 15, [zlV 0 1, zlK 1 0, zlK 2 99], [ziK 1]), [(342, 7, [zlR 0 94, zlV 1 1, zlV 2 2], [])], (3, [zb 1 0 99, zbT 2]), [], [], [zK 0, zV 1, zV 2]), [zK 6]),
    (((236, 15, [zlV 0 1, zlK 1 0, zlK 2 99], [ziK 0]), [(342, 7, [zlR 0 94, zlV 1 1, zlV 2 2], [])], (3, [zbT 1, zbT 2]), [], [], [zK 0, zV 1, zV 2]), [zK 1]),
    (((236, 15, [zlV 0 1, zlK 1 0, zlK 2 199], [ziK 1]), [(342, 18, [zlR 0 94, zlV 1 2, zlV 2 1], [])], (3, [zb 1 0 199, zb 2 0 99]), [], [], [zK 0, zV 2, zV 1]), [zK 5]),
    (((236, 15, [zlV 0 1, zlK 1 0, zlK 2 199], [ziK 0]), [(342, 18, [zlR 0 94, zlV 1 2, zlV 2 1], [])], (3, [zbT 1, zb 2 0 99]), [], [], [zK 0, zV 2, zV 1]), [zK 3])]),
  (21, [(((342, 21, [zlR 0 94, zlV 1 1, zlV 2 2], []), [], (3, [zbT 1, zbT 2]), [], [], [zK 0, zV 1, zV 2]), [zK 0])])]
noncomputable def stp_417 : aS → Option (List aS) := stpO noSp (mkT vV Lc_417) [(162, none)] (some (.inl ((-1), 199)), [], 3, []) 41
set_option maxRecDepth 1000000 in
theorem cq_417 : certB stp_417 ct_417 1 16 (eA (mkT vV Lc_417) 342 [.inr (some 94), .inl ((-2147483648), 2147483647), .inl ((-2147483648), 2147483647)] [] []) = true := by decide +kernel
/-! PointsHomeModel.row (III)I -/
def ct_424 : List (Nat × List aC) := [(14, [(((236, 14, [zlV 0 1, zlK 1 0, zlK 2 7], []), [(362, 7, [zlV 0 1], []), (363, 4, [zlR 0 94, zlV 1 1, zlV 2 2, zlV 3 3], [])], (4, [zbT 1, zbT 2, zbT 3]), [], [], [zK 0, zV 1, zV 2, zV 3]), [zK 7, zK 0, zK 0]),
    (((236, 14, [zlV 0 1, zlK 1 0, zlK 2 4], []), [(363, 13, [zlR 0 94, zlV 1 2, zlV 2 1, zlV 3 3], [])], (4, [zbT 1, zb 2 0 7, zbT 3]), [], [], [zK 0, zV 2, zV 1, zV 3]), [zK 2, zK 0, zK 0])]),
  (15, [(((236, 15, [zlV 0 1, zlK 1 0, zlK 2 7], [ziK 1]), [(362, 7, [zlV 0 1], []), (363, 4, [zlR 0 94, zlV 1 1, zlV 2 2, zlV 3 3], [])], (4, [zb 1 0 7, zbT 2, zbT 3]), [], [], [zK 0, zV 1, zV 2, zV 3]), [zK 5, zK 0, zK 0]),
    (((236, 15, [zlV 0 1, zlK 1 0, zlK 2 7], [ziK 0]), [(362, 7, [zlV 0 1], []), (363, 4, [zlR 0 94, zlV 1 1, zlV 2 2, zlV 3 3], [])], (4, [zbT 1, zbT 2, zbT 3]), [], [], [zK 0, zV 1, zV 2, zV 3]), [zK 6, zK 0, zK 0]),
    (((236, 15, [zlV 0 1, zlK 1 0, zlK 2 4], [ziK 1]), [(363, 13, [zlR 0 94, zlV 1 2, zlV 2 1, zlV 3 3], [])], (4, [zb 1 0 4, zb 2 0 7, zbT 3]), [], [], [zK 0, zV 2, zV 1, zV 3]), [zK 4, zK 0, zK 0]),
    (((236, 15, [zlV 0 1, zlK 1 0, zlK 2 4], [ziK 0]), [(363, 13, [zlR 0 94, zlV 1 2, zlV 2 1, zlV 3 3], [])], (4, [zbT 1, zb 2 0 7, zbT 3]), [], [], [zK 0, zV 2, zV 1, zV 3]), [zK 1, zK 0, zK 0])]),
  (22, [(((363, 22, [zlR 0 94, zlV 1 1, zlV 2 2, zlV 3 3], []), [], (4, [zbT 1, zbT 2, zbT 3]), [], [], [zK 0, zV 1, zV 2, zV 3]), [zK 0, zK 0, zK 0])]),
  (54, [(((363, 54, [zlR 0 94, zlV 1 1, zlV 2 2, zlV 3 3, zlV 4 4], []), [], (5, [zb 1 0 7, zb 2 0 4, zb 3 0 90, zb 4 0 720]), [((166, zV 1), zN (-2) 2), zmVV 167 1 3], [], [zK 0, zV 1, zV 2, zV 3]), [zK 3, zN 2147483648 4, zK 0])])]
noncomputable def stp_424 : aS → Option (List aS) := stpO noSp (mkT vV Lc_424) [(166, none), (167, none)] (some (.inl ((-14), 1)), [], 4, []) 41
set_option maxRecDepth 1000000 in
theorem cq_424 : certB stp_424 ct_424 3 25 (eA (mkT vV Lc_424) 363 [.inr (some 94), .inl ((-2147483648), 2147483647), .inl ((-2147483648), 2147483647), .inl ((-2147483648), 2147483647)] [] []) = true := by decide +kernel
def ct_16 : List (Nat × List aC) := []
noncomputable def stp_16 : aS → Option (List aS) := stpO noSp (mkT vV Lc_16) [(9, some 1), (9, some 2), (10, none), (11, none), (12, none), (13, none), (14, none), (15, none), (16, none), (17, none), (19, none)] (some (.inl ((-3), 199)), [], 5, []) 44
set_option maxRecDepth 1000000 in
theorem cq_16 : certB stp_16 ct_16 1 10 (eA (mkT vV Lc_16) 37 [.inr (some 0), .inl ((-2147483648), 2147483647), .inl ((-2147483648), 2147483647), .inl ((-2147483648), 2147483647), .inl ((-2147483648), 2147483647)] [] []) = true := by decide +kernel
/-! PointsHome.prove (I)I -/
def ct_27 : List (Nat × List aC) := [(8, [(((68, 8, [zlR 0 0, zlV 1 1], [ziV 2]), [], (3, [zbT 1, zb 2 (-2) (-1)]), [], [], [zK 0, zV 1]), [zK 1]),
    (((68, 8, [zlR 0 0, zlV 1 1], [ziK 1]), [], (4, [zb 1 0 599, zb 2 0 700, zb 3 1 600]), [zmKV 1 0 2, zmKV 31 2 3, zmVV 36 1 2], [zD (-1) 1 3], [zK 0, zV 1]), [zK 0])]),
  (12, [(((69, 12, [zlR 0 31, zlV 1 1], []), [(68, 8, [zlR 0 0, zlV 1 1], [])], (2, [zbT 1]), [], [], [zK 0, zV 1]), [zK 2])])]
noncomputable def stp_27 : aS → Option (List aS) := stpO noSp (mkT vV Lc_27) [(36, none)] (some (.inl ((-2), 1)), [], 2, []) 41
set_option maxRecDepth 1000000 in
theorem cq_27 : certB stp_27 ct_27 1 27 (eA (mkT vV Lc_27) 68 [.inr (some 0), .inl ((-2147483648), 2147483647)] [] []) = true := by decide +kernel
/-! PointsHome$Files.gather (IIIZ)V -/
def ct_29 : List (Nat × List aC) := [(10, [(((21, 10, [zlV 0 1, zlV 1 2], [ziV 3]), [(72, 109, [zlR 0 31, zlV 1 4, zlV 2 5, zlV 3 6, zlV 4 7, zlV 5 1, zlV 6 8, zlV 7 9], [])], (12, [zb 1 (-2000) 1000000, zb 2 (-2000) 700, zb 3 (-2000) 700, zb 4 0 199, zb 5 0 700, zb 6 0 700, zb 7 0 1, zb 8 0 599, zb 9 0 599, zb 10 0 0, zb 11 (-1) 599]), [zmKK 31 15 1, zmVV 33 8 10, zmVV 34 8 2, zmVV 38 4 11], [zE 0 2 3], [zK 0, zV 4, zV 5, zV 6, zV 7]), [zK 3, zN 2147483648 9, zK 1])]),
  (15, [(((15, 15, [zlV 0 1, zlK 1 0, zlK 2 199], [ziK 1]), [(72, 25, [zlR 0 31, zlV 1 1, zlV 2 2, zlV 3 3, zlV 4 4, zlK 5 1000000], [])], (5, [zb 1 0 199, zb 2 0 700, zb 3 0 700, zb 4 0 1]), [zmKK 31 15 0], [], [zK 0, zV 1, zV 2, zV 3, zV 4]), [zK 5, zK 0, zK 0])]),
  (38, [(((72, 38, [zlR 0 31, zlV 1 1, zlV 2 2, zlV 3 3, zlV 4 4, zlK 5 1000000], [ziV 5]), [], (6, [zb 1 0 199, zb 2 0 700, zb 3 0 700, zb 4 0 1, zb 5 (-1) 599]), [zmKK 31 15 0, zmVV 38 1 5], [], [zK 0, zV 1, zV 2, zV 3, zV 4]), [zK 4, zK 0, zK 0])]),
  (43, [(((72, 43, [zlR 0 31, zlV 1 1, zlV 2 2, zlV 3 3, zlV 4 4, zlV 5 5, zlV 6 6, zlV 7 7], []), [], (10, [zb 1 0 199, zb 2 0 700, zb 3 0 700, zb 4 0 1, zb 5 (-2000) 1000000, zb 6 (-1) 599, zb 7 0 600, zb 8 0 1, zb 9 (-1) 599]), [zmKV 31 15 8, zmVV 38 1 9], [], [zK 0, zV 1, zV 2, zV 3, zV 4]), [zK 3, zN 2147483648 7, zK 3])]),
  (78, [(((72, 78, [zlR 0 31, zlV 1 1, zlV 2 2, zlV 3 3, zlV 4 4, zlV 5 5, zlV 6 6, zlV 7 7], [ziV 8]), [], (11, [zb 1 0 199, zb 2 0 700, zb 3 0 700, zb 4 0 1, zb 5 (-2000) 1000000, zb 6 0 599, zb 7 0 599, zb 8 (-2000) 1000000, zb 9 0 1, zb 10 (-1) 599]), [zmKV 31 15 9, zmVV 38 1 10], [], [zK 0, zV 1, zV 2, zV 3, zV 4]), [zK 3, zN 2147483648 7, zK 2])]),
  (130, [(((72, 130, [zlR 0 31, zlV 1 1, zlV 2 2, zlV 3 3, zlV 4 4, zlV 5 5, zlV 6 6, zlV 7 7], []), [], (10, [zb 1 0 199, zb 2 0 700, zb 3 0 700, zb 4 0 1, zb 5 (-2000) 1000000, zb 6 0 599, zb 7 0 599, zb 8 0 1, zb 9 (-1) 599]), [zmKV 31 15 8, zmVV 38 1 9], [], [zK 0, zV 1, zV 2, zV 3, zV 4]), [zK 3, zN 2147483648 7, zK 0])]),
  (145, [(((72, 145, [zlR 0 31, zlV 1 1, zlV 2 2, zlV 3 3, zlV 4 4, zlV 5 5, zlV 6 6, zlV 7 7], []), [], (10, [zb 1 0 199, zb 2 0 700, zb 3 0 700, zb 4 0 1, zb 5 (-2000) 1000000, zb 6 (-1) 599, zb 7 0 600, zb 8 0 1, zb 9 (-1) 599]), [zmKV 31 15 8, zmVV 38 1 9], [], [zK 0, zV 1, zV 2, zV 3, zV 4]), [zK 2, zK 0, zK 0])]),
  (167, [(((72, 167, [zlR 0 31, zlV 1 1, zlV 2 2, zlV 3 3, zlV 4 4, zlV 5 5, zlV 6 6, zlV 7 7], [ziV 8, ziK 0, zrf 39]), [], (11, [zb 1 0 199, zb 2 0 700, zb 3 0 700, zb 4 0 1, zb 5 (-2000) 700, zb 6 (-1) 599, zb 7 0 600, zb 8 0 90, zb 9 0 1, zb 10 (-1) 599]), [zmKV 31 15 9, zmVV 38 1 10], [zE 0 3 5], [zK 0, zV 1, zV 2, zV 3, zV 4]), [zK 0, zK 0, zK 0]),
    (((72, 167, [zlR 0 31, zlV 1 1, zlV 2 2, zlV 3 3, zlV 4 4, zlV 5 5, zlV 6 6, zlV 7 7], [ziK 0, ziK 0, zrf 39]), [], (10, [zb 1 0 199, zb 2 0 700, zb 3 0 700, zb 4 0 1, zb 5 1 1000000, zb 6 (-1) 599, zb 7 0 600, zb 8 0 1, zb 9 (-1) 599]), [zmKV 31 15 8, zmVV 38 1 9], [zD (-1) 3 5], [zK 0, zV 1, zV 2, zV 3, zV 4]), [zK 1, zK 0, zK 0])])]
noncomputable def stp_29 : aS → Option (List aS) := stpO noSp (mkT vV Lc_29) [(31, some 15), (39, none)] (none, [], 5, []) 42
set_option maxRecDepth 1000000 in
theorem cq_29 : certB stp_29 ct_29 3 23 (eA (mkT vV Lc_29) 72 [.inr (some 31), .inl (0, 199), .inl (0, 700), .inl (0, 700), .inl (0, 1)] [] []) = true := by decide +kernel
/-! PointsHome$Tape.readOne (I)V -/
def ct_103 : List (Nat × List aC) := [(16, [(((122, 16, [zlR 0 47, zlV 1 1], []), [(121, 33, [zlR 0 47, zlV 1 1], [zrf 47])], (2, [zb 1 (-1) 19]), [zmKK 47 9 0, zmKK 47 10 0, zmKK 47 11 999, zmKK 47 12 0, zmKK 47 13 (-1)], [], [zK 0, zV 1]), [zK 10]),
    (((19, 16, [zlR 0 1, zlV 1 1], []), [(128, 5, [zlR 0 1, zlV 1 1], []), (121, 112, [zlR 0 47], [])], (4, [zbT 1, zb 2 (-1) 19, zb 3 (-1) 19]), [zmKV 47 13 1, zmKV 47 14 2], [], [zK 0, zV 3]), [zK 4])]),
  (17, [(((122, 17, [zlR 0 47, zlV 1 1], [ziK 1]), [(121, 33, [zlR 0 47, zlV 1 1], [zrf 47])], (3, [zb 1 0 19, zb 2 1 20]), [zmKV 47 3 2, zmKK 47 9 0, zmKK 47 10 0, zmKK 47 11 999, zmKK 47 12 0, zmKK 47 13 (-1)], [zD (-1) 1 2], [zK 0, zV 1]), [zK 8]),
    (((122, 17, [zlR 0 47, zlV 1 1], [ziK 0]), [(121, 33, [zlR 0 47, zlV 1 1], [zrf 47])], (2, [zb 1 (-1) 19]), [zmKK 47 9 0, zmKK 47 10 0, zmKK 47 11 999, zmKK 47 12 0, zmKK 47 13 (-1)], [], [zK 0, zV 1]), [zK 9]),
    (((19, 17, [zlR 0 1, zlV 1 1], [ziK 1]), [(128, 5, [zlR 0 1, zlV 1 1], []), (121, 112, [zlR 0 47], [])], (5, [zb 1 0 19, zb 2 1 20, zb 3 (-1) 19, zb 4 (-1) 19]), [zmKV 1 1 2, zmKV 47 13 1, zmKV 47 14 3], [zD (-1) 1 2], [zK 0, zV 4]), [zK 6]),
    (((19, 17, [zlR 0 1, zlV 1 1], [ziK 0]), [(128, 5, [zlR 0 1, zlV 1 1], []), (121, 112, [zlR 0 47], [])], (4, [zbT 1, zb 2 (-1) 19, zb 3 (-1) 19]), [zmKV 47 13 1, zmKV 47 14 2], [], [zK 0, zV 3]), [zK 3])]),
  (22, [(((128, 22, [zlR 0 1, zlV 1 1], []), [(121, 112, [zlR 0 47], [])], (4, [zbT 1, zb 2 (-1) 19, zb 3 (-1) 19]), [zmKV 47 13 1, zmKV 47 14 2], [], [zK 0, zV 3]), [zK 2])]),
  (23, [(((128, 23, [zlR 0 1, zlV 1 1], [ziK 1]), [(121, 112, [zlR 0 47], [])], (6, [zb 1 0 19, zb 2 1 20, zb 3 (-1) 19, zb 4 1 1, zb 5 (-1) 19]), [zmKV 1 1 2, zmVV 3 1 4, zmKV 47 13 1, zmKV 47 14 3], [zD (-1) 1 2], [zK 0, zV 5]), [zK 5]),
    (((128, 23, [zlR 0 1, zlV 1 1], [ziK 0]), [(121, 112, [zlR 0 47], [])], (4, [zbT 1, zb 2 (-1) 19, zb 3 (-1) 19]), [zmKV 47 13 1, zmKV 47 14 2], [], [zK 0, zV 3]), [zK 1])]),
  (41, [(((121, 41, [zlR 0 47, zlV 1 1], [ziV 2, zrf 47]), [], (3, [zb 1 (-1) 19, zb 2 (-1) 19]), [zmKK 47 9 0, zmKK 47 10 0, zmKK 47 11 999, zmKK 47 12 0, zmKK 47 13 (-1)], [], [zK 0, zV 1]), [zK 7])]),
  (120, [(((121, 120, [zlR 0 47], []), [], (4, [zb 1 (-1) 19, zb 2 (-1) 19, zb 3 (-1) 19]), [zmKV 47 13 3, zmKV 47 14 1], [], [zK 0, zV 2]), [zK 0])])]
noncomputable def stp_103 : aS → Option (List aS) := stpO (spP kc_102.2 47 50 (mkT vV Lc_103) [(47, some 9), (47, some 10), (47, some 11), (47, some 12), (47, some 13), (47, some 14), (52, none)] 42) (mkT vV Lc_103) [(47, some 9), (47, some 10), (47, some 11), (47, some 12), (47, some 13), (47, some 14), (52, none)] (none, [], 2, []) 42
set_option maxRecDepth 1000000 in
theorem cq_103 : certB stp_103 ct_103 1 29 (eA (mkT vV Lc_103) 121 [.inr (some 47), .inl ((-1), 19)] [] []) = true := by decide +kernel
/-! PointsHome$Relief.tellMan (I)I -/
def ct_125 : List (Nat × List aC) := [(15, [(((167, 15, [zlR 0 66, zlV 1 1, zlV 2 2], []), [], (5, [zb 1 0 199, zb 2 0 8, zb 3 1 200, zb 4 0 6]), [zmKV 9 1 3, zmVV 14 1 4], [zD (-1) 1 3], [zK 0, zV 1]), [zK 0, zN 2147483648 2, zK 0])]),
  (25, [(((48, 25, [zlR 0 9, zlV 1 1], []), [(167, 8, [zlR 0 66, zlV 1 1], [])], (2, [zbT 1]), [], [], [zK 0, zV 1]), [zK 3, zK 0, zK 0])]),
  (26, [(((48, 26, [zlR 0 9, zlV 1 1], [ziK 1]), [(167, 8, [zlR 0 66, zlV 1 1], [])], (4, [zb 1 0 199, zb 2 1 200, zb 3 0 6]), [zmKV 9 1 2, zmVV 14 1 3], [zD (-1) 1 2], [zK 0, zV 1]), [zK 1, zK 0, zK 0]),
    (((48, 26, [zlR 0 9, zlV 1 1], [ziK 0]), [(167, 8, [zlR 0 66, zlV 1 1], [])], (2, [zbT 1]), [], [], [zK 0, zV 1]), [zK 2, zK 0, zK 0])])]
noncomputable def stp_125 : aS → Option (List aS) := stpO noSp (mkT vV Lc_125) [(66, some 4), (69, none)] (some (.inl ((-3), 8)), [], 2, []) 41
set_option maxRecDepth 1000000 in
theorem cq_125 : certB stp_125 ct_125 3 31 (eA (mkT vV Lc_125) 167 [.inr (some 66), .inl ((-2147483648), 2147483647)] [] []) = true := by decide +kernel
/-! PointsHome$Relief.choose (IIIIJ)V -/
def ct_140 : List (Nat × List aC) := [(25, [(((172, 25, [zlR 0 66, zlV 1 1, zlV 2 2, zlV 3 3, zlV 4 4, (5, .inr none)], []), [], (7, [zb 1 3 3, zb 2 0 3, zb 3 6 8, zb 4 0 255, zb 5 0 3, zb 6 0 1]), [zmKV 66 3 5, zmKV 66 12 6], [], [zK 0, zV 1, zV 2, zV 3, zV 4, zK 0]), [zK 2, zK 0, zK 0])]),
  (81, [(((172, 81, [zlR 0 66, zlV 1 1, zlV 2 2, zlV 3 3, zlV 4 4, (5, .inr none)], [ziV 5]), [], (8, [zb 1 3 3, zb 2 0 0, zb 3 6 8, zb 4 0 255, zb 5 0 9, zb 6 5 5, zb 7 0 999]), [zmKV 66 3 6, ((68, zA 1 1), zV 7)], [], [zK 0, zV 1, zV 2, zV 3, zV 4, zK 0]), [zK 1, zK 0, zK 0]),
    (((172, 81, [zlR 0 66, zlV 1 1, zlV 2 2, zlV 3 3, zlV 4 4, (5, .inr none)], [ziK 0]), [], (6, [zb 1 3 3, zb 2 0 0, zb 3 6 8, zb 4 0 255, zb 5 4 4]), [zmKV 66 3 5], [], [zK 0, zV 1, zV 2, zV 3, zV 4, zK 0]), [zK 3, zK 0, zK 0])]),
  (114, [(((172, 114, [zlR 0 66, zlV 1 1, zlV 2 2, zlV 3 3, zlV 4 4, (5, .inr none), zlV 7 5, zlV 8 6], []), [], (9, [zb 1 3 3, zb 2 1 3, zb 3 6 8, zb 4 0 255, zb 5 0 255, zb 6 6 8, zb 7 4 5, zb 8 0 255]), [zmKV 66 3 7, zmVV 70 1 8], [], [zK 0, zV 1, zV 2, zV 3, zV 4, zK 0]), [zK 0, zN 2147483648 6, zK 1])]),
  (179, [(((172, 179, [zlR 0 66, zlV 1 1, zlV 2 2, zlV 3 3, zlV 4 4, (5, .inr none), zlV 7 5, zlV 8 6], []), [], (10, [zb 1 3 3, zb 2 1 3, zb 3 6 8, zb 4 0 255, zb 5 0 255, zb 6 6 7, zb 7 4 5, zb 8 7 8, zb 9 0 255]), [zmKV 66 3 7, zmKV 66 4 8, zmVV 70 1 9], [zD (-1) 6 8], [zK 0, zV 1, zV 2, zV 3, zV 4, zK 0]), [zK 0, zN 2147483648 6, zK 0])])]
noncomputable def stp_140 : aS → Option (List aS) := stpO (spA acTab (mkT vV Lc_140) [(66, some 12), (72, none), (73, none)]) (mkT vV Lc_140) [(66, some 12), (72, none), (73, none)] (none, [], 6, []) 53
set_option maxRecDepth 1000000 in
theorem cq_140 : certB stp_140 ct_140 3 43 (eA (mkT vV Lc_140) 172 [.inr (some 66), .inl (3, 3), .inl (0, 3), .inl (6, 8), .inl (0, 255), .inr none] [] []) = true := by decide +kernel
/-! PointsHome$Relief.choose (IIIIJ)V -/
def ct_160 : List (Nat × List aC) := [(25, [(((172, 25, [zlR 0 66, zlV 1 1, zlV 2 2, zlV 3 3, zlV 4 4, (5, .inr none)], []), [], (7, [zb 1 1 1, zb 2 0 3, zb 3 6 8, zb 4 0 255, zb 5 0 1, zb 6 0 1]), [zmKV 66 3 5, zmKV 66 12 6], [], [zK 0, zV 1, zV 2, zV 3, zV 4, zK 0]), [zK 2, zK 0, zK 0])]),
  (81, [(((172, 81, [zlR 0 66, zlV 1 1, zlV 2 2, zlV 3 3, zlV 4 4, (5, .inr none)], [ziV 5]), [], (8, [zb 1 1 1, zb 2 0 0, zb 3 6 8, zb 4 0 255, zb 5 0 9, zb 6 3 5, zb 7 0 999]), [zmKV 66 3 6, ((68, zA 1 1), zV 7)], [], [zK 0, zV 1, zV 2, zV 3, zV 4, zK 0]), [zK 1, zK 0, zK 0]),
    (((172, 81, [zlR 0 66, zlV 1 1, zlV 2 2, zlV 3 3, zlV 4 4, (5, .inr none)], [ziK 0]), [], (6, [zb 1 1 1, zb 2 0 0, zb 3 6 8, zb 4 0 255, zb 5 2 2]), [zmKV 66 3 5], [], [zK 0, zV 1, zV 2, zV 3, zV 4, zK 0]), [zK 3, zK 0, zK 0])]),
  (114, [(((172, 114, [zlR 0 66, zlV 1 1, zlV 2 2, zlV 3 3, zlV 4 4, (5, .inr none), zlV 7 5, zlV 8 6], []), [], (9, [zb 1 1 1, zb 2 1 3, zb 3 6 8, zb 4 0 255, zb 5 0 255, zb 6 6 8, zb 7 2 5, zb 8 0 255]), [zmKV 66 3 7, zmVV 70 1 8], [], [zK 0, zV 1, zV 2, zV 3, zV 4, zK 0]), [zK 0, zN 2147483648 6, zK 1])]),
  (179, [(((172, 179, [zlR 0 66, zlV 1 1, zlV 2 2, zlV 3 3, zlV 4 4, (5, .inr none), zlV 7 5, zlV 8 6], []), [], (10, [zb 1 1 1, zb 2 1 3, zb 3 6 8, zb 4 0 255, zb 5 0 255, zb 6 6 7, zb 7 2 5, zb 8 7 8, zb 9 0 255]), [zmKV 66 3 7, zmKV 66 4 8, zmVV 70 1 9], [zD (-1) 6 8], [zK 0, zV 1, zV 2, zV 3, zV 4, zK 0]), [zK 0, zN 2147483648 6, zK 0])])]
noncomputable def stp_160 : aS → Option (List aS) := stpO (spA acTab (mkT vV Lc_160) [(66, some 12), (72, none), (73, none)]) (mkT vV Lc_160) [(66, some 12), (72, none), (73, none)] (none, [], 6, []) 71
set_option maxRecDepth 1000000 in
theorem cq_160 : certB stp_160 ct_160 3 43 (eA (mkT vV Lc_160) 172 [.inr (some 66), .inl (1, 1), .inl (0, 3), .inl (6, 8), .inl (0, 255), .inr none] [] []) = true := by decide +kernel
/-! PointsHome$Line.letGo (III)V -/
def ct_206 : List (Nat × List aC) := [(3, [(((207, 3, [zlR 0 90, zlV 1 1, zlV 2 2, zlV 3 3, zlV 4 4], []), [], (5, [zb 1 0 7, zb 2 1 4, zb 3 0 1000000, zb 4 0 4]), [], [zE 0 2 4], [zK 0, zV 1, zV 2, zV 3]), [zK 1, zN 2147483648 4, zK 2])]),
  (10, [(((22, 10, [zlK 0 0, zlV 1 1], [ziK 0]), [(207, 47, [zlR 0 90, zlV 1 2, zlV 2 3, zlV 3 4, zlV 4 5], [ziV 5, zrf 93])], (8, [zb 1 (-2147483648) 0, zb 2 0 7, zb 3 1 4, zb 4 0 1000000, zb 5 0 3, zb 6 0 9999, zb 7 0 2147483647]), [((92, (0, [(2, 1), (5, 8)])), zV 6), zmVV 93 5 7], [zE (-1) 3 5], [zK 0, zV 2, zV 3, zV 4]), [zK 1, zN 2147483648 5, zK 0]),
    (((22, 10, [zlK 0 0, zlV 1 1], [ziV 1]), [(207, 47, [zlR 0 90, zlV 1 2, zlV 2 3, zlV 3 4, zlV 4 5], [ziV 5, zrf 93])], (8, [zb 1 1 2147483647, zb 2 0 7, zb 3 1 4, zb 4 0 1000000, zb 5 0 3, zb 6 0 9999, zb 7 0 2147483647]), [((92, (0, [(2, 1), (5, 8)])), zV 6), zmVV 93 5 7], [zE (-1) 3 5], [zK 0, zV 2, zV 3, zV 4]), [zK 1, zN 2147483648 5, zK 1])]),
  (54, [(((207, 54, [zlR 0 90, zlV 1 1, zlV 2 2, zlV 3 3, zlV 4 4], []), [], (5, [zb 1 0 7, zb 2 1 4, zb 3 0 1000000, zb 4 1 4]), [], [zD 0 2 4, zE 0 2 4], [zK 0, zV 1, zV 2, zV 3]), [zK 0, zK 0, zK 0])])]
noncomputable def stp_206 : aS → Option (List aS) := stpO noSp (mkT vV Lc_206) [(93, none)] (none, [], 4, []) 41
set_option maxRecDepth 1000000 in
theorem cq_206 : certB stp_206 ct_206 3 33 (eA (mkT vV Lc_206) 207 [.inr (some 90), .inl (0, 7), .inl (1, 4), .inl (0, 1000000)] [] []) = true := by decide +kernel
/-! PointsHome.shift (IIIII)I -/
def ct_220 : List (Nat × List aC) := []
noncomputable def stp_220 : aS → Option (List aS) := stpO noSp (mkT vV Lc_220) [] (some (.inl ((-13), 90)), [], 6, []) 42
set_option maxRecDepth 1000000 in
theorem cq_220 : certB stp_220 ct_220 1 11 (eA (mkT vV Lc_220) 225 [.inr (some 0), .inl ((-2147483648), 2147483647), .inl ((-2147483648), 2147483647), .inl ((-2147483648), 2147483647), .inl ((-2147483648), 2147483647), .inl ((-2147483648), 2147483647)] [] []) = true := by decide +kernel
/-! PointsHomeModel.trueOf (III)I -/
def ct_246 : List (Nat × List aC) := [(11, [(((264, 11, [zlR 0 94, zlV 1 1, zlV 2 2, zlV 3 3, zlV 4 4, zlV 5 5, zlV 6 6], []), [], (7, [zb 1 0 199, zb 2 0 4, zb 3 0 700, zbT 4, zb 5 (-2000) 701, zb 6 0 600]), [], [], [zK 0, zV 1, zV 2, zV 3]), [zK 2, zA 2147483648 5, zK 0, zN 2147483648 6, zK 1])]),
  (80, [(((264, 80, [zlR 0 94, zlV 1 1, zlV 2 2, zlV 3 3, zlV 4 4, zlV 5 5, zlV 6 6], []), [], (9, [zb 1 0 199, zb 2 0 4, zb 3 0 700, zbT 4, zb 5 (-2000) 701, zb 6 0 599, zb 7 1 600, zb 8 0 199]), [zmKV 94 25 7, zmVV 116 6 8], [zD (-1) 6 7], [zK 0, zV 1, zV 2, zV 3]), [zK 2, zA 2147483648 5, zK 0, zN 2147483648 6, zK 0])]),
  (112, [(((264, 112, [zlR 0 94, zlV 1 1, zlV 2 2, zlV 3 3, zlV 4 4, zlV 5 5, zlV 6 6], [ziK 0]), [], (8, [zb 1 0 199, zb 2 0 4, zb 3 0 700, zbT 4, zb 5 1 701, zb 6 0 600, zb 7 0 600]), [zmKV 94 25 7], [zD (-1) 3 5, zE 0 6 7], [zK 0, zV 1, zV 2, zV 3]), [zK 1, zK 0, zK 0, zK 0, zK 0]),
    (((264, 112, [zlR 0 94, zlV 1 1, zlV 2 2, zlV 3 3, zlV 4 4, zlV 5 5, zlV 6 6], [ziV 7]), [], (9, [zb 1 0 199, zb 2 0 4, zb 3 0 700, zbT 4, zb 5 (-2000) 701, zb 6 0 600, zbT 7, zb 8 0 600]), [zmKV 94 25 8], [zE 0 6 8], [zK 0, zV 1, zV 2, zV 3]), [zK 0, zK 0, zK 0, zK 0, zK 0])])]
noncomputable def stp_246 : aS → Option (List aS) := stpO noSp (mkT vV Lc_246) [] (some (.inl ((-2147483648), 2147483647)), [], 4, []) 41
set_option maxRecDepth 1000000 in
theorem cq_246 : certB stp_246 ct_246 5 36 (eA (mkT vV Lc_246) 264 [.inr (some 94), .inl (0, 199), .inl (0, 4), .inl (0, 700)] [] []) = true := by decide +kernel
/-! PointsHomeModel.sum ()V -/
def ct_331 : List (Nat × List aC) := [(4, [(((323, 4, [zlR 0 94, zlV 1 1, zlV 2 2, zlV 3 3], []), [], (4, [zb 1 0 15, zbT 2, zb 3 0 200]), [], [], [zK 0, zV 1]), [zK 0, zN 2147483648 3, zK 6])]),
  (20, [(((249, 20, [zlR 0 94, zlV 1 1], []), [(323, 18, [zlR 0 94, zlV 1 2, zlV 2 3, zlV 3 1], [ziV 3])], (6, [zb 1 0 199, zb 2 0 15, zbT 3, zb 4 1 200, zb 5 1 2]), [zmKV 94 11 4, zmVV 103 1 5], [zD (-1) 1 4], [zK 0, zV 2]), [zK 0, zN 2147483648 1, zK 5])]),
  (25, [(((249, 25, [zlR 0 94, zlV 1 1], [ziK 0]), [(323, 18, [zlR 0 94, zlV 1 2, zlV 2 3, zlV 3 1], [ziV 3])], (6, [zb 1 0 199, zb 2 0 15, zbT 3, zb 4 1 200, zb 5 0 7]), [zmKV 94 11 4, zmVV 103 1 5], [zD (-1) 1 4], [zK 0, zV 2]), [zK 0, zN 2147483648 1, zK 2]),
    (((249, 25, [zlR 0 94, zlV 1 1], [ziK 1]), [(323, 18, [zlR 0 94, zlV 1 2, zlV 2 3, zlV 3 1], [ziV 3])], (6, [zb 1 0 199, zb 2 0 15, zbT 3, zb 4 1 200, zb 5 1 2]), [zmKV 94 11 4, zmVV 103 1 5], [zD (-1) 1 4], [zK 0, zV 2]), [zK 0, zN 2147483648 1, zK 4])]),
  (54, [(((323, 54, [zlR 0 94, zlV 1 1, zlK 2 0, zlV 3 2], [ziK 0]), [], (5, [zb 1 0 15, zb 2 0 199, zb 3 1 200, zb 4 0 7]), [zmKV 94 11 3, zmVV 103 2 4], [zD (-1) 2 3], [zK 0, zV 1]), [zK 1, zK 0, zK 0]),
    (((323, 54, [zlR 0 94, zlV 1 1, zlV 2 2, zlV 3 3], [ziV 2]), [], (6, [zb 1 0 15, zbT 2, zb 3 0 199, zb 4 1 200, zb 5 0 7]), [zmKV 94 11 4, zmVV 103 3 5], [zD (-1) 3 4], [zK 0, zV 1]), [zK 0, zN 2147483648 3, zK 1])]),
  (55, [(((323, 55, [zlR 0 94, zlV 1 1, zlV 2 2, zlV 3 3], [ziK 1, ziV 2]), [], (9, [zb 1 0 15, zbT 2, zb 3 0 199, zb 4 1 200, zb 5 1 2, zb 6 2 2, zb 7 0 15, zb 8 1 1]), [zmKV 94 11 4, zmVV 103 3 5, zmVV 107 3 6, zmVV 109 3 7, zmVV 112 3 8], [zD 0 1 7, zE 0 1 7, zD (-1) 3 4], [zK 0, zV 1]), [zK 0, zN 2147483648 3, zK 3]),
    (((323, 55, [zlR 0 94, zlV 1 1, zlV 2 2, zlV 3 3], [ziK 0, ziV 2]), [], (6, [zb 1 0 15, zbT 2, zb 3 0 199, zb 4 1 200, zb 5 0 7]), [zmKV 94 11 4, zmVV 103 3 5], [zD (-1) 3 4], [zK 0, zV 1]), [zK 0, zN 2147483648 3, zK 0])])]
noncomputable def stp_331 : aS → Option (List aS) := stpO noSp (mkT vV Lc_331) [] (some (.inl ((-2147483648), 2147483647)), [], 2, []) 41
set_option maxRecDepth 1000000 in
theorem cq_331 : certB stp_331 ct_331 3 23 (eA (mkT vV Lc_331) 323 [.inr (some 94), .inl (0, 15)] [] []) = true := by decide +kernel
/-! PointsHomeModel.relieve (IIIJ)V -/
def ct_368 : List (Nat × List aC) := [(26, [(((330, 26, [zlR 0 94, zlV 1 1, zlV 2 2, zlV 3 3, (4, .inr none)], []), [], (6, [zb 1 2 2, zb 2 0 9, zb 3 0 0, zb 4 2 2, zb 5 0 1]), [zmKV 94 68 4, zmKV 94 77 5], [], [zK 0, zV 1, zV 2, zV 3, zK 0]), [zK 3, zK 0, zK 0])]),
  (48, [(((330, 48, [zlR 0 94, zlV 1 1, zlV 2 2, zlV 3 3, (4, .inr none), zlV 6 4], []), [], (7, [zb 1 2 2, zb 2 0 9, zb 3 0 0, zb 4 0 8, zb 5 2 2, zb 6 0 8]), [zmKV 94 68 5, zmKV 94 71 6, zmKV 94 75 6, zmKK 94 77 1], [], [zK 0, zV 1, zV 2, zV 3, zK 0]), [zK 0, zN 2147483648 4, zK 0])]),
  (75, [(((331, 75, [zlR 0 94, zlV 1 1, zlV 2 2, zlV 3 3], []), [(330, 140, [zlR 0 94, zlV 1 2, zlV 2 4, zlV 3 5, (4, .inr none), zlV 6 1], [])], (9, [zb 1 0 7, zb 2 2 2, zb 3 0 199, zb 4 1 9, zb 5 0 0, zb 6 3 5, zb 7 1 8, zb 8 (-1) 4]), [zmKV 94 68 6, zmKV 94 71 7, zmVV 144 1 3, zmVV 146 1 8], [zD (-1) 1 7], [zK 0, zV 2, zV 4, zV 5, zK 0]), [zK 2, zN 2147483648 1, zK 3])]),
  (76, [(((331, 76, [zlR 0 94, zlV 1 1, zlV 2 2, zlV 3 3], [ziK 1]), [(330, 140, [zlR 0 94, zlV 1 2, zlV 2 4, zlV 3 5, (4, .inr none), zlV 6 1], [])], (15, [zb 1 0 7, zb 2 2 2, zb 3 0 199, zb 4 1 9, zb 5 0 0, zb 6 3 5, zb 7 1 8, zb 8 0 9, zb 9 0 0, zb 10 0 19, zb 11 0 19, zb 12 0 939, zb 13 (-1) (-1), zb 14 (-2147483648) 9]), [zmKV 94 68 6, zmKV 94 71 7, zmVV 105 3 8, zmVV 107 3 9, zmVV 108 3 10, zmVV 142 2 11, zmVV 143 2 12, zmVV 144 1 3, zmVV 146 1 13, ((102, (0, [(10, 20), (11, 1)])), zV 14)], [zD (-1) 1 7], [zK 0, zV 2, zV 4, zV 5, zK 0]), [zK 2, zN 2147483648 1, zK 1]),
    (((331, 76, [zlR 0 94, zlV 1 1, zlV 2 2, zlV 3 3], [ziK 0]), [(330, 140, [zlR 0 94, zlV 1 2, zlV 2 4, zlV 3 5, (4, .inr none), zlV 6 1], [])], (9, [zb 1 0 7, zb 2 2 2, zb 3 0 199, zb 4 1 9, zb 5 0 0, zb 6 3 5, zb 7 1 8, zb 8 (-1) 4]), [zmKV 94 68 6, zmKV 94 71 7, zmVV 144 1 3, zmVV 146 1 8], [zD (-1) 1 7], [zK 0, zV 2, zV 4, zV 5, zK 0]), [zK 2, zN 2147483648 1, zK 2])]),
  (114, [(((330, 114, [zlR 0 94, zlV 1 1, zlV 2 2, zlV 3 3, (4, .inr none)], [ziV 4, .inl (zA 1 1), zrf 94]), [], (7, [zb 1 2 2, zb 2 0 0, zb 3 0 0, zb 4 0 9, zb 5 4 5, zb 6 0 939]), [zmKV 94 68 5, ((143, zA 1 1), zV 6)], [], [zK 0, zV 1, zV 2, zV 3, zK 0]), [zK 4, zK 0, zK 0]),
    (((330, 114, [zlR 0 94, zlV 1 1, zlV 2 2, zlV 3 3, (4, .inr none)], [ziK 0, .inl (zA 1 1), zrf 94]), [], (5, [zb 1 2 2, zb 2 0 0, zb 3 0 0, zb 4 3 3]), [zmKV 94 68 4], [], [zK 0, zV 1, zV 2, zV 3, zK 0]), [zK 1, zK 0, zK 0])]),
  (124, [(((330, 124, [zlR 0 94, zlV 1 1, zlV 2 2, zlV 3 3, (4, .inr none), zlV 6 4], []), [], (6, [zb 1 2 2, zb 2 1 9, zb 3 0 0, zb 4 0 8, zb 5 3 5]), [zmKV 94 68 5], [], [zK 0, zV 1, zV 2, zV 3, zK 0]), [zK 2, zN 2147483648 4, zK 4])]),
  (185, [(((330, 185, [zlR 0 94, zlV 1 1, zlV 2 2, zlV 3 3, (4, .inr none), zlV 6 4], []), [], (9, [zb 1 2 2, zb 2 1 9, zb 3 0 0, zb 4 0 7, zb 5 3 5, zb 6 1 8, zb 7 0 199, zb 8 (-1) 4]), [zmKV 94 68 5, zmKV 94 71 6, zmVV 144 4 7, zmVV 146 4 8], [zD (-1) 4 6], [zK 0, zV 1, zV 2, zV 3, zK 0]), [zK 2, zN 2147483648 4, zK 0])])]
noncomputable def stp_368 : aS → Option (List aS) := stpO noSp (mkT vV Lc_368) [(94, some 75), (94, some 77), (146, none), (147, none)] (none, [], 5, []) 68
set_option maxRecDepth 1000000 in
theorem cq_368 : certB stp_368 ct_368 3 64 (eA (mkT vV Lc_368) 330 [.inr (some 94), .inl (2, 2), .inl (0, 9), .inl (0, 0), .inr none] [((-2), [((1, 94, 68), 1)])] []) = true := by decide +kernel
/-! PointsHomeModel.row (III)I -/
def ct_21 : List (Nat × List aC) := [(9, [(((53, 9, [zlR 0 0, zlV 1 1, zlV 2 2], [ziV 3]), [], (4, [zbT 1, zbT 2, zb 3 (-2000000000) 199]), [], [], [zK 0, zV 1, zV 2]), [zK 0])]),
  (14, [(((39, 14, [zlR 0 9, zlV 1 1], []), [(54, 13, [zlR 0 9, zlV 1 2, zlV 2 1], []), (53, 9, [zlR 0 0, zlV 1 2, zlV 2 1], [])], (5, [zb 1 (-1) 199, zb 2 0 199, zb 3 1 200, zb 4 0 6]), [zmKV 9 1 3, zmVV 14 2 4], [zD (-1) 2 3, zD (-1) 1 3], [zK 0, zV 2, zV 1]), [zK 7])]),
  (16, [(((41, 16, [zlR 0 9, zlV 1 1], []), [(40, 5, [zlR 0 9, zlV 1 1, zlK 2 4], []), (39, 11, [zlR 0 9, zlV 1 1], []), (54, 13, [zlR 0 9, zlV 1 2, zlV 2 1], []), (53, 9, [zlR 0 0, zlV 1 2, zlV 2 1], [])], (5, [zbT 1, zb 2 0 199, zb 3 1 200, zb 4 0 6]), [zmKV 9 1 3, zmVV 14 2 4], [zD (-1) 2 3], [zK 0, zV 2, zV 1]), [zK 9]),
    (((54, 16, [zlR 0 9, zlV 1 1, zlV 2 2], []), [(53, 9, [zlR 0 0, zlV 1 1, zlV 2 2], [])], (3, [zbT 1, zbT 2]), [], [], [zK 0, zV 1, zV 2]), [zK 1])]),
  (17, [(((41, 17, [zlR 0 9, zlV 1 1], [ziK 1]), [(40, 5, [zlR 0 9, zlV 1 1, zlK 2 4], []), (39, 11, [zlR 0 9, zlV 1 1], []), (54, 13, [zlR 0 9, zlV 1 2, zlV 2 1], []), (53, 9, [zlR 0 0, zlV 1 2, zlV 2 1], [])], (5, [zb 1 0 199, zb 2 0 199, zb 3 1 200, zb 4 0 6]), [zmKV 9 1 3, zmVV 14 2 4], [zD (-1) 1 3, zD (-1) 2 3], [zK 0, zV 2, zV 1]), [zK 8]),
    (((41, 17, [zlR 0 9, zlV 1 1], [ziK 0]), [(40, 5, [zlR 0 9, zlV 1 1, zlK 2 4], []), (39, 11, [zlR 0 9, zlV 1 1], []), (54, 13, [zlR 0 9, zlV 1 2, zlV 2 1], []), (53, 9, [zlR 0 0, zlV 1 2, zlV 2 1], [])], (5, [zbT 1, zb 2 0 199, zb 3 1 200, zb 4 0 6]), [zmKV 9 1 3, zmVV 14 2 4], [zD (-1) 2 3], [zK 0, zV 2, zV 1]), [zK 3])]),
  (19, [(((39, 19, [zlR 0 9, zlV 1 1], [ziK 0]), [(54, 13, [zlR 0 9, zlV 1 2, zlV 2 1], []), (53, 9, [zlR 0 0, zlV 1 2, zlV 2 1], [])], (5, [zbT 1, zb 2 0 199, zb 3 1 200, zb 4 0 6]), [zmKV 9 1 3, zmVV 14 2 4], [zD (-1) 2 3], [zK 0, zV 2, zV 1]), [zK 2]),
    (((39, 19, [zlR 0 9, zlV 1 1], [ziK 1]), [(54, 13, [zlR 0 9, zlV 1 2, zlV 2 1], []), (53, 9, [zlR 0 0, zlV 1 2, zlV 2 1], [])], (5, [zb 1 (-1) 199, zb 2 0 199, zb 3 1 200, zb 4 0 6]), [zmKV 9 1 3, zmVV 14 2 4], [zD (-1) 2 3, zD (-1) 1 3], [zK 0, zV 2, zV 1]), [zK 6])]),
  (25, [(((48, 25, [zlR 0 9, zlV 1 1], []), [(54, 5, [zlR 0 9, zlV 1 1, zlV 2 2], []), (53, 9, [zlR 0 0, zlV 1 1, zlV 2 2], [])], (3, [zbT 1, zbT 2]), [], [], [zK 0, zV 1, zV 2]), [zK 5])]),
  (26, [(((48, 26, [zlR 0 9, zlV 1 1], [ziK 1]), [(54, 5, [zlR 0 9, zlV 1 1, zlV 2 2], []), (53, 9, [zlR 0 0, zlV 1 1, zlV 2 2], [])], (5, [zb 1 0 199, zbT 2, zb 3 1 200, zb 4 0 6]), [zmKV 9 1 3, zmVV 14 1 4], [zD (-1) 1 3], [zK 0, zV 1, zV 2]), [zK 10]),
    (((48, 26, [zlR 0 9, zlV 1 1], [ziK 0]), [(54, 5, [zlR 0 9, zlV 1 1, zlV 2 2], []), (53, 9, [zlR 0 0, zlV 1 1, zlV 2 2], [])], (3, [zbT 1, zbT 2]), [], [], [zK 0, zV 1, zV 2]), [zK 4])])]
noncomputable def stp_21 : aS → Option (List aS) := stpO (spS stTab) (mkT vV Lc_21) [(11, none)] (some (.inl ((-2000000000), 199)), [], 3, []) 41
set_option maxRecDepth 1000000 in
theorem cq_21 : certB stp_21 ct_21 1 78 (eA (mkT vV Lc_21) 53 [.inr (some 0), .inl ((-2147483648), 2147483647), .inl ((-2147483648), 2147483647)] [] []) = true := by decide +kernel
/-! PointsHome$Tape.readProduct (I)V -/
def ct_137 : List (Nat × List aC) := [(25, [(((172, 25, [zlR 0 66, zlV 1 1, zlV 2 2, zlV 3 3, zlV 4 4, (5, .inr none)], []), [], (7, [zb 1 4 4, zb 2 0 0, zb 3 0 0, zb 4 0 255, zb 5 0 4, zb 6 0 1]), [zmKV 66 3 5, zmKV 66 12 6], [], [zK 0, zV 1, zV 2, zV 3, zV 4, zK 0]), [zK 0])]),
  (81, [(((172, 81, [zlR 0 66, zlV 1 1, zlV 2 2, zlV 3 3, zlV 4 4, (5, .inr none)], [ziK 0]), [], (6, [zb 1 4 4, zb 2 0 0, zb 3 0 0, zb 4 0 255, zb 5 5 5]), [zmKV 66 3 5], [], [zK 0, zV 1, zV 2, zV 3, zV 4, zK 0]), [zK 1])])]
noncomputable def stp_137 : aS → Option (List aS) := stpO (spA acTab (mkT vV Lc_137) [(66, some 12), (73, none)]) (mkT vV Lc_137) [(66, some 12), (73, none)] (none, [], 6, []) 42
set_option maxRecDepth 1000000 in
theorem cq_137 : certB stp_137 ct_137 1 17 (eA (mkT vV Lc_137) 172 [.inr (some 66), .inl (4, 4), .inl (0, 0), .inl (0, 0), .inl (0, 255), .inr none] [] []) = true := by decide +kernel
/-! PointsHome$Relief.choose (IIIIJ)V -/
def ct_151 : List (Nat × List aC) := [(25, [(((172, 25, [zlR 0 66, zlV 1 1, zlV 2 2, zlV 3 3, zlV 4 4, (5, .inr none)], []), [], (7, [zb 1 2 2, zb 2 0 3, zb 3 6 8, zb 4 0 255, zb 5 0 2, zb 6 0 1]), [zmKV 66 3 5, zmKV 66 12 6], [], [zK 0, zV 1, zV 2, zV 3, zV 4, zK 0]), [zK 2, zK 0, zK 0])]),
  (81, [(((172, 81, [zlR 0 66, zlV 1 1, zlV 2 2, zlV 3 3, zlV 4 4, (5, .inr none)], [ziV 5]), [], (8, [zb 1 2 2, zb 2 0 0, zb 3 6 8, zb 4 0 255, zb 5 0 9, zb 6 4 5, zb 7 0 999]), [zmKV 66 3 6, ((68, zA 1 1), zV 7)], [], [zK 0, zV 1, zV 2, zV 3, zV 4, zK 0]), [zK 1, zK 0, zK 0]),
    (((172, 81, [zlR 0 66, zlV 1 1, zlV 2 2, zlV 3 3, zlV 4 4, (5, .inr none)], [ziK 0]), [], (6, [zb 1 2 2, zb 2 0 0, zb 3 6 8, zb 4 0 255, zb 5 3 3]), [zmKV 66 3 5], [], [zK 0, zV 1, zV 2, zV 3, zV 4, zK 0]), [zK 3, zK 0, zK 0])]),
  (114, [(((172, 114, [zlR 0 66, zlV 1 1, zlV 2 2, zlV 3 3, zlV 4 4, (5, .inr none), zlV 7 5, zlV 8 6], []), [], (9, [zb 1 2 2, zb 2 1 3, zb 3 6 8, zb 4 0 255, zb 5 0 255, zb 6 6 8, zb 7 3 5, zb 8 0 255]), [zmKV 66 3 7, zmVV 70 1 8], [], [zK 0, zV 1, zV 2, zV 3, zV 4, zK 0]), [zK 0, zN 2147483648 6, zK 1])]),
  (179, [(((172, 179, [zlR 0 66, zlV 1 1, zlV 2 2, zlV 3 3, zlV 4 4, (5, .inr none), zlV 7 5, zlV 8 6], []), [], (10, [zb 1 2 2, zb 2 1 3, zb 3 6 8, zb 4 0 255, zb 5 0 255, zb 6 6 7, zb 7 3 5, zb 8 7 8, zb 9 0 255]), [zmKV 66 3 7, zmKV 66 4 8, zmVV 70 1 9], [zD (-1) 6 8], [zK 0, zV 1, zV 2, zV 3, zV 4, zK 0]), [zK 0, zN 2147483648 6, zK 0])])]
noncomputable def stp_151 : aS → Option (List aS) := stpO (spA acTab (mkT vV Lc_151) [(66, some 12), (72, none), (73, none)]) (mkT vV Lc_151) [(66, some 12), (72, none), (73, none)] (none, [], 6, []) 62
set_option maxRecDepth 1000000 in
theorem cq_151 : certB stp_151 ct_151 3 43 (eA (mkT vV Lc_151) 172 [.inr (some 66), .inl (2, 2), .inl (0, 3), .inl (6, 8), .inl (0, 255), .inr none] [] []) = true := by decide +kernel
/-! PointsHome$Relief.choose (IIIIJ)V -/
def ct_169 : List (Nat × List aC) := [(25, [(((172, 25, [zlR 0 66, zlV 1 1, zlV 2 2, zlV 3 3, zlV 4 4, (5, .inr none)], []), [], (7, [zb 1 0 0, zb 2 0 2, zb 3 7 8, zb 4 0 255, zb 5 0 0, zb 6 0 1]), [zmKV 66 3 5, zmKV 66 12 6], [], [zK 0, zV 1, zV 2, zV 3, zV 4, zK 0]), [zK 2, zK 0, zK 0])]),
  (81, [(((172, 81, [zlR 0 66, zlV 1 1, zlV 2 2, zlV 3 3, zlV 4 4, (5, .inr none)], [ziV 5]), [], (8, [zb 1 0 0, zb 2 0 0, zb 3 7 8, zb 4 0 255, zb 5 0 9, zb 6 2 5, zb 7 0 999]), [zmKV 66 3 6, ((68, zA 1 1), zV 7)], [], [zK 0, zV 1, zV 2, zV 3, zV 4, zK 0]), [zK 1, zK 0, zK 0]),
    (((172, 81, [zlR 0 66, zlV 1 1, zlV 2 2, zlV 3 3, zlV 4 4, (5, .inr none)], [ziK 0]), [], (6, [zb 1 0 0, zb 2 0 0, zb 3 7 8, zb 4 0 255, zb 5 1 1]), [zmKV 66 3 5], [], [zK 0, zV 1, zV 2, zV 3, zV 4, zK 0]), [zK 3, zK 0, zK 0])]),
  (114, [(((172, 114, [zlR 0 66, zlV 1 1, zlV 2 2, zlV 3 3, zlV 4 4, (5, .inr none), zlV 7 5, zlV 8 6], []), [], (9, [zb 1 0 0, zb 2 1 2, zb 3 7 8, zb 4 0 255, zb 5 0 255, zb 6 7 8, zb 7 1 5, zb 8 0 255]), [zmKV 66 3 7, zmVV 70 1 8], [], [zK 0, zV 1, zV 2, zV 3, zV 4, zK 0]), [zK 0, zN 2147483648 6, zK 1])]),
  (179, [(((172, 179, [zlR 0 66, zlV 1 1, zlV 2 2, zlV 3 3, zlV 4 4, (5, .inr none), zlV 7 5, zlV 8 6], []), [], (10, [zb 1 0 0, zb 2 1 2, zb 3 7 8, zb 4 0 255, zb 5 0 255, zb 6 7 7, zb 7 1 5, zb 8 8 8, zb 9 0 255]), [zmKV 66 3 7, zmKV 66 4 8, zmVV 70 1 9], [], [zK 0, zV 1, zV 2, zV 3, zV 4, zK 0]), [zK 0, zN 2147483648 6, zK 0])])]
noncomputable def stp_169 : aS → Option (List aS) := stpO (spA acTab (mkT vV Lc_169) [(66, some 12), (72, none), (73, none)]) (mkT vV Lc_169) [(66, some 12), (72, none), (73, none)] (none, [], 6, []) 79
set_option maxRecDepth 1000000 in
theorem cq_169 : certB stp_169 ct_169 3 43 (eA (mkT vV Lc_169) 172 [.inr (some 66), .inl (0, 0), .inl (0, 2), .inl (7, 8), .inl (0, 255), .inr none] [] []) = true := by decide +kernel
/-! PointsHome.shut (III)I -/
def ct_199 : List (Nat × List aC) := []
noncomputable def stp_199 : aS → Option (List aS) := stpO noSp (mkT vV Lc_199) [(83, some 1), (84, none), (85, none), (86, none), (87, none)] (some (.inl ((-3), 8)), [], 4, []) 42
set_option maxRecDepth 1000000 in
theorem cq_199 : certB stp_199 ct_199 1 9 (eA (mkT vV Lc_199) 190 [.inr (some 0), .inl ((-2147483648), 2147483647), .inl ((-2147483648), 2147483647), .inl ((-2147483648), 2147483647)] [] []) = true := by decide +kernel
/-! PointsHome.element (II)J -/
def ct_218 : List (Nat × List aC) := [(6, [(((80, 6, [zlR 0 26, zlV 1 1, zlV 2 2], [ziK 0]), [(224, 27, [zlR 0 0, zlV 1 1, zlV 2 2], [])], (5, [zb 1 0 7, zb 2 0 89, zb 3 0 4, zb 4 1 90]), [zmVV 27 1 3, zmVV 29 1 4], [zD (-1) 2 4], [zK 0, zV 1, zV 2]), [zK 5])]),
  (9, [(((224, 9, [zlR 0 0, zlV 1 1, zlV 2 2], [ziV 3]), [], (4, [zbT 1, zbT 2, zb 3 (-13) (-1)]), [], [], [zK 0, zV 1, zV 2]), [zK 1]),
    (((224, 9, [zlR 0 0, zlV 1 1, zlV 2 2], [ziK 0]), [], (5, [zb 1 0 7, zb 2 0 89, zb 3 0 4, zb 4 1 90]), [zmVV 27 1 3, zmVV 29 1 4], [zD (-1) 2 4], [zK 0, zV 1, zV 2]), [zK 9])]),
  (14, [(((76, 14, [zlR 0 26, zlV 1 1], []), [(81, 5, [zlR 0 26, zlV 1 1, zlV 2 2], []), (224, 9, [zlR 0 0, zlV 1 1, zlV 2 2], [])], (3, [zbT 1, zbT 2]), [], [], [zK 0, zV 1, zV 2]), [zK 16]),
    (((15, 14, [zlV 0 1, zlK 1 0, zlK 2 4], []), [(82, 11, [zlR 0 26, zlV 1 2], []), (81, 28, [zlR 0 26, zlV 1 2, zlV 2 3], []), (224, 9, [zlR 0 0, zlV 1 2, zlV 2 3], [])], (4, [zb 1 5 5, zb 2 0 7, zbT 3]), [zmVV 27 2 1], [], [zK 0, zV 2, zV 3]), [zK 14])]),
  (15, [(((76, 15, [zlR 0 26, zlV 1 1], [ziK 1]), [(81, 5, [zlR 0 26, zlV 1 1, zlV 2 2], []), (224, 9, [zlR 0 0, zlV 1 1, zlV 2 2], [])], (3, [zb 1 0 7, zbT 2]), [], [], [zK 0, zV 1, zV 2]), [zK 15]),
    (((76, 15, [zlR 0 26, zlV 1 1], [ziK 0]), [(81, 5, [zlR 0 26, zlV 1 1, zlV 2 2], []), (224, 9, [zlR 0 0, zlV 1 1, zlV 2 2], [])], (3, [zbT 1, zbT 2]), [], [], [zK 0, zV 1, zV 2]), [zK 12]),
    (((15, 15, [zlV 0 1, zlK 1 0, zlK 2 4], [ziK 1]), [(82, 11, [zlR 0 26, zlV 1 2], []), (81, 28, [zlR 0 26, zlV 1 2, zlV 2 3], []), (224, 9, [zlR 0 0, zlV 1 2, zlV 2 3], [])], (4, [zb 1 0 4, zb 2 0 7, zbT 3]), [zmVV 27 2 1], [], [zK 0, zV 2, zV 3]), [zK 11]),
    (((15, 15, [zlV 0 1, zlK 1 0, zlK 2 4], [ziK 0]), [(82, 11, [zlR 0 26, zlV 1 2], []), (81, 28, [zlR 0 26, zlV 1 2, zlV 2 3], []), (224, 9, [zlR 0 0, zlV 1 2, zlV 2 3], [])], (4, [zb 1 5 5, zb 2 0 7, zbT 3]), [zmVV 27 2 1], [], [zK 0, zV 2, zV 3]), [zK 13]),
    (((76, 15, [zlR 0 26, zlV 1 1], [ziK 1]), [(81, 5, [zlR 0 26, zlV 1 1, zlV 2 2], []), (80, 6, [zlR 0 26, zlV 1 1, zlV 2 2], []), (224, 27, [zlR 0 0, zlV 1 1, zlV 2 2], [])], (5, [zb 1 0 7, zb 2 0 89, zb 3 0 4, zb 4 1 90]), [zmVV 27 1 3, zmVV 29 1 4], [zD (-1) 2 4], [zK 0, zV 1, zV 2]), [zK 8]),
    (((15, 15, [zlV 0 1, zlK 1 0, zlK 2 4], [ziK 1]), [(82, 11, [zlR 0 26, zlV 1 2], []), (81, 28, [zlR 0 26, zlV 1 2, zlV 2 3], []), (80, 6, [zlR 0 26, zlV 1 2, zlV 2 3], []), (224, 27, [zlR 0 0, zlV 1 2, zlV 2 3], [])], (5, [zb 1 0 4, zb 2 0 7, zb 3 0 89, zb 4 1 90]), [zmVV 27 2 1, zmVV 29 2 4], [zD (-1) 3 4], [zK 0, zV 2, zV 3]), [zK 7])]),
  (24, [(((80, 24, [zlR 0 26, zlV 1 1, zlV 2 2], [.inr none]), [(224, 27, [zlR 0 0, zlV 1 1, zlV 2 2], [])], (5, [zb 1 0 7, zb 2 0 89, zb 3 0 4, zb 4 1 90]), [zmVV 27 1 3, zmVV 29 1 4], [zD (-1) 2 4], [zK 0, zV 1, zV 2]), [zK 4])]),
  (27, [(((224, 27, [zlR 0 0, zlV 1 1, zlV 2 2], [.inr none]), [], (3, [zbT 1, zbT 2]), [], [], [zK 0, zV 1, zV 2]), [zK 0])]),
  (48, [(((81, 48, [zlR 0 26, zlV 1 1, zlV 2 2], []), [(224, 9, [zlR 0 0, zlV 1 1, zlV 2 2], [])], (4, [zb 1 0 7, zbT 2, zb 3 0 4]), [zmVV 27 1 3], [], [zK 0, zV 1, zV 2]), [zK 3])]),
  (54, [(((81, 54, [zlR 0 26, zlV 1 1, zlV 2 2], [ziK 0]), [(224, 9, [zlR 0 0, zlV 1 1, zlV 2 2], [])], (5, [zb 1 0 7, zb 2 0 89, zb 3 0 4, zb 4 1 90]), [zmVV 27 1 3, zmVV 29 1 4], [zD (-1) 2 4], [zK 0, zV 1, zV 2]), [zK 10]),
    (((81, 54, [zlR 0 26, zlV 1 1, zlV 2 2], [ziK (-13)]), [(224, 9, [zlR 0 0, zlV 1 1, zlV 2 2], [])], (4, [zb 1 0 7, zbT 2, zb 3 0 4]), [zmVV 27 1 3], [], [zK 0, zV 1, zV 2]), [zK 2]),
    (((81, 54, [zlR 0 26, zlV 1 1, zlV 2 2], [ziK 0]), [(80, 6, [zlR 0 26, zlV 1 1, zlV 2 2], []), (224, 27, [zlR 0 0, zlV 1 1, zlV 2 2], [])], (5, [zb 1 0 7, zb 2 0 89, zb 3 0 4, zb 4 1 90]), [zmVV 27 1 3, zmVV 29 1 4], [zD (-1) 2 4], [zK 0, zV 1, zV 2]), [zK 6])])]
noncomputable def stp_218 : aS → Option (List aS) := stpO noSp (mkT vV Lc_218) [] (some (.inr none), [], 3, []) 41
set_option maxRecDepth 1000000 in
theorem cq_218 : certB stp_218 ct_218 1 28 (eA (mkT vV Lc_218) 224 [.inr (some 0), .inl ((-2147483648), 2147483647), .inl ((-2147483648), 2147483647)] [] []) = true := by decide +kernel
/-! PointsHome.check ()I -/
def ct_225 : List (Nat × List aC) := [(39, [(((228, 39, [zlR 0 0], [ziK 3]), [], (1, []), [], [], [zK 0]), [zK 0]),
    (((228, 39, [zlR 0 0], [ziK 0]), [], (1, []), [], [], [zK 0]), [zK 1])])]
noncomputable def stp_225 : aS → Option (List aS) := stpO noSp (mkT vV Lc_225) [(24, none)] (some (.inl (0, 3)), [], 1, []) 44
set_option maxRecDepth 1000000 in
theorem cq_225 : certB stp_225 ct_225 1 16 (eA (mkT vV Lc_225) 228 [.inr (some 0)] [] []) = true := by decide +kernel
/-! PointsHomeModel.operand ()V -/
def ct_374 : List (Nat × List aC) := [(26, [(((330, 26, [zlR 0 94, zlV 1 1, zlV 2 2, zlV 3 3, (4, .inr none)], []), [], (6, [zb 1 1 1, zb 2 0 5, zb 3 4 8, zb 4 1 1, zb 5 0 1]), [zmKV 94 68 4, zmKV 94 77 5], [], [zK 0, zV 1, zV 2, zV 3, zK 0]), [zK 3, zK 0, zK 0])]),
  (48, [(((330, 48, [zlR 0 94, zlV 1 1, zlV 2 2, zlV 3 3, (4, .inr none), zlV 6 4], []), [], (7, [zb 1 1 1, zb 2 0 5, zb 3 4 8, zb 4 0 8, zb 5 1 1, zb 6 0 8]), [zmKV 94 68 5, zmKV 94 71 6, zmKV 94 75 6, zmKK 94 77 1], [], [zK 0, zV 1, zV 2, zV 3, zK 0]), [zK 0, zN 2147483648 4, zK 0])]),
  (75, [(((331, 75, [zlR 0 94, zlV 1 1, zlV 2 2, zlV 3 3], []), [(330, 140, [zlR 0 94, zlV 1 2, zlV 2 4, zlV 3 5, (4, .inr none), zlV 6 1], [])], (9, [zb 1 4 7, zb 2 1 1, zb 3 0 199, zb 4 1 5, zb 5 4 8, zb 6 2 5, zb 7 5 8, zb 8 (-1) 4]), [zmKV 94 68 6, zmKV 94 71 7, zmVV 144 1 3, zmVV 146 1 8], [zD (-1) 1 7], [zK 0, zV 2, zV 4, zV 5, zK 0]), [zK 2, zN 2147483648 1, zK 3])]),
  (76, [(((331, 76, [zlR 0 94, zlV 1 1, zlV 2 2, zlV 3 3], [ziK 1]), [(330, 140, [zlR 0 94, zlV 1 2, zlV 2 4, zlV 3 5, (4, .inr none), zlV 6 1], [])], (15, [zb 1 4 7, zb 2 1 1, zb 3 0 199, zb 4 1 5, zb 5 4 8, zb 6 2 5, zb 7 5 8, zb 8 0 9, zb 9 0 0, zb 10 0 19, zb 11 0 19, zb 12 0 939, zb 13 (-1) (-1), zb 14 (-2147483648) 9]), [zmKV 94 68 6, zmKV 94 71 7, zmVV 105 3 8, zmVV 107 3 9, zmVV 108 3 10, zmVV 142 2 11, zmVV 143 2 12, zmVV 144 1 3, zmVV 146 1 13, ((102, (0, [(10, 20), (11, 1)])), zV 14)], [zD (-1) 1 7], [zK 0, zV 2, zV 4, zV 5, zK 0]), [zK 2, zN 2147483648 1, zK 1]),
    (((331, 76, [zlR 0 94, zlV 1 1, zlV 2 2, zlV 3 3], [ziK 0]), [(330, 140, [zlR 0 94, zlV 1 2, zlV 2 4, zlV 3 5, (4, .inr none), zlV 6 1], [])], (9, [zb 1 4 7, zb 2 1 1, zb 3 0 199, zb 4 1 5, zb 5 4 8, zb 6 2 5, zb 7 5 8, zb 8 (-1) 4]), [zmKV 94 68 6, zmKV 94 71 7, zmVV 144 1 3, zmVV 146 1 8], [zD (-1) 1 7], [zK 0, zV 2, zV 4, zV 5, zK 0]), [zK 2, zN 2147483648 1, zK 2])]),
  (114, [(((330, 114, [zlR 0 94, zlV 1 1, zlV 2 2, zlV 3 3, (4, .inr none)], [ziV 4, .inl (zA 1 1), zrf 94]), [], (7, [zb 1 1 1, zb 2 0 0, zb 3 4 8, zb 4 0 9, zb 5 3 5, zb 6 0 939]), [zmKV 94 68 5, ((143, zA 1 1), zV 6)], [], [zK 0, zV 1, zV 2, zV 3, zK 0]), [zK 4, zK 0, zK 0]),
    (((330, 114, [zlR 0 94, zlV 1 1, zlV 2 2, zlV 3 3, (4, .inr none)], [ziK 0, .inl (zA 1 1), zrf 94]), [], (5, [zb 1 1 1, zb 2 0 0, zb 3 4 8, zb 4 2 2]), [zmKV 94 68 4], [], [zK 0, zV 1, zV 2, zV 3, zK 0]), [zK 1, zK 0, zK 0])]),
  (124, [(((330, 124, [zlR 0 94, zlV 1 1, zlV 2 2, zlV 3 3, (4, .inr none), zlV 6 4], []), [], (6, [zb 1 1 1, zb 2 1 5, zb 3 4 8, zb 4 4 8, zb 5 2 5]), [zmKV 94 68 5], [], [zK 0, zV 1, zV 2, zV 3, zK 0]), [zK 2, zN 2147483648 4, zK 4])]),
  (185, [(((330, 185, [zlR 0 94, zlV 1 1, zlV 2 2, zlV 3 3, (4, .inr none), zlV 6 4], []), [], (9, [zb 1 1 1, zb 2 1 5, zb 3 4 8, zb 4 4 7, zb 5 2 5, zb 6 5 8, zb 7 0 199, zb 8 (-1) 4]), [zmKV 94 68 5, zmKV 94 71 6, zmVV 144 4 7, zmVV 146 4 8], [zD (-1) 4 6], [zK 0, zV 1, zV 2, zV 3, zK 0]), [zK 2, zN 2147483648 4, zK 0])])]
noncomputable def stp_374 : aS → Option (List aS) := stpO noSp (mkT vV Lc_374) [(94, some 75), (94, some 77), (146, none), (147, none)] (none, [], 5, []) 73
set_option maxRecDepth 1000000 in
theorem cq_374 : certB stp_374 ct_374 3 64 (eA (mkT vV Lc_374) 330 [.inr (some 94), .inl (1, 1), .inl (0, 5), .inl (4, 8), .inr none] [((-1), [((1, 94, 68), 1)])] []) = true := by decide +kernel
/-! PointsHomeModel.shutOn (IIII)V -/
def ct_413 : List (Nat × List aC) := [(25, [(((340, 25, [zlR 0 94, zlV 1 1, zlV 2 2, zlV 3 3, zlV 4 4], []), [], (7, [zb 1 1 1, zb 2 0 255, zb 3 0 2147483, zb 4 0 2145335517, zb 5 1 1, zb 6 0 1]), [zmKV 94 92 5, zmKV 94 101 6], [], [zK 0, zV 1, zV 2, zV 3, zV 4]), [zK 2, zK 0, zK 0])]),
  (47, [(((340, 47, [zlR 0 94, zlV 1 1, zlV 2 2, zlV 3 3, zlV 4 4, zlV 5 6], []), [], (7, [zb 1 1 1, zb 2 0 255, zb 3 0 2147483, zb 4 0 2145335517, zb 5 1 1, zb 6 0 1]), [zmKV 94 92 5, zmKV 94 99 5, zmKV 94 100 4, zmKK 94 101 1], [], [zK 0, zV 1, zV 2, zV 3, zV 4]), [zK 1, zN 2147483648 6, zK 0])]),
  (85, [(((340, 85, [zlR 0 94, zlV 1 1, zlV 2 2, zlV 3 3, zlV 4 4, zlV 5 5], []), [], (7, [zb 1 1 1, zb 2 0 255, zb 3 0 2147483, zb 4 0 2145335517, zb 5 0 8, zb 6 2 8]), [zmKV 94 92 6], [], [zK 0, zV 1, zV 2, zV 3, zV 4]), [zK 0, zN 2147483648 5, zK 1])]),
  (184, [(((340, 184, [zlR 0 94, zlV 1 1, zlV 2 2, zlV 3 3, zlV 4 4, zlV 5 5, zlV 6 6], []), [], (9, [zb 1 1 1, zb 2 0 255, zb 3 0 2147483, zb 4 0 2145335517, zb 5 0 7, zb 6 0 255, zb 7 2 8, zb 8 0 255]), [zmKV 94 92 7, zmVV 159 5 8], [zD (-1) 5 7], [zK 0, zV 1, zV 2, zV 3, zV 4]), [zK 0, zN 2147483648 5, zK 0])])]
noncomputable def stp_413 : aS → Option (List aS) := stpO noSp (mkT vV Lc_413) [(94, some 99), (94, some 100), (94, some 101), (160, none), (161, none)] (none, [], 5, []) 48
set_option maxRecDepth 1000000 in
theorem cq_413 : certB stp_413 ct_413 3 65 (eA (mkT vV Lc_413) 340 [.inr (some 94), .inl (1, 1), .inl (0, 255), .inl (0, 2147483), .inl (0, 2145335517)] [((-1), [((1, 94, 92), 1)])] []) = true := by decide +kernel
/-! PointsHomeModel.voyages (I)I -/
def ct_23 : List (Nat × List aC) := [(9, [(((58, 9, [zlR 0 0, zlV 1 1, zlV 2 2], [ziV 3]), [], (4, [zbT 1, zbT 2, zb 3 (-2) (-1)]), [], [], [zK 0, zV 1, zV 2]), [zK 0]),
    (((58, 9, [zlR 0 0, zlV 1 1, zlV 2 2], [ziK 1]), [], (5, [zb 1 0 199, zb 2 1 60, zb 3 0 700, zb 4 1 200]), [zmKV 1 0 3, zmKV 9 1 4, zmVK 14 1 3, ((16, zV 1), (0, [(2, 1), (3, 1)]))], [zD (-1) 1 4], [zK 0, zV 1, zV 2]), [zK 5])]),
  (14, [(((15, 14, [zlV 0 1, zlK 1 1, zlK 2 60], []), [(59, 15, [zlR 0 9, zlV 1 2, zlV 2 1], []), (58, 9, [zlR 0 0, zlV 1 2, zlV 2 1], [])], (5, [zbT 1, zb 2 0 199, zb 3 1 200, zb 4 0 6]), [zmKV 9 1 3, zmVV 14 2 4], [zD (-1) 2 3], [zK 0, zV 2, zV 1]), [zK 4])]),
  (15, [(((15, 15, [zlV 0 1, zlK 1 1, zlK 2 60], [ziK 1]), [(59, 15, [zlR 0 9, zlV 1 2, zlV 2 1], []), (58, 9, [zlR 0 0, zlV 1 2, zlV 2 1], [])], (5, [zb 1 1 60, zb 2 0 199, zb 3 1 200, zb 4 0 6]), [zmKV 9 1 3, zmVV 14 2 4], [zD (-1) 2 3], [zK 0, zV 2, zV 1]), [zK 7]),
    (((15, 15, [zlV 0 1, zlK 1 1, zlK 2 60], [ziK 0]), [(59, 15, [zlR 0 9, zlV 1 2, zlV 2 1], []), (58, 9, [zlR 0 0, zlV 1 2, zlV 2 1], [])], (5, [zbT 1, zb 2 0 199, zb 3 1 200, zb 4 0 6]), [zmKV 9 1 3, zmVV 14 2 4], [zD (-1) 2 3], [zK 0, zV 2, zV 1]), [zK 2])]),
  (18, [(((59, 18, [zlR 0 9, zlV 1 1, zlV 2 2], []), [(58, 9, [zlR 0 0, zlV 1 1, zlV 2 2], [])], (3, [zbT 1, zbT 2]), [], [], [zK 0, zV 1, zV 2]), [zK 1])]),
  (25, [(((48, 25, [zlR 0 9, zlV 1 1], []), [(59, 5, [zlR 0 9, zlV 1 1, zlV 2 2], []), (58, 9, [zlR 0 0, zlV 1 1, zlV 2 2], [])], (3, [zbT 1, zbT 2]), [], [], [zK 0, zV 1, zV 2]), [zK 6])]),
  (26, [(((48, 26, [zlR 0 9, zlV 1 1], [ziK 1]), [(59, 5, [zlR 0 9, zlV 1 1, zlV 2 2], []), (58, 9, [zlR 0 0, zlV 1 1, zlV 2 2], [])], (5, [zb 1 0 199, zbT 2, zb 3 1 200, zb 4 0 6]), [zmKV 9 1 3, zmVV 14 1 4], [zD (-1) 1 3], [zK 0, zV 1, zV 2]), [zK 8]),
    (((48, 26, [zlR 0 9, zlV 1 1], [ziK 0]), [(59, 5, [zlR 0 9, zlV 1 1, zlV 2 2], []), (58, 9, [zlR 0 0, zlV 1 1, zlV 2 2], [])], (3, [zbT 1, zbT 2]), [], [], [zK 0, zV 1, zV 2]), [zK 3])])]
noncomputable def stp_23 : aS → Option (List aS) := stpO noSp (mkT vV Lc_23) [(14, none), (16, none)] (some (.inl ((-2), 1)), [], 3, []) 41
set_option maxRecDepth 1000000 in
theorem cq_23 : certB stp_23 ct_23 1 25 (eA (mkT vV Lc_23) 58 [.inr (some 0), .inl ((-2147483648), 2147483647), .inl ((-2147483648), 2147483647)] [] []) = true := by decide +kernel
/-! PointsHome.files (IIII)I -/
