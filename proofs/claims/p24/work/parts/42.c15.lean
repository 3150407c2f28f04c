/-! certificates (wip/gencert.py) -/
/-! PointsHome$Files.readRow (ILPointsHome$Shelves;III)I -/
def ct_406 : List (Nat × List aC) := [(25, [(((340, 25, [zlR 0 94, zlV 1 1, zlV 2 2, zlV 3 3, zlV 4 4], []), [], (7, [zb 1 8 8, zb 2 0 255, zb 3 0 17179864, zbT 4, zb 5 8 8, zb 6 0 1]), [zmKV 94 92 5, zmKV 94 101 6], [], [zK 0, zV 1, zV 2, zV 3, zV 4]), [zK 1, zK 0, zK 0])]),
  (47, [(((340, 47, [zlR 0 94, zlV 1 1, zlV 2 2, zlV 3 3, zlV 4 4, zlV 5 5], []), [], (7, [zb 1 8 8, zb 2 0 255, zb 3 0 17179864, zbT 4, zb 5 0 8, zb 6 8 8]), [zmKV 94 92 6, zmKV 94 99 6, zmKV 94 100 4, zmKK 94 101 1], [], [zK 0, zV 1, zV 2, zV 3, zV 4]), [zK 0, zN 2147483648 5, zK 0])])]
noncomputable def stp_406 : aS → Option (List aS) := stpO noSp (mkT vV Lc_406) [(94, some 99), (94, some 100), (94, some 101), (161, none)] (none, [], 5, []) 41
set_option maxRecDepth 1000000 in
theorem cq_406 : certB stp_406 ct_406 3 19 (eA (mkT vV Lc_406) 340 [.inr (some 94), .inl (8, 8), .inl (0, 255), .inl (0, 17179864), .inl ((-2147483648), 2147483647)] [((-8), [((1, 94, 92), 1)])] []) = true := by decide +kernel
/-! PointsHomeModel.shift (IIIII)I -/
def ct_427 : List (Nat × List aC) := [(14, [(((236, 14, [zlV 0 1, zlK 1 0, zlK 2 7], []), [(362, 7, [zlV 0 1], []), (367, 4, [zlR 0 94, zlV 1 1, zlV 2 2, zlV 3 3, zlV 4 4, zlV 5 5], [])], (6, [zbT 1, zbT 2, zbT 3, zbT 4, zbT 5]), [], [], [zK 0, zV 1, zV 2, zV 3, zV 4, zV 5]), [zK 11, zK 0, zK 0]),
    (((367, 14, [zlR 0 94, zlV 1 1, zlV 2 2, zlV 3 3, zlV 4 4, zlV 5 5], []), [], (6, [zbT 1, zbT 2, zbT 3, zbT 4, zbT 5]), [], [], [zK 0, zV 1, zV 2, zV 3, zV 4, zV 5]), [zK 0, zK 0, zK 0]),
    (((236, 14, [zlV 0 1, zlK 1 0, zlK 2 7], []), [(362, 7, [zlV 0 1], []), (367, 11, [zlR 0 94, zlV 1 2, zlV 2 3, zlV 3 1, zlV 4 4, zlV 5 5], [])], (6, [zbT 1, zb 2 0 7, zbT 3, zbT 4, zbT 5]), [], [], [zK 0, zV 2, zV 3, zV 1, zV 4, zV 5]), [zK 8, zK 0, zK 0])]),
  (15, [(((236, 15, [zlV 0 1, zlK 1 0, zlK 2 7], [ziK 1]), [(362, 7, [zlV 0 1], []), (367, 4, [zlR 0 94, zlV 1 1, zlV 2 2, zlV 3 3, zlV 4 4, zlV 5 5], [])], (6, [zb 1 0 7, zbT 2, zbT 3, zbT 4, zbT 5]), [], [], [zK 0, zV 1, zV 2, zV 3, zV 4, zV 5]), [zK 9, zK 0, zK 0]),
    (((236, 15, [zlV 0 1, zlK 1 0, zlK 2 7], [ziK 0]), [(362, 7, [zlV 0 1], []), (367, 4, [zlR 0 94, zlV 1 1, zlV 2 2, zlV 3 3, zlV 4 4, zlV 5 5], [])], (6, [zbT 1, zbT 2, zbT 3, zbT 4, zbT 5]), [], [], [zK 0, zV 1, zV 2, zV 3, zV 4, zV 5]), [zK 10, zK 0, zK 0]),
    (((236, 15, [zlV 0 1, zlK 1 0, zlK 2 7], [ziK 1]), [(362, 7, [zlV 0 1], []), (367, 11, [zlR 0 94, zlV 1 2, zlV 2 3, zlV 3 1, zlV 4 4, zlV 5 5], [])], (6, [zb 1 0 7, zb 2 0 7, zbT 3, zbT 4, zbT 5]), [], [], [zK 0, zV 2, zV 3, zV 1, zV 4, zV 5]), [zK 6, zK 0, zK 0]),
    (((236, 15, [zlV 0 1, zlK 1 0, zlK 2 7], [ziK 0]), [(362, 7, [zlV 0 1], []), (367, 11, [zlR 0 94, zlV 1 2, zlV 2 3, zlV 3 1, zlV 4 4, zlV 5 5], [])], (6, [zbT 1, zb 2 0 7, zbT 3, zbT 4, zbT 5]), [], [], [zK 0, zV 2, zV 3, zV 1, zV 4, zV 5]), [zK 7, zK 0, zK 0])]),
  (36, [(((367, 36, [zlR 0 94, zlV 1 1, zlV 2 2, zlV 3 3, zlV 4 4, zlV 5 5], []), [], (7, [zb 1 0 7, zbT 2, zb 3 0 7, zbT 4, zbT 5, zb 6 (-6) 199]), [zmVV 166 1 6], [], [zK 0, zV 1, zV 2, zV 3, zV 4, zV 5]), [zK 2, zK 0, zK 0])]),
  (63, [(((367, 63, [zlR 0 94, zlV 1 1, zlV 2 2, zlV 3 3, zlV 4 4, zlV 5 5], []), [], (8, [zb 1 0 7, zbT 2, zb 3 0 7, zbT 4, zbT 5, zb 6 (-6) 199, zb 7 (-6) 199]), [zmVV 166 1 6, zmVV 166 3 7], [], [zK 0, zV 1, zV 2, zV 3, zV 4, zV 5]), [zK 1, zK 0, zK 0])]),
  (107, [(((367, 107, [zlR 0 94, zlV 1 1, zlV 2 2, zlV 3 3, zlV 4 4, zlV 5 5], []), [], (8, [zb 1 0 7, zbT 2, zb 3 0 7, zbT 4, zbT 5, zb 6 (-6) (-1), zb 7 (-6) (-1)]), [zmVV 166 1 6, zmVV 166 3 7], [zE 0 6 7, zD 0 6 7], [zK 0, zV 1, zV 2, zV 3, zV 4, zV 5]), [zK 5, zK 0, zK 0])]),
  (113, [(((367, 113, [zlR 0 94, zlV 1 1, zlV 2 2, zlV 3 3, zlV 4 4, zlV 5 5, zlV 6 6], []), [], (11, [zb 1 0 7, zb 2 0 90, zb 3 0 7, zb 4 0 90, zb 5 0 90, zb 6 0 90, zb 7 (-6) (-1), zb 8 (-6) (-1), zb 9 0 90, zb 10 0 90]), [zmVV 166 1 7, zmVV 166 3 8, zmVV 167 1 9, zmVV 167 3 10], [(0, [(4, (-1)), (5, (-1)), (10, 1)]), (0, [(2, (-1)), (5, (-1)), (9, 1)]), zE 0 7 8, zD 0 7 8], [zK 0, zV 1, zV 2, zV 3, zV 4, zV 5]), [zK 4, zN 2147483648 6, zK 0])]),
  (150, [(((367, 150, [zlR 0 94, zlV 1 1, zlV 2 2, zlV 3 3, zlV 4 4, zlV 5 5, zlV 6 6], []), [], (11, [zb 1 0 7, zb 2 0 90, zb 3 0 7, zb 4 0 90, zb 5 0 90, zb 6 0 90, zb 7 (-6) (-1), zb 8 (-6) (-1), zb 9 0 90, zb 10 0 90]), [zmVV 166 1 7, zmVV 166 3 8, zmVV 167 1 9, zmVV 167 3 10], [(0, [(4, (-1)), (5, (-1)), (10, 1)]), (0, [(2, (-1)), (5, (-1)), (9, 1)]), zE 0 7 8, zD 0 7 8], [zK 0, zV 1, zV 2, zV 3, zV 4, zV 5]), [zK 3, zN 2147483648 6, zK 0])])]
noncomputable def stp_427 : aS → Option (List aS) := stpO noSp (mkT vV Lc_427) [] (some (.inl ((-13), 90)), [], 6, []) 41
set_option maxRecDepth 1000000 in
theorem cq_427 : certB stp_427 ct_427 3 55 (eA (mkT vV Lc_427) 367 [.inr (some 94), .inl ((-2147483648), 2147483647), .inl ((-2147483648), 2147483647), .inl ((-2147483648), 2147483647), .inl ((-2147483648), 2147483647), .inl ((-2147483648), 2147483647)] [] []) = true := by decide +kernel
/-! PointsHomeModel.days (I)I -/
def ct_449 : List (Nat × List aC) := [(14, [(((236, 14, [zlV 0 1, zlK 1 1, zlK 2 60], []), [(324, 7, [zlR 0 94, zlV 1 1], [])], (2, [zb 1 (-2147483648) 0]), [], [], [zK 0, zV 1]), [zK 2])]),
  (15, [(((236, 15, [zlV 0 1, zlK 1 1, zlK 2 60], [ziK 0]), [(324, 7, [zlR 0 94, zlV 1 1], [])], (2, [zb 1 (-2147483648) 0]), [], [], [zK 0, zV 1]), [zK 1])]),
  (22, [(((324, 22, [zlR 0 94, zlV 1 1], []), [], (2, [zb 1 (-2147483648) 0]), [], [], [zK 0, zV 1]), [zK 0])])]
noncomputable def stp_449 : aS → Option (List aS) := stpO noSp (mkT vV Lc_449) [] (some (.inl ((-1), (-1))), [], 2, []) 41
set_option maxRecDepth 1000000 in
theorem cq_449 : certB stp_449 ct_449 1 9 (eA (mkT vV Lc_449) 324 [.inr (some 94), .inl ((-2147483648), 0)] [] []) = true := by decide +kernel
