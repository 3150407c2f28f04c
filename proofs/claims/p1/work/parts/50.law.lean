/-! the law: its switch, its loop, its entry (wip/genfinal.py) -/
set_option maxRecDepth 100000 in
set_option maxHeartbeats 8000000 in
theorem sw_out (a0 a1 a2 a3 a4 a5 : Int32) : XF (some (6, fv a0 a1 a2 a3 a4 a5)) 60 0 0 Qone (371, 2218, [(3, .int 0), (2, .ref 94), (1, .ref 0), (0, .retAddr 0)], []) [] (sh_26, mI_26, mz64, mR_26) := by
  refine crun_ok (by decide) 9 (C := ((371, 2218, [(3, .int 0), (2, .ref 94), (1, .ref 0), (0, .retAddr 0)], []), [], (sh_26, mI_26, mz64, mR_26))) (C' := ((371, 2225, [(3, .int 6), (2, .ref 94), (1, .ref 0), (0, .retAddr 0)], [.int 1]), [], (sh_26, mI_26, mz64, mR_26))) (k := 0) (n := 0) rfl (Nat.zero_le _) (Nat.zero_le _) ?_
  exact XF.fin (M := mr_371) (some (.int 1)) rfl rfl rfl (fun _ => rfl)
set_option maxRecDepth 100000 in
set_option maxHeartbeats 8000000 in
theorem sw_0 (a0 a1 a2 a3 a4 a5 : Int32) : XF (some (6, fv a0 a1 a2 a3 a4 a5)) 60 0 0 Qone (371, 33, [(3, .int 0), (2, .ref 94), (1, .ref 0), (0, .retAddr 0)], [.int (nI 0)]) [] (sh_26, mI_26, mz64, mR_26) := by
  refine crun_ok (by decide) 1 (C := ((371, 33, [(3, .int 0), (2, .ref 94), (1, .ref 0), (0, .retAddr 0)], [.int (nI 0)]), [], (sh_26, mI_26, mz64, mR_26))) (C' := ((371, 276, [(3, .int 0), (2, .ref 94), (1, .ref 0), (0, .retAddr 0)], []), [], (sh_26, mI_26, mz64, mR_26))) (k := 0) (n := 0) rfl (Nat.zero_le _) (Nat.zero_le _) ?_
  exact case_0 a0 a1 a2 a3 a4 a5
set_option maxRecDepth 100000 in
set_option maxHeartbeats 8000000 in
theorem sw_1 (a0 a1 a2 a3 a4 a5 : Int32) : XF (some (6, fv a0 a1 a2 a3 a4 a5)) 60 0 0 Qone (371, 33, [(3, .int 0), (2, .ref 94), (1, .ref 0), (0, .retAddr 0)], [.int (nI 1)]) [] (sh_26, mI_26, mz64, mR_26) := by
  refine crun_ok (by decide) 1 (C := ((371, 33, [(3, .int 0), (2, .ref 94), (1, .ref 0), (0, .retAddr 0)], [.int (nI 1)]), [], (sh_26, mI_26, mz64, mR_26))) (C' := ((371, 309, [(3, .int 0), (2, .ref 94), (1, .ref 0), (0, .retAddr 0)], []), [], (sh_26, mI_26, mz64, mR_26))) (k := 0) (n := 0) rfl (Nat.zero_le _) (Nat.zero_le _) ?_
  exact case_1 a0 a1 a2 a3 a4 a5
set_option maxRecDepth 100000 in
set_option maxHeartbeats 8000000 in
theorem sw_2 (a0 a1 a2 a3 a4 a5 : Int32) : XF (some (6, fv a0 a1 a2 a3 a4 a5)) 60 0 0 Qone (371, 33, [(3, .int 0), (2, .ref 94), (1, .ref 0), (0, .retAddr 0)], [.int (nI 2)]) [] (sh_26, mI_26, mz64, mR_26) := by
  refine crun_ok (by decide) 1 (C := ((371, 33, [(3, .int 0), (2, .ref 94), (1, .ref 0), (0, .retAddr 0)], [.int (nI 2)]), [], (sh_26, mI_26, mz64, mR_26))) (C' := ((371, 362, [(3, .int 0), (2, .ref 94), (1, .ref 0), (0, .retAddr 0)], []), [], (sh_26, mI_26, mz64, mR_26))) (k := 0) (n := 0) rfl (Nat.zero_le _) (Nat.zero_le _) ?_
  exact case_2 a0 a1 a2 a3 a4 a5
set_option maxRecDepth 100000 in
set_option maxHeartbeats 8000000 in
theorem sw_3 (a0 a1 a2 a3 a4 a5 : Int32) : XF (some (6, fv a0 a1 a2 a3 a4 a5)) 60 0 0 Qone (371, 33, [(3, .int 0), (2, .ref 94), (1, .ref 0), (0, .retAddr 0)], [.int (nI 3)]) [] (sh_26, mI_26, mz64, mR_26) := by
  refine crun_ok (by decide) 1 (C := ((371, 33, [(3, .int 0), (2, .ref 94), (1, .ref 0), (0, .retAddr 0)], [.int (nI 3)]), [], (sh_26, mI_26, mz64, mR_26))) (C' := ((371, 395, [(3, .int 0), (2, .ref 94), (1, .ref 0), (0, .retAddr 0)], []), [], (sh_26, mI_26, mz64, mR_26))) (k := 0) (n := 0) rfl (Nat.zero_le _) (Nat.zero_le _) ?_
  exact case_3 a0 a1 a2 a3 a4 a5
set_option maxRecDepth 100000 in
set_option maxHeartbeats 8000000 in
theorem sw_4 (a0 a1 a2 a3 a4 a5 : Int32) : XF (some (6, fv a0 a1 a2 a3 a4 a5)) 60 0 0 Qone (371, 33, [(3, .int 0), (2, .ref 94), (1, .ref 0), (0, .retAddr 0)], [.int (nI 4)]) [] (sh_26, mI_26, mz64, mR_26) := by
  refine crun_ok (by decide) 1 (C := ((371, 33, [(3, .int 0), (2, .ref 94), (1, .ref 0), (0, .retAddr 0)], [.int (nI 4)]), [], (sh_26, mI_26, mz64, mR_26))) (C' := ((371, 418, [(3, .int 0), (2, .ref 94), (1, .ref 0), (0, .retAddr 0)], []), [], (sh_26, mI_26, mz64, mR_26))) (k := 0) (n := 0) rfl (Nat.zero_le _) (Nat.zero_le _) ?_
  exact case_4 a0 a1 a2 a3 a4 a5
set_option maxRecDepth 100000 in
set_option maxHeartbeats 8000000 in
theorem sw_5 (a0 a1 a2 a3 a4 a5 : Int32) : XF (some (6, fv a0 a1 a2 a3 a4 a5)) 60 0 0 Qone (371, 33, [(3, .int 0), (2, .ref 94), (1, .ref 0), (0, .retAddr 0)], [.int (nI 5)]) [] (sh_26, mI_26, mz64, mR_26) := by
  refine crun_ok (by decide) 1 (C := ((371, 33, [(3, .int 0), (2, .ref 94), (1, .ref 0), (0, .retAddr 0)], [.int (nI 5)]), [], (sh_26, mI_26, mz64, mR_26))) (C' := ((371, 441, [(3, .int 0), (2, .ref 94), (1, .ref 0), (0, .retAddr 0)], []), [], (sh_26, mI_26, mz64, mR_26))) (k := 0) (n := 0) rfl (Nat.zero_le _) (Nat.zero_le _) ?_
  exact case_5 a0 a1 a2 a3 a4 a5
set_option maxRecDepth 100000 in
set_option maxHeartbeats 8000000 in
theorem sw_6 (a0 a1 a2 a3 a4 a5 : Int32) : XF (some (6, fv a0 a1 a2 a3 a4 a5)) 60 0 0 Qone (371, 33, [(3, .int 0), (2, .ref 94), (1, .ref 0), (0, .retAddr 0)], [.int (nI 6)]) [] (sh_26, mI_26, mz64, mR_26) := by
  refine crun_ok (by decide) 1 (C := ((371, 33, [(3, .int 0), (2, .ref 94), (1, .ref 0), (0, .retAddr 0)], [.int (nI 6)]), [], (sh_26, mI_26, mz64, mR_26))) (C' := ((371, 494, [(3, .int 0), (2, .ref 94), (1, .ref 0), (0, .retAddr 0)], []), [], (sh_26, mI_26, mz64, mR_26))) (k := 0) (n := 0) rfl (Nat.zero_le _) (Nat.zero_le _) ?_
  exact case_6 a0 a1 a2 a3 a4 a5
set_option maxRecDepth 100000 in
set_option maxHeartbeats 8000000 in
theorem sw_7 (a0 a1 a2 a3 a4 a5 : Int32) : XF (some (6, fv a0 a1 a2 a3 a4 a5)) 60 0 0 Qone (371, 33, [(3, .int 0), (2, .ref 94), (1, .ref 0), (0, .retAddr 0)], [.int (nI 7)]) [] (sh_26, mI_26, mz64, mR_26) := by
  refine crun_ok (by decide) 1 (C := ((371, 33, [(3, .int 0), (2, .ref 94), (1, .ref 0), (0, .retAddr 0)], [.int (nI 7)]), [], (sh_26, mI_26, mz64, mR_26))) (C' := ((371, 517, [(3, .int 0), (2, .ref 94), (1, .ref 0), (0, .retAddr 0)], []), [], (sh_26, mI_26, mz64, mR_26))) (k := 0) (n := 0) rfl (Nat.zero_le _) (Nat.zero_le _) ?_
  exact case_7 a0 a1 a2 a3 a4 a5
set_option maxRecDepth 100000 in
set_option maxHeartbeats 8000000 in
theorem sw_8 (a0 a1 a2 a3 a4 a5 : Int32) : XF (some (6, fv a0 a1 a2 a3 a4 a5)) 60 0 0 Qone (371, 33, [(3, .int 0), (2, .ref 94), (1, .ref 0), (0, .retAddr 0)], [.int (nI 8)]) [] (sh_26, mI_26, mz64, mR_26) := by
  refine crun_ok (by decide) 1 (C := ((371, 33, [(3, .int 0), (2, .ref 94), (1, .ref 0), (0, .retAddr 0)], [.int (nI 8)]), [], (sh_26, mI_26, mz64, mR_26))) (C' := ((371, 550, [(3, .int 0), (2, .ref 94), (1, .ref 0), (0, .retAddr 0)], []), [], (sh_26, mI_26, mz64, mR_26))) (k := 0) (n := 0) rfl (Nat.zero_le _) (Nat.zero_le _) ?_
  exact case_8 a0 a1 a2 a3 a4 a5
set_option maxRecDepth 100000 in
set_option maxHeartbeats 8000000 in
theorem sw_9 (a0 a1 a2 a3 a4 a5 : Int32) : XF (some (6, fv a0 a1 a2 a3 a4 a5)) 60 0 0 Qone (371, 33, [(3, .int 0), (2, .ref 94), (1, .ref 0), (0, .retAddr 0)], [.int (nI 9)]) [] (sh_26, mI_26, mz64, mR_26) := by
  refine crun_ok (by decide) 1 (C := ((371, 33, [(3, .int 0), (2, .ref 94), (1, .ref 0), (0, .retAddr 0)], [.int (nI 9)]), [], (sh_26, mI_26, mz64, mR_26))) (C' := ((371, 593, [(3, .int 0), (2, .ref 94), (1, .ref 0), (0, .retAddr 0)], []), [], (sh_26, mI_26, mz64, mR_26))) (k := 0) (n := 0) rfl (Nat.zero_le _) (Nat.zero_le _) ?_
  exact case_9 a0 a1 a2 a3 a4 a5
set_option maxRecDepth 100000 in
set_option maxHeartbeats 8000000 in
theorem sw_10 (a0 a1 a2 a3 a4 a5 : Int32) : XF (some (6, fv a0 a1 a2 a3 a4 a5)) 60 0 0 Qone (371, 33, [(3, .int 0), (2, .ref 94), (1, .ref 0), (0, .retAddr 0)], [.int (nI 10)]) [] (sh_26, mI_26, mz64, mR_26) := by
  refine crun_ok (by decide) 1 (C := ((371, 33, [(3, .int 0), (2, .ref 94), (1, .ref 0), (0, .retAddr 0)], [.int (nI 10)]), [], (sh_26, mI_26, mz64, mR_26))) (C' := ((371, 626, [(3, .int 0), (2, .ref 94), (1, .ref 0), (0, .retAddr 0)], []), [], (sh_26, mI_26, mz64, mR_26))) (k := 0) (n := 0) rfl (Nat.zero_le _) (Nat.zero_le _) ?_
  exact case_10 a0 a1 a2 a3 a4 a5
set_option maxRecDepth 100000 in
set_option maxHeartbeats 8000000 in
theorem sw_11 (a0 a1 a2 a3 a4 a5 : Int32) : XF (some (6, fv a0 a1 a2 a3 a4 a5)) 60 0 0 Qone (371, 33, [(3, .int 0), (2, .ref 94), (1, .ref 0), (0, .retAddr 0)], [.int (nI 11)]) [] (sh_26, mI_26, mz64, mR_26) := by
  refine crun_ok (by decide) 1 (C := ((371, 33, [(3, .int 0), (2, .ref 94), (1, .ref 0), (0, .retAddr 0)], [.int (nI 11)]), [], (sh_26, mI_26, mz64, mR_26))) (C' := ((371, 659, [(3, .int 0), (2, .ref 94), (1, .ref 0), (0, .retAddr 0)], []), [], (sh_26, mI_26, mz64, mR_26))) (k := 0) (n := 0) rfl (Nat.zero_le _) (Nat.zero_le _) ?_
  exact case_11 a0 a1 a2 a3 a4 a5
set_option maxRecDepth 100000 in
set_option maxHeartbeats 8000000 in
theorem sw_12 (a0 a1 a2 a3 a4 a5 : Int32) : XF (some (6, fv a0 a1 a2 a3 a4 a5)) 60 0 0 Qone (371, 33, [(3, .int 0), (2, .ref 94), (1, .ref 0), (0, .retAddr 0)], [.int (nI 12)]) [] (sh_26, mI_26, mz64, mR_26) := by
  refine crun_ok (by decide) 1 (C := ((371, 33, [(3, .int 0), (2, .ref 94), (1, .ref 0), (0, .retAddr 0)], [.int (nI 12)]), [], (sh_26, mI_26, mz64, mR_26))) (C' := ((371, 692, [(3, .int 0), (2, .ref 94), (1, .ref 0), (0, .retAddr 0)], []), [], (sh_26, mI_26, mz64, mR_26))) (k := 0) (n := 0) rfl (Nat.zero_le _) (Nat.zero_le _) ?_
  exact case_12 a0 a1 a2 a3 a4 a5
set_option maxRecDepth 100000 in
set_option maxHeartbeats 8000000 in
theorem sw_13 (a0 a1 a2 a3 a4 a5 : Int32) : XF (some (6, fv a0 a1 a2 a3 a4 a5)) 60 0 0 Qone (371, 33, [(3, .int 0), (2, .ref 94), (1, .ref 0), (0, .retAddr 0)], [.int (nI 13)]) [] (sh_26, mI_26, mz64, mR_26) := by
  refine crun_ok (by decide) 1 (C := ((371, 33, [(3, .int 0), (2, .ref 94), (1, .ref 0), (0, .retAddr 0)], [.int (nI 13)]), [], (sh_26, mI_26, mz64, mR_26))) (C' := ((371, 725, [(3, .int 0), (2, .ref 94), (1, .ref 0), (0, .retAddr 0)], []), [], (sh_26, mI_26, mz64, mR_26))) (k := 0) (n := 0) rfl (Nat.zero_le _) (Nat.zero_le _) ?_
  exact case_13 a0 a1 a2 a3 a4 a5
set_option maxRecDepth 100000 in
set_option maxHeartbeats 8000000 in
theorem sw_14 (a0 a1 a2 a3 a4 a5 : Int32) : XF (some (6, fv a0 a1 a2 a3 a4 a5)) 60 0 0 Qone (371, 33, [(3, .int 0), (2, .ref 94), (1, .ref 0), (0, .retAddr 0)], [.int (nI 14)]) [] (sh_26, mI_26, mz64, mR_26) := by
  refine crun_ok (by decide) 1 (C := ((371, 33, [(3, .int 0), (2, .ref 94), (1, .ref 0), (0, .retAddr 0)], [.int (nI 14)]), [], (sh_26, mI_26, mz64, mR_26))) (C' := ((371, 778, [(3, .int 0), (2, .ref 94), (1, .ref 0), (0, .retAddr 0)], []), [], (sh_26, mI_26, mz64, mR_26))) (k := 0) (n := 0) rfl (Nat.zero_le _) (Nat.zero_le _) ?_
  exact case_14 a0 a1 a2 a3 a4 a5
set_option maxRecDepth 100000 in
set_option maxHeartbeats 8000000 in
theorem sw_15 (a0 a1 a2 a3 a4 a5 : Int32) : XF (some (6, fv a0 a1 a2 a3 a4 a5)) 60 0 0 Qone (371, 33, [(3, .int 0), (2, .ref 94), (1, .ref 0), (0, .retAddr 0)], [.int (nI 15)]) [] (sh_26, mI_26, mz64, mR_26) := by
  refine crun_ok (by decide) 1 (C := ((371, 33, [(3, .int 0), (2, .ref 94), (1, .ref 0), (0, .retAddr 0)], [.int (nI 15)]), [], (sh_26, mI_26, mz64, mR_26))) (C' := ((371, 801, [(3, .int 0), (2, .ref 94), (1, .ref 0), (0, .retAddr 0)], []), [], (sh_26, mI_26, mz64, mR_26))) (k := 0) (n := 0) rfl (Nat.zero_le _) (Nat.zero_le _) ?_
  exact case_15 a0 a1 a2 a3 a4 a5
set_option maxRecDepth 100000 in
set_option maxHeartbeats 8000000 in
theorem sw_16 (a0 a1 a2 a3 a4 a5 : Int32) : XF (some (6, fv a0 a1 a2 a3 a4 a5)) 60 0 0 Qone (371, 33, [(3, .int 0), (2, .ref 94), (1, .ref 0), (0, .retAddr 0)], [.int (nI 16)]) [] (sh_26, mI_26, mz64, mR_26) := by
  refine crun_ok (by decide) 1 (C := ((371, 33, [(3, .int 0), (2, .ref 94), (1, .ref 0), (0, .retAddr 0)], [.int (nI 16)]), [], (sh_26, mI_26, mz64, mR_26))) (C' := ((371, 844, [(3, .int 0), (2, .ref 94), (1, .ref 0), (0, .retAddr 0)], []), [], (sh_26, mI_26, mz64, mR_26))) (k := 0) (n := 0) rfl (Nat.zero_le _) (Nat.zero_le _) ?_
  exact case_16 a0 a1 a2 a3 a4 a5
set_option maxRecDepth 100000 in
set_option maxHeartbeats 8000000 in
theorem sw_17 (a0 a1 a2 a3 a4 a5 : Int32) : XF (some (6, fv a0 a1 a2 a3 a4 a5)) 60 0 0 Qone (371, 33, [(3, .int 0), (2, .ref 94), (1, .ref 0), (0, .retAddr 0)], [.int (nI 17)]) [] (sh_26, mI_26, mz64, mR_26) := by
  refine crun_ok (by decide) 1 (C := ((371, 33, [(3, .int 0), (2, .ref 94), (1, .ref 0), (0, .retAddr 0)], [.int (nI 17)]), [], (sh_26, mI_26, mz64, mR_26))) (C' := ((371, 867, [(3, .int 0), (2, .ref 94), (1, .ref 0), (0, .retAddr 0)], []), [], (sh_26, mI_26, mz64, mR_26))) (k := 0) (n := 0) rfl (Nat.zero_le _) (Nat.zero_le _) ?_
  exact case_17 a0 a1 a2 a3 a4 a5
set_option maxRecDepth 100000 in
set_option maxHeartbeats 8000000 in
theorem sw_18 (a0 a1 a2 a3 a4 a5 : Int32) : XF (some (6, fv a0 a1 a2 a3 a4 a5)) 60 0 0 Qone (371, 33, [(3, .int 0), (2, .ref 94), (1, .ref 0), (0, .retAddr 0)], [.int (nI 18)]) [] (sh_26, mI_26, mz64, mR_26) := by
  refine crun_ok (by decide) 1 (C := ((371, 33, [(3, .int 0), (2, .ref 94), (1, .ref 0), (0, .retAddr 0)], [.int (nI 18)]), [], (sh_26, mI_26, mz64, mR_26))) (C' := ((371, 920, [(3, .int 0), (2, .ref 94), (1, .ref 0), (0, .retAddr 0)], []), [], (sh_26, mI_26, mz64, mR_26))) (k := 0) (n := 0) rfl (Nat.zero_le _) (Nat.zero_le _) ?_
  exact case_18 a0 a1 a2 a3 a4 a5
set_option maxRecDepth 100000 in
set_option maxHeartbeats 8000000 in
theorem sw_19 (a0 a1 a2 a3 a4 a5 : Int32) : XF (some (6, fv a0 a1 a2 a3 a4 a5)) 60 0 0 Qone (371, 33, [(3, .int 0), (2, .ref 94), (1, .ref 0), (0, .retAddr 0)], [.int (nI 19)]) [] (sh_26, mI_26, mz64, mR_26) := by
  refine crun_ok (by decide) 1 (C := ((371, 33, [(3, .int 0), (2, .ref 94), (1, .ref 0), (0, .retAddr 0)], [.int (nI 19)]), [], (sh_26, mI_26, mz64, mR_26))) (C' := ((371, 943, [(3, .int 0), (2, .ref 94), (1, .ref 0), (0, .retAddr 0)], []), [], (sh_26, mI_26, mz64, mR_26))) (k := 0) (n := 0) rfl (Nat.zero_le _) (Nat.zero_le _) ?_
  exact case_19 a0 a1 a2 a3 a4 a5
set_option maxRecDepth 100000 in
set_option maxHeartbeats 8000000 in
theorem sw_20 (a0 a1 a2 a3 a4 a5 : Int32) : XF (some (6, fv a0 a1 a2 a3 a4 a5)) 60 0 0 Qone (371, 33, [(3, .int 0), (2, .ref 94), (1, .ref 0), (0, .retAddr 0)], [.int (nI 20)]) [] (sh_26, mI_26, mz64, mR_26) := by
  refine crun_ok (by decide) 1 (C := ((371, 33, [(3, .int 0), (2, .ref 94), (1, .ref 0), (0, .retAddr 0)], [.int (nI 20)]), [], (sh_26, mI_26, mz64, mR_26))) (C' := ((371, 1006, [(3, .int 0), (2, .ref 94), (1, .ref 0), (0, .retAddr 0)], []), [], (sh_26, mI_26, mz64, mR_26))) (k := 0) (n := 0) rfl (Nat.zero_le _) (Nat.zero_le _) ?_
  exact case_20 a0 a1 a2 a3 a4 a5
set_option maxRecDepth 100000 in
set_option maxHeartbeats 8000000 in
theorem sw_21 (a0 a1 a2 a3 a4 a5 : Int32) : XF (some (6, fv a0 a1 a2 a3 a4 a5)) 60 0 0 Qone (371, 33, [(3, .int 0), (2, .ref 94), (1, .ref 0), (0, .retAddr 0)], [.int (nI 21)]) [] (sh_26, mI_26, mz64, mR_26) := by
  refine crun_ok (by decide) 1 (C := ((371, 33, [(3, .int 0), (2, .ref 94), (1, .ref 0), (0, .retAddr 0)], [.int (nI 21)]), [], (sh_26, mI_26, mz64, mR_26))) (C' := ((371, 1029, [(3, .int 0), (2, .ref 94), (1, .ref 0), (0, .retAddr 0)], []), [], (sh_26, mI_26, mz64, mR_26))) (k := 0) (n := 0) rfl (Nat.zero_le _) (Nat.zero_le _) ?_
  exact case_21 a0 a1 a2 a3 a4 a5
set_option maxRecDepth 100000 in
set_option maxHeartbeats 8000000 in
theorem sw_22 (a0 a1 a2 a3 a4 a5 : Int32) : XF (some (6, fv a0 a1 a2 a3 a4 a5)) 60 0 0 Qone (371, 33, [(3, .int 0), (2, .ref 94), (1, .ref 0), (0, .retAddr 0)], [.int (nI 22)]) [] (sh_26, mI_26, mz64, mR_26) := by
  refine crun_ok (by decide) 1 (C := ((371, 33, [(3, .int 0), (2, .ref 94), (1, .ref 0), (0, .retAddr 0)], [.int (nI 22)]), [], (sh_26, mI_26, mz64, mR_26))) (C' := ((371, 1052, [(3, .int 0), (2, .ref 94), (1, .ref 0), (0, .retAddr 0)], []), [], (sh_26, mI_26, mz64, mR_26))) (k := 0) (n := 0) rfl (Nat.zero_le _) (Nat.zero_le _) ?_
  exact case_22 a0 a1 a2 a3 a4 a5
set_option maxRecDepth 100000 in
set_option maxHeartbeats 8000000 in
theorem sw_23 (a0 a1 a2 a3 a4 a5 : Int32) : XF (some (6, fv a0 a1 a2 a3 a4 a5)) 60 0 0 Qone (371, 33, [(3, .int 0), (2, .ref 94), (1, .ref 0), (0, .retAddr 0)], [.int (nI 23)]) [] (sh_26, mI_26, mz64, mR_26) := by
  refine crun_ok (by decide) 1 (C := ((371, 33, [(3, .int 0), (2, .ref 94), (1, .ref 0), (0, .retAddr 0)], [.int (nI 23)]), [], (sh_26, mI_26, mz64, mR_26))) (C' := ((371, 1095, [(3, .int 0), (2, .ref 94), (1, .ref 0), (0, .retAddr 0)], []), [], (sh_26, mI_26, mz64, mR_26))) (k := 0) (n := 0) rfl (Nat.zero_le _) (Nat.zero_le _) ?_
  exact case_23 a0 a1 a2 a3 a4 a5
set_option maxRecDepth 100000 in
set_option maxHeartbeats 8000000 in
theorem sw_24 (a0 a1 a2 a3 a4 a5 : Int32) : XF (some (6, fv a0 a1 a2 a3 a4 a5)) 60 0 0 Qone (371, 33, [(3, .int 0), (2, .ref 94), (1, .ref 0), (0, .retAddr 0)], [.int (nI 24)]) [] (sh_26, mI_26, mz64, mR_26) := by
  refine crun_ok (by decide) 1 (C := ((371, 33, [(3, .int 0), (2, .ref 94), (1, .ref 0), (0, .retAddr 0)], [.int (nI 24)]), [], (sh_26, mI_26, mz64, mR_26))) (C' := ((371, 1148, [(3, .int 0), (2, .ref 94), (1, .ref 0), (0, .retAddr 0)], []), [], (sh_26, mI_26, mz64, mR_26))) (k := 0) (n := 0) rfl (Nat.zero_le _) (Nat.zero_le _) ?_
  exact case_24 a0 a1 a2 a3 a4 a5
set_option maxRecDepth 100000 in
set_option maxHeartbeats 8000000 in
theorem sw_25 (a0 a1 a2 a3 a4 a5 : Int32) : XF (some (6, fv a0 a1 a2 a3 a4 a5)) 60 0 0 Qone (371, 33, [(3, .int 0), (2, .ref 94), (1, .ref 0), (0, .retAddr 0)], [.int (nI 25)]) [] (sh_26, mI_26, mz64, mR_26) := by
  refine crun_ok (by decide) 1 (C := ((371, 33, [(3, .int 0), (2, .ref 94), (1, .ref 0), (0, .retAddr 0)], [.int (nI 25)]), [], (sh_26, mI_26, mz64, mR_26))) (C' := ((371, 1181, [(3, .int 0), (2, .ref 94), (1, .ref 0), (0, .retAddr 0)], []), [], (sh_26, mI_26, mz64, mR_26))) (k := 0) (n := 0) rfl (Nat.zero_le _) (Nat.zero_le _) ?_
  exact case_25 a0 a1 a2 a3 a4 a5
set_option maxRecDepth 100000 in
set_option maxHeartbeats 8000000 in
theorem sw_26 (a0 a1 a2 a3 a4 a5 : Int32) : XF (some (6, fv a0 a1 a2 a3 a4 a5)) 60 0 0 Qone (371, 33, [(3, .int 0), (2, .ref 94), (1, .ref 0), (0, .retAddr 0)], [.int (nI 26)]) [] (sh_26, mI_26, mz64, mR_26) := by
  refine crun_ok (by decide) 1 (C := ((371, 33, [(3, .int 0), (2, .ref 94), (1, .ref 0), (0, .retAddr 0)], [.int (nI 26)]), [], (sh_26, mI_26, mz64, mR_26))) (C' := ((371, 1214, [(3, .int 0), (2, .ref 94), (1, .ref 0), (0, .retAddr 0)], []), [], (sh_26, mI_26, mz64, mR_26))) (k := 0) (n := 0) rfl (Nat.zero_le _) (Nat.zero_le _) ?_
  exact case_26 a0 a1 a2 a3 a4 a5
set_option maxRecDepth 100000 in
set_option maxHeartbeats 8000000 in
theorem sw_27 (a0 a1 a2 a3 a4 a5 : Int32) : XF (some (6, fv a0 a1 a2 a3 a4 a5)) 60 0 0 Qone (371, 33, [(3, .int 0), (2, .ref 94), (1, .ref 0), (0, .retAddr 0)], [.int (nI 27)]) [] (sh_26, mI_26, mz64, mR_26) := by
  refine crun_ok (by decide) 1 (C := ((371, 33, [(3, .int 0), (2, .ref 94), (1, .ref 0), (0, .retAddr 0)], [.int (nI 27)]), [], (sh_26, mI_26, mz64, mR_26))) (C' := ((371, 1257, [(3, .int 0), (2, .ref 94), (1, .ref 0), (0, .retAddr 0)], []), [], (sh_26, mI_26, mz64, mR_26))) (k := 0) (n := 0) rfl (Nat.zero_le _) (Nat.zero_le _) ?_
  exact case_27 a0 a1 a2 a3 a4 a5
set_option maxRecDepth 100000 in
set_option maxHeartbeats 8000000 in
theorem sw_28 (a0 a1 a2 a3 a4 a5 : Int32) : XF (some (6, fv a0 a1 a2 a3 a4 a5)) 60 0 0 Qone (371, 33, [(3, .int 0), (2, .ref 94), (1, .ref 0), (0, .retAddr 0)], [.int (nI 28)]) [] (sh_26, mI_26, mz64, mR_26) := by
  refine crun_ok (by decide) 1 (C := ((371, 33, [(3, .int 0), (2, .ref 94), (1, .ref 0), (0, .retAddr 0)], [.int (nI 28)]), [], (sh_26, mI_26, mz64, mR_26))) (C' := ((371, 1290, [(3, .int 0), (2, .ref 94), (1, .ref 0), (0, .retAddr 0)], []), [], (sh_26, mI_26, mz64, mR_26))) (k := 0) (n := 0) rfl (Nat.zero_le _) (Nat.zero_le _) ?_
  exact case_28 a0 a1 a2 a3 a4 a5
set_option maxRecDepth 100000 in
set_option maxHeartbeats 8000000 in
theorem sw_29 (a0 a1 a2 a3 a4 a5 : Int32) : XF (some (6, fv a0 a1 a2 a3 a4 a5)) 60 0 0 Qone (371, 33, [(3, .int 0), (2, .ref 94), (1, .ref 0), (0, .retAddr 0)], [.int (nI 29)]) [] (sh_26, mI_26, mz64, mR_26) := by
  refine crun_ok (by decide) 1 (C := ((371, 33, [(3, .int 0), (2, .ref 94), (1, .ref 0), (0, .retAddr 0)], [.int (nI 29)]), [], (sh_26, mI_26, mz64, mR_26))) (C' := ((371, 1323, [(3, .int 0), (2, .ref 94), (1, .ref 0), (0, .retAddr 0)], []), [], (sh_26, mI_26, mz64, mR_26))) (k := 0) (n := 0) rfl (Nat.zero_le _) (Nat.zero_le _) ?_
  exact case_29 a0 a1 a2 a3 a4 a5
set_option maxRecDepth 100000 in
set_option maxHeartbeats 8000000 in
theorem sw_30 (a0 a1 a2 a3 a4 a5 : Int32) : XF (some (6, fv a0 a1 a2 a3 a4 a5)) 60 0 0 Qone (371, 33, [(3, .int 0), (2, .ref 94), (1, .ref 0), (0, .retAddr 0)], [.int (nI 30)]) [] (sh_26, mI_26, mz64, mR_26) := by
  refine crun_ok (by decide) 1 (C := ((371, 33, [(3, .int 0), (2, .ref 94), (1, .ref 0), (0, .retAddr 0)], [.int (nI 30)]), [], (sh_26, mI_26, mz64, mR_26))) (C' := ((371, 1346, [(3, .int 0), (2, .ref 94), (1, .ref 0), (0, .retAddr 0)], []), [], (sh_26, mI_26, mz64, mR_26))) (k := 0) (n := 0) rfl (Nat.zero_le _) (Nat.zero_le _) ?_
  exact case_30 a0 a1 a2 a3 a4 a5
set_option maxRecDepth 100000 in
set_option maxHeartbeats 8000000 in
theorem sw_31 (a0 a1 a2 a3 a4 a5 : Int32) : XF (some (6, fv a0 a1 a2 a3 a4 a5)) 60 0 0 Qone (371, 33, [(3, .int 0), (2, .ref 94), (1, .ref 0), (0, .retAddr 0)], [.int (nI 31)]) [] (sh_26, mI_26, mz64, mR_26) := by
  refine crun_ok (by decide) 1 (C := ((371, 33, [(3, .int 0), (2, .ref 94), (1, .ref 0), (0, .retAddr 0)], [.int (nI 31)]), [], (sh_26, mI_26, mz64, mR_26))) (C' := ((371, 1379, [(3, .int 0), (2, .ref 94), (1, .ref 0), (0, .retAddr 0)], []), [], (sh_26, mI_26, mz64, mR_26))) (k := 0) (n := 0) rfl (Nat.zero_le _) (Nat.zero_le _) ?_
  exact case_31 a0 a1 a2 a3 a4 a5
set_option maxRecDepth 100000 in
set_option maxHeartbeats 8000000 in
theorem sw_32 (a0 a1 a2 a3 a4 a5 : Int32) : XF (some (6, fv a0 a1 a2 a3 a4 a5)) 60 0 0 Qone (371, 33, [(3, .int 0), (2, .ref 94), (1, .ref 0), (0, .retAddr 0)], [.int (nI 32)]) [] (sh_26, mI_26, mz64, mR_26) := by
  refine crun_ok (by decide) 1 (C := ((371, 33, [(3, .int 0), (2, .ref 94), (1, .ref 0), (0, .retAddr 0)], [.int (nI 32)]), [], (sh_26, mI_26, mz64, mR_26))) (C' := ((371, 1402, [(3, .int 0), (2, .ref 94), (1, .ref 0), (0, .retAddr 0)], []), [], (sh_26, mI_26, mz64, mR_26))) (k := 0) (n := 0) rfl (Nat.zero_le _) (Nat.zero_le _) ?_
  exact case_32 a0 a1 a2 a3 a4 a5
set_option maxRecDepth 100000 in
set_option maxHeartbeats 8000000 in
theorem sw_33 (a0 a1 a2 a3 a4 a5 : Int32) : XF (some (6, fv a0 a1 a2 a3 a4 a5)) 60 0 0 Qone (371, 33, [(3, .int 0), (2, .ref 94), (1, .ref 0), (0, .retAddr 0)], [.int (nI 33)]) [] (sh_26, mI_26, mz64, mR_26) := by
  refine crun_ok (by decide) 1 (C := ((371, 33, [(3, .int 0), (2, .ref 94), (1, .ref 0), (0, .retAddr 0)], [.int (nI 33)]), [], (sh_26, mI_26, mz64, mR_26))) (C' := ((371, 1435, [(3, .int 0), (2, .ref 94), (1, .ref 0), (0, .retAddr 0)], []), [], (sh_26, mI_26, mz64, mR_26))) (k := 0) (n := 0) rfl (Nat.zero_le _) (Nat.zero_le _) ?_
  exact case_33 a0 a1 a2 a3 a4 a5
set_option maxRecDepth 100000 in
set_option maxHeartbeats 8000000 in
theorem sw_34 (a0 a1 a2 a3 a4 a5 : Int32) : XF (some (6, fv a0 a1 a2 a3 a4 a5)) 60 0 0 Qone (371, 33, [(3, .int 0), (2, .ref 94), (1, .ref 0), (0, .retAddr 0)], [.int (nI 34)]) [] (sh_26, mI_26, mz64, mR_26) := by
  refine crun_ok (by decide) 1 (C := ((371, 33, [(3, .int 0), (2, .ref 94), (1, .ref 0), (0, .retAddr 0)], [.int (nI 34)]), [], (sh_26, mI_26, mz64, mR_26))) (C' := ((371, 1468, [(3, .int 0), (2, .ref 94), (1, .ref 0), (0, .retAddr 0)], []), [], (sh_26, mI_26, mz64, mR_26))) (k := 0) (n := 0) rfl (Nat.zero_le _) (Nat.zero_le _) ?_
  exact case_34 a0 a1 a2 a3 a4 a5
set_option maxRecDepth 100000 in
set_option maxHeartbeats 8000000 in
theorem sw_35 (a0 a1 a2 a3 a4 a5 : Int32) : XF (some (6, fv a0 a1 a2 a3 a4 a5)) 60 0 0 Qone (371, 33, [(3, .int 0), (2, .ref 94), (1, .ref 0), (0, .retAddr 0)], [.int (nI 35)]) [] (sh_26, mI_26, mz64, mR_26) := by
  refine crun_ok (by decide) 1 (C := ((371, 33, [(3, .int 0), (2, .ref 94), (1, .ref 0), (0, .retAddr 0)], [.int (nI 35)]), [], (sh_26, mI_26, mz64, mR_26))) (C' := ((371, 1501, [(3, .int 0), (2, .ref 94), (1, .ref 0), (0, .retAddr 0)], []), [], (sh_26, mI_26, mz64, mR_26))) (k := 0) (n := 0) rfl (Nat.zero_le _) (Nat.zero_le _) ?_
  exact case_35 a0 a1 a2 a3 a4 a5
set_option maxRecDepth 100000 in
set_option maxHeartbeats 8000000 in
theorem sw_36 (a0 a1 a2 a3 a4 a5 : Int32) : XF (some (6, fv a0 a1 a2 a3 a4 a5)) 60 0 0 Qone (371, 33, [(3, .int 0), (2, .ref 94), (1, .ref 0), (0, .retAddr 0)], [.int (nI 36)]) [] (sh_26, mI_26, mz64, mR_26) := by
  refine crun_ok (by decide) 1 (C := ((371, 33, [(3, .int 0), (2, .ref 94), (1, .ref 0), (0, .retAddr 0)], [.int (nI 36)]), [], (sh_26, mI_26, mz64, mR_26))) (C' := ((371, 1524, [(3, .int 0), (2, .ref 94), (1, .ref 0), (0, .retAddr 0)], []), [], (sh_26, mI_26, mz64, mR_26))) (k := 0) (n := 0) rfl (Nat.zero_le _) (Nat.zero_le _) ?_
  exact case_36 a0 a1 a2 a3 a4 a5
set_option maxRecDepth 100000 in
set_option maxHeartbeats 8000000 in
theorem sw_37 (a0 a1 a2 a3 a4 a5 : Int32) : XF (some (6, fv a0 a1 a2 a3 a4 a5)) 60 0 0 Qone (371, 33, [(3, .int 0), (2, .ref 94), (1, .ref 0), (0, .retAddr 0)], [.int (nI 37)]) [] (sh_26, mI_26, mz64, mR_26) := by
  refine crun_ok (by decide) 1 (C := ((371, 33, [(3, .int 0), (2, .ref 94), (1, .ref 0), (0, .retAddr 0)], [.int (nI 37)]), [], (sh_26, mI_26, mz64, mR_26))) (C' := ((371, 1537, [(3, .int 0), (2, .ref 94), (1, .ref 0), (0, .retAddr 0)], []), [], (sh_26, mI_26, mz64, mR_26))) (k := 0) (n := 0) rfl (Nat.zero_le _) (Nat.zero_le _) ?_
  exact case_37 a0 a1 a2 a3 a4 a5
set_option maxRecDepth 100000 in
set_option maxHeartbeats 8000000 in
theorem sw_38 (a0 a1 a2 a3 a4 a5 : Int32) : XF (some (6, fv a0 a1 a2 a3 a4 a5)) 60 0 0 Qone (371, 33, [(3, .int 0), (2, .ref 94), (1, .ref 0), (0, .retAddr 0)], [.int (nI 38)]) [] (sh_26, mI_26, mz64, mR_26) := by
  refine crun_ok (by decide) 1 (C := ((371, 33, [(3, .int 0), (2, .ref 94), (1, .ref 0), (0, .retAddr 0)], [.int (nI 38)]), [], (sh_26, mI_26, mz64, mR_26))) (C' := ((371, 1560, [(3, .int 0), (2, .ref 94), (1, .ref 0), (0, .retAddr 0)], []), [], (sh_26, mI_26, mz64, mR_26))) (k := 0) (n := 0) rfl (Nat.zero_le _) (Nat.zero_le _) ?_
  exact case_38 a0 a1 a2 a3 a4 a5
set_option maxRecDepth 100000 in
set_option maxHeartbeats 8000000 in
theorem sw_39 (a0 a1 a2 a3 a4 a5 : Int32) : XF (some (6, fv a0 a1 a2 a3 a4 a5)) 60 0 0 Qone (371, 33, [(3, .int 0), (2, .ref 94), (1, .ref 0), (0, .retAddr 0)], [.int (nI 39)]) [] (sh_26, mI_26, mz64, mR_26) := by
  refine crun_ok (by decide) 1 (C := ((371, 33, [(3, .int 0), (2, .ref 94), (1, .ref 0), (0, .retAddr 0)], [.int (nI 39)]), [], (sh_26, mI_26, mz64, mR_26))) (C' := ((371, 1593, [(3, .int 0), (2, .ref 94), (1, .ref 0), (0, .retAddr 0)], []), [], (sh_26, mI_26, mz64, mR_26))) (k := 0) (n := 0) rfl (Nat.zero_le _) (Nat.zero_le _) ?_
  exact case_39 a0 a1 a2 a3 a4 a5
set_option maxRecDepth 100000 in
set_option maxHeartbeats 8000000 in
theorem sw_40 (a0 a1 a2 a3 a4 a5 : Int32) : XF (some (6, fv a0 a1 a2 a3 a4 a5)) 60 0 0 Qone (371, 33, [(3, .int 0), (2, .ref 94), (1, .ref 0), (0, .retAddr 0)], [.int (nI 40)]) [] (sh_26, mI_26, mz64, mR_26) := by
  refine crun_ok (by decide) 1 (C := ((371, 33, [(3, .int 0), (2, .ref 94), (1, .ref 0), (0, .retAddr 0)], [.int (nI 40)]), [], (sh_26, mI_26, mz64, mR_26))) (C' := ((371, 1616, [(3, .int 0), (2, .ref 94), (1, .ref 0), (0, .retAddr 0)], []), [], (sh_26, mI_26, mz64, mR_26))) (k := 0) (n := 0) rfl (Nat.zero_le _) (Nat.zero_le _) ?_
  exact case_40 a0 a1 a2 a3 a4 a5
set_option maxRecDepth 100000 in
set_option maxHeartbeats 8000000 in
theorem sw_41 (a0 a1 a2 a3 a4 a5 : Int32) : XF (some (6, fv a0 a1 a2 a3 a4 a5)) 60 0 0 Qone (371, 33, [(3, .int 0), (2, .ref 94), (1, .ref 0), (0, .retAddr 0)], [.int (nI 41)]) [] (sh_26, mI_26, mz64, mR_26) := by
  refine crun_ok (by decide) 1 (C := ((371, 33, [(3, .int 0), (2, .ref 94), (1, .ref 0), (0, .retAddr 0)], [.int (nI 41)]), [], (sh_26, mI_26, mz64, mR_26))) (C' := ((371, 1639, [(3, .int 0), (2, .ref 94), (1, .ref 0), (0, .retAddr 0)], []), [], (sh_26, mI_26, mz64, mR_26))) (k := 0) (n := 0) rfl (Nat.zero_le _) (Nat.zero_le _) ?_
  exact case_41 a0 a1 a2 a3 a4 a5
set_option maxRecDepth 100000 in
set_option maxHeartbeats 8000000 in
theorem sw_42 (a0 a1 a2 a3 a4 a5 : Int32) : XF (some (6, fv a0 a1 a2 a3 a4 a5)) 60 0 0 Qone (371, 33, [(3, .int 0), (2, .ref 94), (1, .ref 0), (0, .retAddr 0)], [.int (nI 42)]) [] (sh_26, mI_26, mz64, mR_26) := by
  refine crun_ok (by decide) 1 (C := ((371, 33, [(3, .int 0), (2, .ref 94), (1, .ref 0), (0, .retAddr 0)], [.int (nI 42)]), [], (sh_26, mI_26, mz64, mR_26))) (C' := ((371, 1682, [(3, .int 0), (2, .ref 94), (1, .ref 0), (0, .retAddr 0)], []), [], (sh_26, mI_26, mz64, mR_26))) (k := 0) (n := 0) rfl (Nat.zero_le _) (Nat.zero_le _) ?_
  exact case_42 a0 a1 a2 a3 a4 a5
set_option maxRecDepth 100000 in
set_option maxHeartbeats 8000000 in
theorem sw_43 (a0 a1 a2 a3 a4 a5 : Int32) : XF (some (6, fv a0 a1 a2 a3 a4 a5)) 60 0 0 Qone (371, 33, [(3, .int 0), (2, .ref 94), (1, .ref 0), (0, .retAddr 0)], [.int (nI 43)]) [] (sh_26, mI_26, mz64, mR_26) := by
  refine crun_ok (by decide) 1 (C := ((371, 33, [(3, .int 0), (2, .ref 94), (1, .ref 0), (0, .retAddr 0)], [.int (nI 43)]), [], (sh_26, mI_26, mz64, mR_26))) (C' := ((371, 1695, [(3, .int 0), (2, .ref 94), (1, .ref 0), (0, .retAddr 0)], []), [], (sh_26, mI_26, mz64, mR_26))) (k := 0) (n := 0) rfl (Nat.zero_le _) (Nat.zero_le _) ?_
  exact case_43 a0 a1 a2 a3 a4 a5
set_option maxRecDepth 100000 in
set_option maxHeartbeats 8000000 in
theorem sw_44 (a0 a1 a2 a3 a4 a5 : Int32) : XF (some (6, fv a0 a1 a2 a3 a4 a5)) 60 0 0 Qone (371, 33, [(3, .int 0), (2, .ref 94), (1, .ref 0), (0, .retAddr 0)], [.int (nI 44)]) [] (sh_26, mI_26, mz64, mR_26) := by
  refine crun_ok (by decide) 1 (C := ((371, 33, [(3, .int 0), (2, .ref 94), (1, .ref 0), (0, .retAddr 0)], [.int (nI 44)]), [], (sh_26, mI_26, mz64, mR_26))) (C' := ((371, 1718, [(3, .int 0), (2, .ref 94), (1, .ref 0), (0, .retAddr 0)], []), [], (sh_26, mI_26, mz64, mR_26))) (k := 0) (n := 0) rfl (Nat.zero_le _) (Nat.zero_le _) ?_
  exact case_44 a0 a1 a2 a3 a4 a5
set_option maxRecDepth 100000 in
set_option maxHeartbeats 8000000 in
theorem sw_45 (a0 a1 a2 a3 a4 a5 : Int32) : XF (some (6, fv a0 a1 a2 a3 a4 a5)) 60 0 0 Qone (371, 33, [(3, .int 0), (2, .ref 94), (1, .ref 0), (0, .retAddr 0)], [.int (nI 45)]) [] (sh_26, mI_26, mz64, mR_26) := by
  refine crun_ok (by decide) 1 (C := ((371, 33, [(3, .int 0), (2, .ref 94), (1, .ref 0), (0, .retAddr 0)], [.int (nI 45)]), [], (sh_26, mI_26, mz64, mR_26))) (C' := ((371, 1751, [(3, .int 0), (2, .ref 94), (1, .ref 0), (0, .retAddr 0)], []), [], (sh_26, mI_26, mz64, mR_26))) (k := 0) (n := 0) rfl (Nat.zero_le _) (Nat.zero_le _) ?_
  exact case_45 a0 a1 a2 a3 a4 a5
set_option maxRecDepth 100000 in
set_option maxHeartbeats 8000000 in
theorem sw_46 (a0 a1 a2 a3 a4 a5 : Int32) : XF (some (6, fv a0 a1 a2 a3 a4 a5)) 60 0 0 Qone (371, 33, [(3, .int 0), (2, .ref 94), (1, .ref 0), (0, .retAddr 0)], [.int (nI 46)]) [] (sh_26, mI_26, mz64, mR_26) := by
  refine crun_ok (by decide) 1 (C := ((371, 33, [(3, .int 0), (2, .ref 94), (1, .ref 0), (0, .retAddr 0)], [.int (nI 46)]), [], (sh_26, mI_26, mz64, mR_26))) (C' := ((371, 1794, [(3, .int 0), (2, .ref 94), (1, .ref 0), (0, .retAddr 0)], []), [], (sh_26, mI_26, mz64, mR_26))) (k := 0) (n := 0) rfl (Nat.zero_le _) (Nat.zero_le _) ?_
  exact case_46 a0 a1 a2 a3 a4 a5
set_option maxRecDepth 100000 in
set_option maxHeartbeats 8000000 in
theorem sw_47 (a0 a1 a2 a3 a4 a5 : Int32) : XF (some (6, fv a0 a1 a2 a3 a4 a5)) 60 0 0 Qone (371, 33, [(3, .int 0), (2, .ref 94), (1, .ref 0), (0, .retAddr 0)], [.int (nI 47)]) [] (sh_26, mI_26, mz64, mR_26) := by
  refine crun_ok (by decide) 1 (C := ((371, 33, [(3, .int 0), (2, .ref 94), (1, .ref 0), (0, .retAddr 0)], [.int (nI 47)]), [], (sh_26, mI_26, mz64, mR_26))) (C' := ((371, 1837, [(3, .int 0), (2, .ref 94), (1, .ref 0), (0, .retAddr 0)], []), [], (sh_26, mI_26, mz64, mR_26))) (k := 0) (n := 0) rfl (Nat.zero_le _) (Nat.zero_le _) ?_
  exact case_47 a0 a1 a2 a3 a4 a5
set_option maxRecDepth 100000 in
set_option maxHeartbeats 8000000 in
theorem sw_48 (a0 a1 a2 a3 a4 a5 : Int32) : XF (some (6, fv a0 a1 a2 a3 a4 a5)) 60 0 0 Qone (371, 33, [(3, .int 0), (2, .ref 94), (1, .ref 0), (0, .retAddr 0)], [.int (nI 48)]) [] (sh_26, mI_26, mz64, mR_26) := by
  refine crun_ok (by decide) 1 (C := ((371, 33, [(3, .int 0), (2, .ref 94), (1, .ref 0), (0, .retAddr 0)], [.int (nI 48)]), [], (sh_26, mI_26, mz64, mR_26))) (C' := ((371, 1880, [(3, .int 0), (2, .ref 94), (1, .ref 0), (0, .retAddr 0)], []), [], (sh_26, mI_26, mz64, mR_26))) (k := 0) (n := 0) rfl (Nat.zero_le _) (Nat.zero_le _) ?_
  exact case_48 a0 a1 a2 a3 a4 a5
set_option maxRecDepth 100000 in
set_option maxHeartbeats 8000000 in
theorem sw_49 (a0 a1 a2 a3 a4 a5 : Int32) : XF (some (6, fv a0 a1 a2 a3 a4 a5)) 60 0 0 Qone (371, 33, [(3, .int 0), (2, .ref 94), (1, .ref 0), (0, .retAddr 0)], [.int (nI 49)]) [] (sh_26, mI_26, mz64, mR_26) := by
  refine crun_ok (by decide) 1 (C := ((371, 33, [(3, .int 0), (2, .ref 94), (1, .ref 0), (0, .retAddr 0)], [.int (nI 49)]), [], (sh_26, mI_26, mz64, mR_26))) (C' := ((371, 1903, [(3, .int 0), (2, .ref 94), (1, .ref 0), (0, .retAddr 0)], []), [], (sh_26, mI_26, mz64, mR_26))) (k := 0) (n := 0) rfl (Nat.zero_le _) (Nat.zero_le _) ?_
  exact case_49 a0 a1 a2 a3 a4 a5
set_option maxRecDepth 100000 in
set_option maxHeartbeats 8000000 in
theorem sw_50 (a0 a1 a2 a3 a4 a5 : Int32) : XF (some (6, fv a0 a1 a2 a3 a4 a5)) 60 0 0 Qone (371, 33, [(3, .int 0), (2, .ref 94), (1, .ref 0), (0, .retAddr 0)], [.int (nI 50)]) [] (sh_26, mI_26, mz64, mR_26) := by
  refine crun_ok (by decide) 1 (C := ((371, 33, [(3, .int 0), (2, .ref 94), (1, .ref 0), (0, .retAddr 0)], [.int (nI 50)]), [], (sh_26, mI_26, mz64, mR_26))) (C' := ((371, 1936, [(3, .int 0), (2, .ref 94), (1, .ref 0), (0, .retAddr 0)], []), [], (sh_26, mI_26, mz64, mR_26))) (k := 0) (n := 0) rfl (Nat.zero_le _) (Nat.zero_le _) ?_
  exact case_50 a0 a1 a2 a3 a4 a5
set_option maxRecDepth 100000 in
set_option maxHeartbeats 8000000 in
theorem sw_51 (a0 a1 a2 a3 a4 a5 : Int32) : XF (some (6, fv a0 a1 a2 a3 a4 a5)) 60 0 0 Qone (371, 33, [(3, .int 0), (2, .ref 94), (1, .ref 0), (0, .retAddr 0)], [.int (nI 51)]) [] (sh_26, mI_26, mz64, mR_26) := by
  refine crun_ok (by decide) 1 (C := ((371, 33, [(3, .int 0), (2, .ref 94), (1, .ref 0), (0, .retAddr 0)], [.int (nI 51)]), [], (sh_26, mI_26, mz64, mR_26))) (C' := ((371, 1979, [(3, .int 0), (2, .ref 94), (1, .ref 0), (0, .retAddr 0)], []), [], (sh_26, mI_26, mz64, mR_26))) (k := 0) (n := 0) rfl (Nat.zero_le _) (Nat.zero_le _) ?_
  exact case_51 a0 a1 a2 a3 a4 a5
set_option maxRecDepth 100000 in
set_option maxHeartbeats 8000000 in
theorem sw_52 (a0 a1 a2 a3 a4 a5 : Int32) : XF (some (6, fv a0 a1 a2 a3 a4 a5)) 60 0 0 Qone (371, 33, [(3, .int 0), (2, .ref 94), (1, .ref 0), (0, .retAddr 0)], [.int (nI 52)]) [] (sh_26, mI_26, mz64, mR_26) := by
  refine crun_ok (by decide) 1 (C := ((371, 33, [(3, .int 0), (2, .ref 94), (1, .ref 0), (0, .retAddr 0)], [.int (nI 52)]), [], (sh_26, mI_26, mz64, mR_26))) (C' := ((371, 2052, [(3, .int 0), (2, .ref 94), (1, .ref 0), (0, .retAddr 0)], []), [], (sh_26, mI_26, mz64, mR_26))) (k := 0) (n := 0) rfl (Nat.zero_le _) (Nat.zero_le _) ?_
  exact case_52 a0 a1 a2 a3 a4 a5
set_option maxRecDepth 100000 in
set_option maxHeartbeats 8000000 in
theorem sw_53 (a0 a1 a2 a3 a4 a5 : Int32) : XF (some (6, fv a0 a1 a2 a3 a4 a5)) 60 0 0 Qone (371, 33, [(3, .int 0), (2, .ref 94), (1, .ref 0), (0, .retAddr 0)], [.int (nI 53)]) [] (sh_26, mI_26, mz64, mR_26) := by
  refine crun_ok (by decide) 1 (C := ((371, 33, [(3, .int 0), (2, .ref 94), (1, .ref 0), (0, .retAddr 0)], [.int (nI 53)]), [], (sh_26, mI_26, mz64, mR_26))) (C' := ((371, 2086, [(3, .int 0), (2, .ref 94), (1, .ref 0), (0, .retAddr 0)], []), [], (sh_26, mI_26, mz64, mR_26))) (k := 0) (n := 0) rfl (Nat.zero_le _) (Nat.zero_le _) ?_
  exact case_53 a0 a1 a2 a3 a4 a5
set_option maxRecDepth 100000 in
set_option maxHeartbeats 8000000 in
theorem sw_54 (a0 a1 a2 a3 a4 a5 : Int32) : XF (some (6, fv a0 a1 a2 a3 a4 a5)) 60 0 0 Qone (371, 33, [(3, .int 0), (2, .ref 94), (1, .ref 0), (0, .retAddr 0)], [.int (nI 54)]) [] (sh_26, mI_26, mz64, mR_26) := by
  refine crun_ok (by decide) 1 (C := ((371, 33, [(3, .int 0), (2, .ref 94), (1, .ref 0), (0, .retAddr 0)], [.int (nI 54)]), [], (sh_26, mI_26, mz64, mR_26))) (C' := ((371, 2149, [(3, .int 0), (2, .ref 94), (1, .ref 0), (0, .retAddr 0)], []), [], (sh_26, mI_26, mz64, mR_26))) (k := 0) (n := 0) rfl (Nat.zero_le _) (Nat.zero_le _) ?_
  exact case_54 a0 a1 a2 a3 a4 a5
set_option maxRecDepth 100000 in
set_option maxHeartbeats 8000000 in
theorem sw_55 (a0 a1 a2 a3 a4 a5 : Int32) : XF (some (6, fv a0 a1 a2 a3 a4 a5)) 60 0 0 Qone (371, 33, [(3, .int 0), (2, .ref 94), (1, .ref 0), (0, .retAddr 0)], [.int (nI 55)]) [] (sh_26, mI_26, mz64, mR_26) := by
  refine crun_ok (by decide) 1 (C := ((371, 33, [(3, .int 0), (2, .ref 94), (1, .ref 0), (0, .retAddr 0)], [.int (nI 55)]), [], (sh_26, mI_26, mz64, mR_26))) (C' := ((371, 2182, [(3, .int 0), (2, .ref 94), (1, .ref 0), (0, .retAddr 0)], []), [], (sh_26, mI_26, mz64, mR_26))) (k := 0) (n := 0) rfl (Nat.zero_le _) (Nat.zero_le _) ?_
  exact case_55 a0 a1 a2 a3 a4 a5
set_option maxRecDepth 100000 in
set_option maxHeartbeats 8000000 in
theorem sw_56 (a0 a1 a2 a3 a4 a5 : Int32) : XF (some (6, fv a0 a1 a2 a3 a4 a5)) 60 0 0 Qone (371, 33, [(3, .int 0), (2, .ref 94), (1, .ref 0), (0, .retAddr 0)], [.int (nI 56)]) [] (sh_26, mI_26, mz64, mR_26) := by
  refine crun_ok (by decide) 1 (C := ((371, 33, [(3, .int 0), (2, .ref 94), (1, .ref 0), (0, .retAddr 0)], [.int (nI 56)]), [], (sh_26, mI_26, mz64, mR_26))) (C' := ((371, 2195, [(3, .int 0), (2, .ref 94), (1, .ref 0), (0, .retAddr 0)], []), [], (sh_26, mI_26, mz64, mR_26))) (k := 0) (n := 0) rfl (Nat.zero_le _) (Nat.zero_le _) ?_
  exact case_56 a0 a1 a2 a3 a4 a5
set_option maxRecDepth 100000 in
set_option maxHeartbeats 8000000 in
theorem sw_57 (a0 a1 a2 a3 a4 a5 : Int32) : XF (some (6, fv a0 a1 a2 a3 a4 a5)) 60 0 0 Qone (371, 33, [(3, .int 0), (2, .ref 94), (1, .ref 0), (0, .retAddr 0)], [.int (nI 57)]) [] (sh_26, mI_26, mz64, mR_26) := by
  refine crun_ok (by decide) 1 (C := ((371, 33, [(3, .int 0), (2, .ref 94), (1, .ref 0), (0, .retAddr 0)], [.int (nI 57)]), [], (sh_26, mI_26, mz64, mR_26))) (C' := ((371, 2218, [(3, .int 0), (2, .ref 94), (1, .ref 0), (0, .retAddr 0)], []), [], (sh_26, mI_26, mz64, mR_26))) (k := 0) (n := 0) rfl (Nat.zero_le _) (Nat.zero_le _) ?_
  exact sw_out a0 a1 a2 a3 a4 a5
set_option maxRecDepth 100000 in
set_option maxHeartbeats 8000000 in
theorem sw_58 (a0 a1 a2 a3 a4 a5 : Int32) : XF (some (6, fv a0 a1 a2 a3 a4 a5)) 60 0 0 Qone (371, 33, [(3, .int 0), (2, .ref 94), (1, .ref 0), (0, .retAddr 0)], [.int (nI 58)]) [] (sh_26, mI_26, mz64, mR_26) := by
  refine crun_ok (by decide) 1 (C := ((371, 33, [(3, .int 0), (2, .ref 94), (1, .ref 0), (0, .retAddr 0)], [.int (nI 58)]), [], (sh_26, mI_26, mz64, mR_26))) (C' := ((371, 2218, [(3, .int 0), (2, .ref 94), (1, .ref 0), (0, .retAddr 0)], []), [], (sh_26, mI_26, mz64, mR_26))) (k := 0) (n := 0) rfl (Nat.zero_le _) (Nat.zero_le _) ?_
  exact sw_out a0 a1 a2 a3 a4 a5
set_option maxRecDepth 100000 in
set_option maxHeartbeats 8000000 in
theorem sw_59 (a0 a1 a2 a3 a4 a5 : Int32) : XF (some (6, fv a0 a1 a2 a3 a4 a5)) 60 0 0 Qone (371, 33, [(3, .int 0), (2, .ref 94), (1, .ref 0), (0, .retAddr 0)], [.int (nI 59)]) [] (sh_26, mI_26, mz64, mR_26) := by
  refine crun_ok (by decide) 1 (C := ((371, 33, [(3, .int 0), (2, .ref 94), (1, .ref 0), (0, .retAddr 0)], [.int (nI 59)]), [], (sh_26, mI_26, mz64, mR_26))) (C' := ((371, 2218, [(3, .int 0), (2, .ref 94), (1, .ref 0), (0, .retAddr 0)], []), [], (sh_26, mI_26, mz64, mR_26))) (k := 0) (n := 0) rfl (Nat.zero_le _) (Nat.zero_le _) ?_
  exact sw_out a0 a1 a2 a3 a4 a5
set_option maxRecDepth 100000 in
set_option maxHeartbeats 8000000 in
theorem sw_60 (a0 a1 a2 a3 a4 a5 : Int32) : XF (some (6, fv a0 a1 a2 a3 a4 a5)) 60 0 0 Qone (371, 33, [(3, .int 0), (2, .ref 94), (1, .ref 0), (0, .retAddr 0)], [.int (nI 60)]) [] (sh_26, mI_26, mz64, mR_26) := by
  refine crun_ok (by decide) 1 (C := ((371, 33, [(3, .int 0), (2, .ref 94), (1, .ref 0), (0, .retAddr 0)], [.int (nI 60)]), [], (sh_26, mI_26, mz64, mR_26))) (C' := ((371, 2218, [(3, .int 0), (2, .ref 94), (1, .ref 0), (0, .retAddr 0)], []), [], (sh_26, mI_26, mz64, mR_26))) (k := 0) (n := 0) rfl (Nat.zero_le _) (Nat.zero_le _) ?_
  exact sw_out a0 a1 a2 a3 a4 a5
set_option maxRecDepth 100000 in
set_option maxHeartbeats 8000000 in
theorem sw_61 (a0 a1 a2 a3 a4 a5 : Int32) : XF (some (6, fv a0 a1 a2 a3 a4 a5)) 60 0 0 Qone (371, 33, [(3, .int 0), (2, .ref 94), (1, .ref 0), (0, .retAddr 0)], [.int (nI 61)]) [] (sh_26, mI_26, mz64, mR_26) := by
  refine crun_ok (by decide) 1 (C := ((371, 33, [(3, .int 0), (2, .ref 94), (1, .ref 0), (0, .retAddr 0)], [.int (nI 61)]), [], (sh_26, mI_26, mz64, mR_26))) (C' := ((371, 2218, [(3, .int 0), (2, .ref 94), (1, .ref 0), (0, .retAddr 0)], []), [], (sh_26, mI_26, mz64, mR_26))) (k := 0) (n := 0) rfl (Nat.zero_le _) (Nat.zero_le _) ?_
  exact sw_out a0 a1 a2 a3 a4 a5
set_option maxRecDepth 100000 in
set_option maxHeartbeats 8000000 in
theorem sw_62 (a0 a1 a2 a3 a4 a5 : Int32) : XF (some (6, fv a0 a1 a2 a3 a4 a5)) 60 0 0 Qone (371, 33, [(3, .int 0), (2, .ref 94), (1, .ref 0), (0, .retAddr 0)], [.int (nI 62)]) [] (sh_26, mI_26, mz64, mR_26) := by
  refine crun_ok (by decide) 1 (C := ((371, 33, [(3, .int 0), (2, .ref 94), (1, .ref 0), (0, .retAddr 0)], [.int (nI 62)]), [], (sh_26, mI_26, mz64, mR_26))) (C' := ((371, 2218, [(3, .int 0), (2, .ref 94), (1, .ref 0), (0, .retAddr 0)], []), [], (sh_26, mI_26, mz64, mR_26))) (k := 0) (n := 0) rfl (Nat.zero_le _) (Nat.zero_le _) ?_
  exact sw_out a0 a1 a2 a3 a4 a5
set_option maxRecDepth 100000 in
set_option maxHeartbeats 8000000 in
theorem sw_63 (a0 a1 a2 a3 a4 a5 : Int32) : XF (some (6, fv a0 a1 a2 a3 a4 a5)) 60 0 0 Qone (371, 33, [(3, .int 0), (2, .ref 94), (1, .ref 0), (0, .retAddr 0)], [.int (nI 63)]) [] (sh_26, mI_26, mz64, mR_26) := by
  refine crun_ok (by decide) 1 (C := ((371, 33, [(3, .int 0), (2, .ref 94), (1, .ref 0), (0, .retAddr 0)], [.int (nI 63)]), [], (sh_26, mI_26, mz64, mR_26))) (C' := ((371, 2218, [(3, .int 0), (2, .ref 94), (1, .ref 0), (0, .retAddr 0)], []), [], (sh_26, mI_26, mz64, mR_26))) (k := 0) (n := 0) rfl (Nat.zero_le _) (Nat.zero_le _) ?_
  exact sw_out a0 a1 a2 a3 a4 a5
set_option maxRecDepth 100000 in
set_option maxHeartbeats 8000000 in
theorem sw_all (a0 a1 a2 a3 a4 a5 : Int32) : ∀ k ∈ ([0, 1, 2, 3, 4, 5, 6, 7, 8, 9, 10, 11, 12, 13, 14, 15, 16, 17, 18, 19, 20, 21, 22, 23, 24, 25, 26, 27, 28, 29, 30, 31, 32, 33, 34, 35, 36, 37, 38, 39, 40, 41, 42, 43, 44, 45, 46, 47, 48, 49, 50, 51, 52, 53, 54, 55, 56, 57, 58, 59, 60, 61, 62, 63] : List Nat), XF (some (6, fv a0 a1 a2 a3 a4 a5)) 60 0 0 Qone (371, 33, [(3, .int 0), (2, .ref 94), (1, .ref 0), (0, .retAddr 0)], [.int (nI k)]) [] (sh_26, mI_26, mz64, mR_26) :=
  List.forall_mem_cons.mpr ⟨sw_0 a0 a1 a2 a3 a4 a5, List.forall_mem_cons.mpr ⟨sw_1 a0 a1 a2 a3 a4 a5, List.forall_mem_cons.mpr ⟨sw_2 a0 a1 a2 a3 a4 a5, List.forall_mem_cons.mpr ⟨sw_3 a0 a1 a2 a3 a4 a5, List.forall_mem_cons.mpr ⟨sw_4 a0 a1 a2 a3 a4 a5, List.forall_mem_cons.mpr ⟨sw_5 a0 a1 a2 a3 a4 a5, List.forall_mem_cons.mpr ⟨sw_6 a0 a1 a2 a3 a4 a5, List.forall_mem_cons.mpr ⟨sw_7 a0 a1 a2 a3 a4 a5, List.forall_mem_cons.mpr ⟨sw_8 a0 a1 a2 a3 a4 a5, List.forall_mem_cons.mpr ⟨sw_9 a0 a1 a2 a3 a4 a5, List.forall_mem_cons.mpr ⟨sw_10 a0 a1 a2 a3 a4 a5, List.forall_mem_cons.mpr ⟨sw_11 a0 a1 a2 a3 a4 a5, List.forall_mem_cons.mpr ⟨sw_12 a0 a1 a2 a3 a4 a5, List.forall_mem_cons.mpr ⟨sw_13 a0 a1 a2 a3 a4 a5, List.forall_mem_cons.mpr ⟨sw_14 a0 a1 a2 a3 a4 a5, List.forall_mem_cons.mpr ⟨sw_15 a0 a1 a2 a3 a4 a5, List.forall_mem_cons.mpr ⟨sw_16 a0 a1 a2 a3 a4 a5, List.forall_mem_cons.mpr ⟨sw_17 a0 a1 a2 a3 a4 a5, List.forall_mem_cons.mpr ⟨sw_18 a0 a1 a2 a3 a4 a5, List.forall_mem_cons.mpr ⟨sw_19 a0 a1 a2 a3 a4 a5, List.forall_mem_cons.mpr ⟨sw_20 a0 a1 a2 a3 a4 a5, List.forall_mem_cons.mpr ⟨sw_21 a0 a1 a2 a3 a4 a5, List.forall_mem_cons.mpr ⟨sw_22 a0 a1 a2 a3 a4 a5, List.forall_mem_cons.mpr ⟨sw_23 a0 a1 a2 a3 a4 a5, List.forall_mem_cons.mpr ⟨sw_24 a0 a1 a2 a3 a4 a5, List.forall_mem_cons.mpr ⟨sw_25 a0 a1 a2 a3 a4 a5, List.forall_mem_cons.mpr ⟨sw_26 a0 a1 a2 a3 a4 a5, List.forall_mem_cons.mpr ⟨sw_27 a0 a1 a2 a3 a4 a5, List.forall_mem_cons.mpr ⟨sw_28 a0 a1 a2 a3 a4 a5, List.forall_mem_cons.mpr ⟨sw_29 a0 a1 a2 a3 a4 a5, List.forall_mem_cons.mpr ⟨sw_30 a0 a1 a2 a3 a4 a5, List.forall_mem_cons.mpr ⟨sw_31 a0 a1 a2 a3 a4 a5, List.forall_mem_cons.mpr ⟨sw_32 a0 a1 a2 a3 a4 a5, List.forall_mem_cons.mpr ⟨sw_33 a0 a1 a2 a3 a4 a5, List.forall_mem_cons.mpr ⟨sw_34 a0 a1 a2 a3 a4 a5, List.forall_mem_cons.mpr ⟨sw_35 a0 a1 a2 a3 a4 a5, List.forall_mem_cons.mpr ⟨sw_36 a0 a1 a2 a3 a4 a5, List.forall_mem_cons.mpr ⟨sw_37 a0 a1 a2 a3 a4 a5, List.forall_mem_cons.mpr ⟨sw_38 a0 a1 a2 a3 a4 a5, List.forall_mem_cons.mpr ⟨sw_39 a0 a1 a2 a3 a4 a5, List.forall_mem_cons.mpr ⟨sw_40 a0 a1 a2 a3 a4 a5, List.forall_mem_cons.mpr ⟨sw_41 a0 a1 a2 a3 a4 a5, List.forall_mem_cons.mpr ⟨sw_42 a0 a1 a2 a3 a4 a5, List.forall_mem_cons.mpr ⟨sw_43 a0 a1 a2 a3 a4 a5, List.forall_mem_cons.mpr ⟨sw_44 a0 a1 a2 a3 a4 a5, List.forall_mem_cons.mpr ⟨sw_45 a0 a1 a2 a3 a4 a5, List.forall_mem_cons.mpr ⟨sw_46 a0 a1 a2 a3 a4 a5, List.forall_mem_cons.mpr ⟨sw_47 a0 a1 a2 a3 a4 a5, List.forall_mem_cons.mpr ⟨sw_48 a0 a1 a2 a3 a4 a5, List.forall_mem_cons.mpr ⟨sw_49 a0 a1 a2 a3 a4 a5, List.forall_mem_cons.mpr ⟨sw_50 a0 a1 a2 a3 a4 a5, List.forall_mem_cons.mpr ⟨sw_51 a0 a1 a2 a3 a4 a5, List.forall_mem_cons.mpr ⟨sw_52 a0 a1 a2 a3 a4 a5, List.forall_mem_cons.mpr ⟨sw_53 a0 a1 a2 a3 a4 a5, List.forall_mem_cons.mpr ⟨sw_54 a0 a1 a2 a3 a4 a5, List.forall_mem_cons.mpr ⟨sw_55 a0 a1 a2 a3 a4 a5, List.forall_mem_cons.mpr ⟨sw_56 a0 a1 a2 a3 a4 a5, List.forall_mem_cons.mpr ⟨sw_57 a0 a1 a2 a3 a4 a5, List.forall_mem_cons.mpr ⟨sw_58 a0 a1 a2 a3 a4 a5, List.forall_mem_cons.mpr ⟨sw_59 a0 a1 a2 a3 a4 a5, List.forall_mem_cons.mpr ⟨sw_60 a0 a1 a2 a3 a4 a5, List.forall_mem_cons.mpr ⟨sw_61 a0 a1 a2 a3 a4 a5, List.forall_mem_cons.mpr ⟨sw_62 a0 a1 a2 a3 a4 a5, List.forall_mem_cons.mpr ⟨sw_63 a0 a1 a2 a3 a4 a5, (fun _ h => absurd h List.not_mem_nil)⟩⟩⟩⟩⟩⟩⟩⟩⟩⟩⟩⟩⟩⟩⟩⟩⟩⟩⟩⟩⟩⟩⟩⟩⟩⟩⟩⟩⟩⟩⟩⟩⟩⟩⟩⟩⟩⟩⟩⟩⟩⟩⟩⟩⟩⟩⟩⟩⟩⟩⟩⟩⟩⟩⟩⟩⟩⟩⟩⟩⟩⟩⟩⟩
set_option maxRecDepth 100000 in
set_option maxHeartbeats 8000000 in
theorem law_6 (a0 a1 a2 a3 a4 a5 : Int32) : XF (some (6, fv a0 a1 a2 a3 a4 a5)) 60 0 0 Qone (371, 18, [(3, .int 0), (2, .ref 94), (1, .ref 0), (0, .retAddr 0)], []) [] w_26 := by
  refine crun_ok (by decide) 11 (C := ((371, 18, [(3, .int 0), (2, .ref 94), (1, .ref 0), (0, .retAddr 0)], []), [], (sh_26, mI_26, mz64, mR_26))) (C' := ((371, 33, [(3, .int 0), (2, .ref 94), (1, .ref 0), (0, .retAddr 0)], [.int (a0 &&& 63)]), [], (sh_26, mI_26, mz64, mR_26))) (k := 0) (n := 0) rfl (Nat.zero_le _) (Nat.zero_le _) ?_
  obtain ⟨k, hk, e⟩ := pk_andE a0 (m := 63) 6 (by decide)
  rw [e]
  exact sw_all a0 a1 a2 a3 a4 a5 k (by have h : k ∈ List.range 64 := List.mem_range.mpr hk; exact h)
set_option maxRecDepth 100000 in
set_option maxHeartbeats 8000000 in
theorem law_0 (f : Nat → Int32) : XF (some (0, f)) 60 0 0 Qone (371, 18, [(3, .int 0), (2, .ref 94), (1, .ref 0), (0, .retAddr 0)], []) [] w_26 := by
  refine crun_ok (by decide) 7 (C := ((371, 18, [(3, .int 0), (2, .ref 94), (1, .ref 0), (0, .retAddr 0)], []), [], (sh_26, mI_26, mz64, mR_26))) (C' := ((371, 2225, [(3, .int 0), (2, .ref 94), (1, .ref 0), (0, .retAddr 0)], [.int 1]), [], (sh_26, mI_26, mz64, mR_26))) (k := 0) (n := 0) rfl (Nat.zero_le _) (Nat.zero_le _) ?_
  exact XF.fin (M := mr_371) (some (.int 1)) rfl rfl rfl (fun _ => rfl)
set_option maxRecDepth 100000 in
set_option maxHeartbeats 8000000 in
theorem law_1 (f : Nat → Int32) : XF (some (1, f)) 60 0 0 Qone (371, 18, [(3, .int 0), (2, .ref 94), (1, .ref 0), (0, .retAddr 0)], []) [] w_26 := by
  refine crun_ok (by decide) 7 (C := ((371, 18, [(3, .int 0), (2, .ref 94), (1, .ref 0), (0, .retAddr 0)], []), [], (sh_26, mI_26, mz64, mR_26))) (C' := ((371, 2225, [(3, .int 0), (2, .ref 94), (1, .ref 0), (0, .retAddr 0)], [.int 1]), [], (sh_26, mI_26, mz64, mR_26))) (k := 0) (n := 0) rfl (Nat.zero_le _) (Nat.zero_le _) ?_
  exact XF.fin (M := mr_371) (some (.int 1)) rfl rfl rfl (fun _ => rfl)
set_option maxRecDepth 100000 in
set_option maxHeartbeats 8000000 in
theorem law_2 (f : Nat → Int32) : XF (some (2, f)) 60 0 0 Qone (371, 18, [(3, .int 0), (2, .ref 94), (1, .ref 0), (0, .retAddr 0)], []) [] w_26 := by
  refine crun_ok (by decide) 7 (C := ((371, 18, [(3, .int 0), (2, .ref 94), (1, .ref 0), (0, .retAddr 0)], []), [], (sh_26, mI_26, mz64, mR_26))) (C' := ((371, 2225, [(3, .int 0), (2, .ref 94), (1, .ref 0), (0, .retAddr 0)], [.int 1]), [], (sh_26, mI_26, mz64, mR_26))) (k := 0) (n := 0) rfl (Nat.zero_le _) (Nat.zero_le _) ?_
  exact XF.fin (M := mr_371) (some (.int 1)) rfl rfl rfl (fun _ => rfl)
set_option maxRecDepth 100000 in
set_option maxHeartbeats 8000000 in
theorem law_3 (f : Nat → Int32) : XF (some (3, f)) 60 0 0 Qone (371, 18, [(3, .int 0), (2, .ref 94), (1, .ref 0), (0, .retAddr 0)], []) [] w_26 := by
  refine crun_ok (by decide) 7 (C := ((371, 18, [(3, .int 0), (2, .ref 94), (1, .ref 0), (0, .retAddr 0)], []), [], (sh_26, mI_26, mz64, mR_26))) (C' := ((371, 2225, [(3, .int 0), (2, .ref 94), (1, .ref 0), (0, .retAddr 0)], [.int 1]), [], (sh_26, mI_26, mz64, mR_26))) (k := 0) (n := 0) rfl (Nat.zero_le _) (Nat.zero_le _) ?_
  exact XF.fin (M := mr_371) (some (.int 1)) rfl rfl rfl (fun _ => rfl)
set_option maxRecDepth 100000 in
set_option maxHeartbeats 8000000 in
theorem law_4 (f : Nat → Int32) : XF (some (4, f)) 60 0 0 Qone (371, 18, [(3, .int 0), (2, .ref 94), (1, .ref 0), (0, .retAddr 0)], []) [] w_26 := by
  refine crun_ok (by decide) 7 (C := ((371, 18, [(3, .int 0), (2, .ref 94), (1, .ref 0), (0, .retAddr 0)], []), [], (sh_26, mI_26, mz64, mR_26))) (C' := ((371, 2225, [(3, .int 0), (2, .ref 94), (1, .ref 0), (0, .retAddr 0)], [.int 1]), [], (sh_26, mI_26, mz64, mR_26))) (k := 0) (n := 0) rfl (Nat.zero_le _) (Nat.zero_le _) ?_
  exact XF.fin (M := mr_371) (some (.int 1)) rfl rfl rfl (fun _ => rfl)
set_option maxRecDepth 100000 in
set_option maxHeartbeats 8000000 in
theorem law_5 (f : Nat → Int32) : XF (some (5, f)) 60 0 0 Qone (371, 18, [(3, .int 0), (2, .ref 94), (1, .ref 0), (0, .retAddr 0)], []) [] w_26 := by
  refine crun_ok (by decide) 7 (C := ((371, 18, [(3, .int 0), (2, .ref 94), (1, .ref 0), (0, .retAddr 0)], []), [], (sh_26, mI_26, mz64, mR_26))) (C' := ((371, 2225, [(3, .int 0), (2, .ref 94), (1, .ref 0), (0, .retAddr 0)], [.int 1]), [], (sh_26, mI_26, mz64, mR_26))) (k := 0) (n := 0) rfl (Nat.zero_le _) (Nat.zero_le _) ?_
  exact XF.fin (M := mr_371) (some (.int 1)) rfl rfl rfl (fun _ => rfl)
theorem law_any (L : Nat) (hL : L ≤ 6) (a0 a1 a2 a3 a4 a5 : Int32) : XF (some (L, fv a0 a1 a2 a3 a4 a5)) 60 170 48843 Qone (371, 0, [(0, .retAddr 0)], []) [] w_0 := by
  refine law_made _ _ ?_
  match L, hL with
  | 0, _ => exact law_0 _
  | 1, _ => exact law_1 _
  | 2, _ => exact law_2 _
  | 3, _ => exact law_3 _
  | 4, _ => exact law_4 _
  | 5, _ => exact law_5 _
  | 6, _ => exact law_6 _ _ _ _ _ _
  | L + 7, h => omega
