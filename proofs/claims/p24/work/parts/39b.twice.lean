/-! ===== isWord and nameOf of the model answer alike from one world; operand from 62 to 85 or 75 as one step (wip/gentwice.py) ===== -/
/-- method j, from av, gives b and leaves the world, wherever it is called -/
def Ans (N : Nat) (w : mW) (j : Nat) (l : mL) (pc : Nat) (b : Int32) : Prop := ∀ (dd : Nat) (Q : Option Value → mW → Prop) (jf pf : Nat) (lf : mL) (sf : List Value) (fs : List mFr), 41 ≤ dd → fs.length < N → XF none dd 0 0 Q (jf, pf, lf, .int b :: sf) fs w → XF none dd 0 0 Q (j, pc, l, []) ((jf, pf, lf, sf) :: fs) w
theorem isw_end {w : mW} {wd v : Int64} {k : Int32} : ∃ b, Ans 39 w 282 [(5, .int k), (3, .long v), (0, .ref 94), (1, .long wd)] 66 b := by
  by_cases c : bcmp .ne (lg_cmp v wd) 0 = true
  · refine ⟨0, fun dd Q jf pf lf sf fs hdd hfs K => ?_⟩
    refine XF.fam (pc := 66) (pc' := 67) (ls' := [(5, .int k), (3, .long v), (0, .ref 94), (1, .long wd)]) (st' := [.long v]) (w' := w) (M := mr_282) rfl (show mcode 282 66 = some (66, .lload_n 3, 1, 0, 0, 0, _) from rfl) (Or.inl ⟨.long v, rfl, rfl⟩) ?_
    refine XF.fam (pc := 67) (pc' := 68) (ls' := [(5, .int k), (3, .long v), (0, .ref 94), (1, .long wd)]) (st' := [.long wd, .long v]) (w' := w) (M := mr_282) rfl (show mcode 282 67 = some (67, .lload_n 1, 1, 0, 0, 0, _) from rfl) (Or.inl ⟨.long wd, rfl, rfl⟩) ?_
    refine XF.fam (pc := 68) (pc' := 69) (ls' := [(5, .int k), (3, .long v), (0, .ref 94), (1, .long wd)]) (st' := [.int (lg_cmp v wd)]) (w' := w) (M := mr_282) rfl (show mcode 282 68 = some (68, .lcmp, 1, 0, 0, 0, _) from rfl) (Or.inr (Or.inr (Or.inr (Or.inr (Or.inr (Or.inl ⟨_, rfl, rfl⟩)))))) ?_
    refine XF.fam (pc := 69) (pc' := 76) (ls' := [(5, .int k), (3, .long v), (0, .ref 94), (1, .long wd)]) (st' := []) (w' := w) (M := mr_282) rfl (show mcode 282 69 = some (69, .ifCond .ne 7, 3, 76, 0, 0, _) from rfl) (Or.inr (Or.inl ⟨76, [], by simp [brn, c], rfl⟩)) ?_
    refine XF.fam (pc := 76) (pc' := 77) (ls' := [(5, .int k), (3, .long v), (0, .ref 94), (1, .long wd)]) (st' := [.int 0]) (w' := w) (M := mr_282) rfl (show mcode 282 76 = some (76, .iconst 0, 1, 0, 0, 0, _) from rfl) (Or.inl ⟨.int 0, rfl, rfl⟩) ?_
    exact XF.retG (r := some (.int 0)) (M := mr_282) rfl (show mcode 282 77 = some (77, .ireturn, 1, 0, 0, 0, _) from rfl) rfl K
  · refine ⟨1, fun dd Q jf pf lf sf fs hdd hfs K => ?_⟩
    refine XF.fam (pc := 66) (pc' := 67) (ls' := [(5, .int k), (3, .long v), (0, .ref 94), (1, .long wd)]) (st' := [.long v]) (w' := w) (M := mr_282) rfl (show mcode 282 66 = some (66, .lload_n 3, 1, 0, 0, 0, _) from rfl) (Or.inl ⟨.long v, rfl, rfl⟩) ?_
    refine XF.fam (pc := 67) (pc' := 68) (ls' := [(5, .int k), (3, .long v), (0, .ref 94), (1, .long wd)]) (st' := [.long wd, .long v]) (w' := w) (M := mr_282) rfl (show mcode 282 67 = some (67, .lload_n 1, 1, 0, 0, 0, _) from rfl) (Or.inl ⟨.long wd, rfl, rfl⟩) ?_
    refine XF.fam (pc := 68) (pc' := 69) (ls' := [(5, .int k), (3, .long v), (0, .ref 94), (1, .long wd)]) (st' := [.int (lg_cmp v wd)]) (w' := w) (M := mr_282) rfl (show mcode 282 68 = some (68, .lcmp, 1, 0, 0, 0, _) from rfl) (Or.inr (Or.inr (Or.inr (Or.inr (Or.inr (Or.inl ⟨_, rfl, rfl⟩)))))) ?_
    refine XF.fam (pc := 69) (pc' := 72) (ls' := [(5, .int k), (3, .long v), (0, .ref 94), (1, .long wd)]) (st' := []) (w' := w) (M := mr_282) rfl (show mcode 282 69 = some (69, .ifCond .ne 7, 3, 76, 0, 0, _) from rfl) (Or.inr (Or.inl ⟨72, [], by simp [brn, c], rfl⟩)) ?_
    refine XF.fam (pc := 72) (pc' := 73) (ls' := [(5, .int k), (3, .long v), (0, .ref 94), (1, .long wd)]) (st' := [.int 1]) (w' := w) (M := mr_282) rfl (show mcode 282 72 = some (72, .iconst 1, 1, 0, 0, 0, _) from rfl) (Or.inl ⟨.int 1, rfl, rfl⟩) ?_
    refine XF.fam (pc := 73) (pc' := 77) (ls' := [(5, .int k), (3, .long v), (0, .ref 94), (1, .long wd)]) (st' := [.int 1]) (w' := w) (M := mr_282) rfl (show mcode 282 73 = some (73, .goto 4, 3, 77, 0, 0, _) from rfl) (Or.inr (Or.inl ⟨77, [.int 1], rfl, rfl⟩)) ?_
    exact XF.retG (r := some (.int 1)) (M := mr_282) rfl (show mcode 282 77 = some (77, .ireturn, 1, 0, 0, 0, _) from rfl) rfl K
theorem isw_loop {w : mW} {wd : Int64} {qt n : Nat} (w0 : w.1[94]? = some (.inr 12)) (r0 : w.2.2.2 94 33 = some qt) (w1 : w.1[qt]? = some (.inl (.byte, n))) (hu : (w.2.1 94 47).toInt ≤ n) :
    ∀ (m : Nat) (k : Int32) (v : Int64), 0 ≤ k.toInt → (w.2.1 94 47).toInt - k.toInt ≤ m → ∃ b, Ans 39 w 282 [(5, .int k), (3, .long v), (0, .ref 94), (1, .long wd)] 32 b := by
  intro m
  induction m with
  | zero => ?_
  | succ m ih => ?_
  all_goals
    intro k v hk hm
    by_cases c : bcmp .ge k (w.2.1 94 47) = true
    · obtain ⟨b, hb⟩ := isw_end (w := w) (wd := wd) (v := v) (k := k)
      refine ⟨b, fun dd Q jf pf lf sf fs hdd hfs K => ?_⟩
      refine XF.fam (pc := 32) (pc' := 34) (ls' := [(5, .int k), (3, .long v), (0, .ref 94), (1, .long wd)]) (st' := [.int k]) (w' := w) (M := mr_282) rfl (show mcode 282 32 = some (32, .iload 5, 2, 0, 0, 0, _) from rfl) (Or.inl ⟨.int k, rfl, rfl⟩) ?_
      refine XF.fam (pc := 34) (pc' := 35) (ls' := [(5, .int k), (3, .long v), (0, .ref 94), (1, .long wd)]) (st' := [.ref 94, .int k]) (w' := w) (M := mr_282) rfl (show mcode 282 34 = some (34, .aload_n 0, 1, 0, 0, 0, _) from rfl) (Or.inl ⟨.ref 94, rfl, rfl⟩) ?_
      refine XF.fam (pc := 35) (pc' := 38) (ls' := [(5, .int k), (3, .long v), (0, .ref 94), (1, .long wd)]) (st' := [.int (w.2.1 94 47), .int k]) (w' := w) (M := mr_282) rfl (show mcode 282 35 = some (35, .getfield 348, 3, 12, 47, 0, _) from rfl) (Or.inr (Or.inr (Or.inr (Or.inr (Or.inr (Or.inr (Or.inr (Or.inl ⟨_, _, rfl, fl_ldI w0 (by decide) (by decide), rfl⟩)))))))) ?_
      refine XF.fam (pc := 38) (pc' := 66) (ls' := [(5, .int k), (3, .long v), (0, .ref 94), (1, .long wd)]) (st' := []) (w' := w) (M := mr_282) rfl (show mcode 282 38 = some (38, .if_icmp .ge 28, 3, 66, 0, 0, _) from rfl) (Or.inr (Or.inl ⟨66, [], by simp [brn, c], rfl⟩)) ?_
      exact hb dd Q jf pf lf sf fs hdd hfs K
    have hlt : k.toInt < (w.2.1 94 47).toInt := by
      simp only [bcmp, decide_eq_true_eq, Int32.le_iff_toInt_le] at c
      omega
  · omega
  · have hin : inR k n = true := inR_of hk (by omega)
    have hb47 := i32b (w.2.1 94 47)
    have e1 : (k + Int32.ofInt 1).toInt = k.toInt + 1 := by
      rw [Int32.toInt_add]
      have e : (Int32.ofInt 1).toInt = 1 := rfl
      rw [e]
      unfold hi32 at hb47
      exact bm32 (by unfold lo32; omega) (by unfold hi32; omega)
    obtain ⟨b, hb⟩ := ih (k + Int32.ofInt 1) (27 * v + (w.2.1 qt k.toNatClampNeg).toInt64 - 96) (by omega) (by omega)
    refine ⟨b, fun dd Q jf pf lf sf fs hdd hfs K => ?_⟩
    refine XF.fam (pc := 32) (pc' := 34) (ls' := [(5, .int k), (3, .long v), (0, .ref 94), (1, .long wd)]) (st' := [.int k]) (w' := w) (M := mr_282) rfl (show mcode 282 32 = some (32, .iload 5, 2, 0, 0, 0, _) from rfl) (Or.inl ⟨.int k, rfl, rfl⟩) ?_
    refine XF.fam (pc := 34) (pc' := 35) (ls' := [(5, .int k), (3, .long v), (0, .ref 94), (1, .long wd)]) (st' := [.ref 94, .int k]) (w' := w) (M := mr_282) rfl (show mcode 282 34 = some (34, .aload_n 0, 1, 0, 0, 0, _) from rfl) (Or.inl ⟨.ref 94, rfl, rfl⟩) ?_
    refine XF.fam (pc := 35) (pc' := 38) (ls' := [(5, .int k), (3, .long v), (0, .ref 94), (1, .long wd)]) (st' := [.int (w.2.1 94 47), .int k]) (w' := w) (M := mr_282) rfl (show mcode 282 35 = some (35, .getfield 348, 3, 12, 47, 0, _) from rfl) (Or.inr (Or.inr (Or.inr (Or.inr (Or.inr (Or.inr (Or.inr (Or.inl ⟨_, _, rfl, fl_ldI w0 (by decide) (by decide), rfl⟩)))))))) ?_
    refine XF.fam (pc := 38) (pc' := 41) (ls' := [(5, .int k), (3, .long v), (0, .ref 94), (1, .long wd)]) (st' := []) (w' := w) (M := mr_282) rfl (show mcode 282 38 = some (38, .if_icmp .ge 28, 3, 66, 0, 0, _) from rfl) (Or.inr (Or.inl ⟨41, [], by simp [brn, c], rfl⟩)) ?_
    refine XF.fam (pc := 41) (pc' := 44) (ls' := [(5, .int k), (3, .long v), (0, .ref 94), (1, .long wd)]) (st' := [.long 27]) (w' := w) (M := mr_282) rfl (show mcode 282 41 = some (41, .ldc2_w 366, 3, 0, 0, 27, _) from rfl) (Or.inr (Or.inr (Or.inr (Or.inr (Or.inl ⟨.long 27, rfl, rfl⟩))))) ?_
    refine XF.fam (pc := 44) (pc' := 45) (ls' := [(5, .int k), (3, .long v), (0, .ref 94), (1, .long wd)]) (st' := [.long v, .long 27]) (w' := w) (M := mr_282) rfl (show mcode 282 44 = some (44, .lload_n 3, 1, 0, 0, 0, _) from rfl) (Or.inl ⟨.long v, rfl, rfl⟩) ?_
    refine XF.fam (pc := 45) (pc' := 46) (ls' := [(5, .int k), (3, .long v), (0, .ref 94), (1, .long wd)]) (st' := [.long (27 * v)]) (w' := w) (M := mr_282) rfl (show mcode 282 45 = some (45, .lmul, 1, 0, 0, 0, _) from rfl) (Or.inr (Or.inr (Or.inr (Or.inr (Or.inr (Or.inl ⟨_, rfl, rfl⟩)))))) ?_
    refine XF.fam (pc := 46) (pc' := 47) (ls' := [(5, .int k), (3, .long v), (0, .ref 94), (1, .long wd)]) (st' := [.ref 94, .long (27 * v)]) (w' := w) (M := mr_282) rfl (show mcode 282 46 = some (46, .aload_n 0, 1, 0, 0, 0, _) from rfl) (Or.inl ⟨.ref 94, rfl, rfl⟩) ?_
    refine XF.fam (pc := 47) (pc' := 50) (ls' := [(5, .int k), (3, .long v), (0, .ref 94), (1, .long wd)]) (st' := [.ref qt, .long (27 * v)]) (w' := w) (M := mr_282) rfl (show mcode 282 47 = some (47, .getfield 96, 3, 12, 33, 0, _) from rfl) (Or.inr (Or.inr (Or.inr (Or.inr (Or.inr (Or.inr (Or.inr (Or.inl ⟨_, _, rfl, fl_ld w0 r0 (by decide) (by decide), rfl⟩)))))))) ?_
    refine XF.fam (pc := 50) (pc' := 52) (ls' := [(5, .int k), (3, .long v), (0, .ref 94), (1, .long wd)]) (st' := [.int k, .ref qt, .long (27 * v)]) (w' := w) (M := mr_282) rfl (show mcode 282 50 = some (50, .iload 5, 2, 0, 0, 0, _) from rfl) (Or.inl ⟨.int k, rfl, rfl⟩) ?_
    refine XF.fam (pc := 52) (pc' := 53) (ls' := [(5, .int k), (3, .long v), (0, .ref 94), (1, .long wd)]) (st' := [.int (w.2.1 qt k.toNatClampNeg), .long (27 * v)]) (w' := w) (M := mr_282) rfl (show mcode 282 52 = some (52, .baload, 1, 0, 0, 0, _) from rfl) (Or.inr (Or.inr (Or.inl ⟨_, by simp [lda, w1, aok, hin], rfl⟩))) ?_
    refine XF.fam (pc := 53) (pc' := 54) (ls' := [(5, .int k), (3, .long v), (0, .ref 94), (1, .long wd)]) (st' := [.long (w.2.1 qt k.toNatClampNeg).toInt64, .long (27 * v)]) (w' := w) (M := mr_282) rfl (show mcode 282 53 = some (53, .i2l, 1, 0, 0, 0, _) from rfl) (Or.inr (Or.inr (Or.inr (Or.inr (Or.inr (Or.inl ⟨_, rfl, rfl⟩)))))) ?_
    refine XF.fam (pc := 54) (pc' := 55) (ls' := [(5, .int k), (3, .long v), (0, .ref 94), (1, .long wd)]) (st' := [.long (27 * v + (w.2.1 qt k.toNatClampNeg).toInt64)]) (w' := w) (M := mr_282) rfl (show mcode 282 54 = some (54, .ladd, 1, 0, 0, 0, _) from rfl) (Or.inr (Or.inr (Or.inr (Or.inr (Or.inr (Or.inl ⟨_, rfl, rfl⟩)))))) ?_
    refine XF.fam (pc := 55) (pc' := 58) (ls' := [(5, .int k), (3, .long v), (0, .ref 94), (1, .long wd)]) (st' := [.long 96, .long (27 * v + (w.2.1 qt k.toNatClampNeg).toInt64)]) (w' := w) (M := mr_282) rfl (show mcode 282 55 = some (55, .ldc2_w 368, 3, 0, 0, 96, _) from rfl) (Or.inr (Or.inr (Or.inr (Or.inr (Or.inl ⟨.long 96, rfl, rfl⟩))))) ?_
    refine XF.fam (pc := 58) (pc' := 59) (ls' := [(5, .int k), (3, .long v), (0, .ref 94), (1, .long wd)]) (st' := [.long (27 * v + (w.2.1 qt k.toNatClampNeg).toInt64 - 96)]) (w' := w) (M := mr_282) rfl (show mcode 282 58 = some (58, .lsub, 1, 0, 0, 0, _) from rfl) (Or.inr (Or.inr (Or.inr (Or.inr (Or.inr (Or.inl ⟨_, rfl, rfl⟩)))))) ?_
    refine XF.fam (pc := 59) (pc' := 60) (ls' := [(3, .long (27 * v + (w.2.1 qt k.toNatClampNeg).toInt64 - 96)), (5, .int k), (0, .ref 94), (1, .long wd)]) (st' := []) (w' := w) (M := mr_282) rfl (show mcode 282 59 = some (59, .lstore_n 3, 1, 0, 0, 0, _) from rfl) (Or.inr (Or.inr (Or.inr (Or.inr (Or.inr (Or.inr (Or.inl ⟨_, [], _, rfl, rfl, rfl⟩))))))) ?_
    refine XF.fam (pc := 60) (pc' := 63) (ls' := [(5, .int (k + Int32.ofInt 1)), (3, .long (27 * v + (w.2.1 qt k.toNatClampNeg).toInt64 - 96)), (0, .ref 94), (1, .long wd)]) (st' := []) (w' := w) (M := mr_282) rfl (show mcode 282 60 = some (60, .iinc 5 1, 3, 0, 0, 0, _) from rfl) (Or.inr (Or.inr (Or.inr (Or.inr (Or.inr (Or.inr (Or.inr (Or.inr (Or.inr ⟨5, 1, k, rfl, rfl, by decide, rfl⟩))))))))) ?_
    refine XF.fam (pc := 63) (pc' := 32) (ls' := [(5, .int (k + Int32.ofInt 1)), (3, .long (27 * v + (w.2.1 qt k.toNatClampNeg).toInt64 - 96)), (0, .ref 94), (1, .long wd)]) (st' := []) (w' := w) (M := mr_282) rfl (show mcode 282 63 = some (63, .goto (-31), 3, 32, 0, 0, _) from rfl) (Or.inr (Or.inl ⟨32, [], rfl, rfl⟩)) ?_
    exact hb dd Q jf pf lf sf fs hdd hfs K
theorem isw_ans {w : mW} {wd : Int64} {qt n : Nat} (w0 : w.1[94]? = some (.inr 12)) (r0 : w.2.2.2 94 33 = some qt) (w1 : w.1[qt]? = some (.inl (.byte, n))) (hf : 0 ≤ (w.2.1 94 46).toInt) (hu : (w.2.1 94 47).toInt ≤ n) : ∃ b : Int32, (b = 0 ∨ w.2.1 94 48 = 1) ∧ Ans 39 w 282 [(0, .ref 94), (1, .long wd)] 0 b := by
  by_cases c1 : bcmp .ne (w.2.1 94 48) 1 = true
  · refine ⟨0, Or.inl rfl, fun dd Q jf pf lf sf fs hdd hfs K => ?_⟩
    refine XF.fam (pc := 0) (pc' := 1) (ls' := [(0, .ref 94), (1, .long wd)]) (st' := [.ref 94]) (w' := w) (M := mr_282) rfl (show mcode 282 0 = some (0, .aload_n 0, 1, 0, 0, 0, _) from rfl) (Or.inl ⟨.ref 94, rfl, rfl⟩) ?_
    refine XF.fam (pc := 1) (pc' := 4) (ls' := [(0, .ref 94), (1, .long wd)]) (st' := [.int (w.2.1 94 48)]) (w' := w) (M := mr_282) rfl (show mcode 282 1 = some (1, .getfield 354, 3, 12, 48, 0, _) from rfl) (Or.inr (Or.inr (Or.inr (Or.inr (Or.inr (Or.inr (Or.inr (Or.inl ⟨_, _, rfl, fl_ldI w0 (by decide) (by decide), rfl⟩)))))))) ?_
    refine XF.fam (pc := 4) (pc' := 5) (ls' := [(0, .ref 94), (1, .long wd)]) (st' := [.int 1, .int (w.2.1 94 48)]) (w' := w) (M := mr_282) rfl (show mcode 282 4 = some (4, .iconst 1, 1, 0, 0, 0, _) from rfl) (Or.inl ⟨.int 1, rfl, rfl⟩) ?_
    refine XF.fam (pc := 5) (pc' := 22) (ls' := [(0, .ref 94), (1, .long wd)]) (st' := []) (w' := w) (M := mr_282) rfl (show mcode 282 5 = some (5, .if_icmp .ne 17, 3, 22, 0, 0, _) from rfl) (Or.inr (Or.inl ⟨22, [], by simp [brn, c1], rfl⟩)) ?_
    refine XF.fam (pc := 22) (pc' := 23) (ls' := [(0, .ref 94), (1, .long wd)]) (st' := [.int 0]) (w' := w) (M := mr_282) rfl (show mcode 282 22 = some (22, .iconst 0, 1, 0, 0, 0, _) from rfl) (Or.inl ⟨.int 0, rfl, rfl⟩) ?_
    exact XF.retG (r := some (.int 0)) (M := mr_282) rfl (show mcode 282 23 = some (23, .ireturn, 1, 0, 0, 0, _) from rfl) rfl K
  by_cases c2 : bcmp .le (w.2.1 94 47 - w.2.1 94 46) 12 = true
  · obtain ⟨b, hb⟩ := isw_loop (wd := wd) w0 r0 w1 hu ((w.2.1 94 47).toInt - (w.2.1 94 46).toInt).toNat (w.2.1 94 46) 0 hf (by omega)
    refine ⟨b, Or.inr (by simpa [bcmp] using c1), fun dd Q jf pf lf sf fs hdd hfs K => ?_⟩
    refine XF.fam (pc := 0) (pc' := 1) (ls' := [(0, .ref 94), (1, .long wd)]) (st' := [.ref 94]) (w' := w) (M := mr_282) rfl (show mcode 282 0 = some (0, .aload_n 0, 1, 0, 0, 0, _) from rfl) (Or.inl ⟨.ref 94, rfl, rfl⟩) ?_
    refine XF.fam (pc := 1) (pc' := 4) (ls' := [(0, .ref 94), (1, .long wd)]) (st' := [.int (w.2.1 94 48)]) (w' := w) (M := mr_282) rfl (show mcode 282 1 = some (1, .getfield 354, 3, 12, 48, 0, _) from rfl) (Or.inr (Or.inr (Or.inr (Or.inr (Or.inr (Or.inr (Or.inr (Or.inl ⟨_, _, rfl, fl_ldI w0 (by decide) (by decide), rfl⟩)))))))) ?_
    refine XF.fam (pc := 4) (pc' := 5) (ls' := [(0, .ref 94), (1, .long wd)]) (st' := [.int 1, .int (w.2.1 94 48)]) (w' := w) (M := mr_282) rfl (show mcode 282 4 = some (4, .iconst 1, 1, 0, 0, 0, _) from rfl) (Or.inl ⟨.int 1, rfl, rfl⟩) ?_
    refine XF.fam (pc := 5) (pc' := 8) (ls' := [(0, .ref 94), (1, .long wd)]) (st' := []) (w' := w) (M := mr_282) rfl (show mcode 282 5 = some (5, .if_icmp .ne 17, 3, 22, 0, 0, _) from rfl) (Or.inr (Or.inl ⟨8, [], by simp [brn, c1], rfl⟩)) ?_
    refine XF.fam (pc := 8) (pc' := 9) (ls' := [(0, .ref 94), (1, .long wd)]) (st' := [.ref 94]) (w' := w) (M := mr_282) rfl (show mcode 282 8 = some (8, .aload_n 0, 1, 0, 0, 0, _) from rfl) (Or.inl ⟨.ref 94, rfl, rfl⟩) ?_
    refine XF.fam (pc := 9) (pc' := 12) (ls' := [(0, .ref 94), (1, .long wd)]) (st' := [.int (w.2.1 94 47)]) (w' := w) (M := mr_282) rfl (show mcode 282 9 = some (9, .getfield 348, 3, 12, 47, 0, _) from rfl) (Or.inr (Or.inr (Or.inr (Or.inr (Or.inr (Or.inr (Or.inr (Or.inl ⟨_, _, rfl, fl_ldI w0 (by decide) (by decide), rfl⟩)))))))) ?_
    refine XF.fam (pc := 12) (pc' := 13) (ls' := [(0, .ref 94), (1, .long wd)]) (st' := [.ref 94, .int (w.2.1 94 47)]) (w' := w) (M := mr_282) rfl (show mcode 282 12 = some (12, .aload_n 0, 1, 0, 0, 0, _) from rfl) (Or.inl ⟨.ref 94, rfl, rfl⟩) ?_
    refine XF.fam (pc := 13) (pc' := 16) (ls' := [(0, .ref 94), (1, .long wd)]) (st' := [.int (w.2.1 94 46), .int (w.2.1 94 47)]) (w' := w) (M := mr_282) rfl (show mcode 282 13 = some (13, .getfield 351, 3, 12, 46, 0, _) from rfl) (Or.inr (Or.inr (Or.inr (Or.inr (Or.inr (Or.inr (Or.inr (Or.inl ⟨_, _, rfl, fl_ldI w0 (by decide) (by decide), rfl⟩)))))))) ?_
    refine XF.fam (pc := 16) (pc' := 17) (ls' := [(0, .ref 94), (1, .long wd)]) (st' := [.int (w.2.1 94 47 - w.2.1 94 46)]) (w' := w) (M := mr_282) rfl (show mcode 282 16 = some (16, .isub, 1, 0, 0, 0, _) from rfl) (Or.inr (Or.inr (Or.inr (Or.inr (Or.inr (Or.inl ⟨_, rfl, rfl⟩)))))) ?_
    refine XF.fam (pc := 17) (pc' := 19) (ls' := [(0, .ref 94), (1, .long wd)]) (st' := [.int 12, .int (w.2.1 94 47 - w.2.1 94 46)]) (w' := w) (M := mr_282) rfl (show mcode 282 17 = some (17, .bipush 12, 2, 0, 0, 0, _) from rfl) (Or.inl ⟨.int 12, rfl, rfl⟩) ?_
    refine XF.fam (pc := 19) (pc' := 24) (ls' := [(0, .ref 94), (1, .long wd)]) (st' := []) (w' := w) (M := mr_282) rfl (show mcode 282 19 = some (19, .if_icmp .le 5, 3, 24, 0, 0, _) from rfl) (Or.inr (Or.inl ⟨24, [], by simp [brn, c2], rfl⟩)) ?_
    refine XF.fam (pc := 24) (pc' := 25) (ls' := [(0, .ref 94), (1, .long wd)]) (st' := [.long 0]) (w' := w) (M := mr_282) rfl (show mcode 282 24 = some (24, .lconst 0, 1, 0, 0, 0, _) from rfl) (Or.inl ⟨.long 0, rfl, rfl⟩) ?_
    refine XF.fam (pc := 25) (pc' := 26) (ls' := [(3, .long 0), (0, .ref 94), (1, .long wd)]) (st' := []) (w' := w) (M := mr_282) rfl (show mcode 282 25 = some (25, .lstore_n 3, 1, 0, 0, 0, _) from rfl) (Or.inr (Or.inr (Or.inr (Or.inr (Or.inr (Or.inr (Or.inl ⟨_, [], _, rfl, rfl, rfl⟩))))))) ?_
    refine XF.fam (pc := 26) (pc' := 27) (ls' := [(3, .long 0), (0, .ref 94), (1, .long wd)]) (st' := [.ref 94]) (w' := w) (M := mr_282) rfl (show mcode 282 26 = some (26, .aload_n 0, 1, 0, 0, 0, _) from rfl) (Or.inl ⟨.ref 94, rfl, rfl⟩) ?_
    refine XF.fam (pc := 27) (pc' := 30) (ls' := [(3, .long 0), (0, .ref 94), (1, .long wd)]) (st' := [.int (w.2.1 94 46)]) (w' := w) (M := mr_282) rfl (show mcode 282 27 = some (27, .getfield 351, 3, 12, 46, 0, _) from rfl) (Or.inr (Or.inr (Or.inr (Or.inr (Or.inr (Or.inr (Or.inr (Or.inl ⟨_, _, rfl, fl_ldI w0 (by decide) (by decide), rfl⟩)))))))) ?_
    refine XF.fam (pc := 30) (pc' := 32) (ls' := [(5, .int (w.2.1 94 46)), (3, .long 0), (0, .ref 94), (1, .long wd)]) (st' := []) (w' := w) (M := mr_282) rfl (show mcode 282 30 = some (30, .istore 5, 2, 0, 0, 0, _) from rfl) (Or.inr (Or.inr (Or.inr (Or.inr (Or.inr (Or.inr (Or.inl ⟨_, [], _, rfl, rfl, rfl⟩))))))) ?_
    exact hb dd Q jf pf lf sf fs hdd hfs K
  · refine ⟨0, Or.inl rfl, fun dd Q jf pf lf sf fs hdd hfs K => ?_⟩
    refine XF.fam (pc := 0) (pc' := 1) (ls' := [(0, .ref 94), (1, .long wd)]) (st' := [.ref 94]) (w' := w) (M := mr_282) rfl (show mcode 282 0 = some (0, .aload_n 0, 1, 0, 0, 0, _) from rfl) (Or.inl ⟨.ref 94, rfl, rfl⟩) ?_
    refine XF.fam (pc := 1) (pc' := 4) (ls' := [(0, .ref 94), (1, .long wd)]) (st' := [.int (w.2.1 94 48)]) (w' := w) (M := mr_282) rfl (show mcode 282 1 = some (1, .getfield 354, 3, 12, 48, 0, _) from rfl) (Or.inr (Or.inr (Or.inr (Or.inr (Or.inr (Or.inr (Or.inr (Or.inl ⟨_, _, rfl, fl_ldI w0 (by decide) (by decide), rfl⟩)))))))) ?_
    refine XF.fam (pc := 4) (pc' := 5) (ls' := [(0, .ref 94), (1, .long wd)]) (st' := [.int 1, .int (w.2.1 94 48)]) (w' := w) (M := mr_282) rfl (show mcode 282 4 = some (4, .iconst 1, 1, 0, 0, 0, _) from rfl) (Or.inl ⟨.int 1, rfl, rfl⟩) ?_
    refine XF.fam (pc := 5) (pc' := 8) (ls' := [(0, .ref 94), (1, .long wd)]) (st' := []) (w' := w) (M := mr_282) rfl (show mcode 282 5 = some (5, .if_icmp .ne 17, 3, 22, 0, 0, _) from rfl) (Or.inr (Or.inl ⟨8, [], by simp [brn, c1], rfl⟩)) ?_
    refine XF.fam (pc := 8) (pc' := 9) (ls' := [(0, .ref 94), (1, .long wd)]) (st' := [.ref 94]) (w' := w) (M := mr_282) rfl (show mcode 282 8 = some (8, .aload_n 0, 1, 0, 0, 0, _) from rfl) (Or.inl ⟨.ref 94, rfl, rfl⟩) ?_
    refine XF.fam (pc := 9) (pc' := 12) (ls' := [(0, .ref 94), (1, .long wd)]) (st' := [.int (w.2.1 94 47)]) (w' := w) (M := mr_282) rfl (show mcode 282 9 = some (9, .getfield 348, 3, 12, 47, 0, _) from rfl) (Or.inr (Or.inr (Or.inr (Or.inr (Or.inr (Or.inr (Or.inr (Or.inl ⟨_, _, rfl, fl_ldI w0 (by decide) (by decide), rfl⟩)))))))) ?_
    refine XF.fam (pc := 12) (pc' := 13) (ls' := [(0, .ref 94), (1, .long wd)]) (st' := [.ref 94, .int (w.2.1 94 47)]) (w' := w) (M := mr_282) rfl (show mcode 282 12 = some (12, .aload_n 0, 1, 0, 0, 0, _) from rfl) (Or.inl ⟨.ref 94, rfl, rfl⟩) ?_
    refine XF.fam (pc := 13) (pc' := 16) (ls' := [(0, .ref 94), (1, .long wd)]) (st' := [.int (w.2.1 94 46), .int (w.2.1 94 47)]) (w' := w) (M := mr_282) rfl (show mcode 282 13 = some (13, .getfield 351, 3, 12, 46, 0, _) from rfl) (Or.inr (Or.inr (Or.inr (Or.inr (Or.inr (Or.inr (Or.inr (Or.inl ⟨_, _, rfl, fl_ldI w0 (by decide) (by decide), rfl⟩)))))))) ?_
    refine XF.fam (pc := 16) (pc' := 17) (ls' := [(0, .ref 94), (1, .long wd)]) (st' := [.int (w.2.1 94 47 - w.2.1 94 46)]) (w' := w) (M := mr_282) rfl (show mcode 282 16 = some (16, .isub, 1, 0, 0, 0, _) from rfl) (Or.inr (Or.inr (Or.inr (Or.inr (Or.inr (Or.inl ⟨_, rfl, rfl⟩)))))) ?_
    refine XF.fam (pc := 17) (pc' := 19) (ls' := [(0, .ref 94), (1, .long wd)]) (st' := [.int 12, .int (w.2.1 94 47 - w.2.1 94 46)]) (w' := w) (M := mr_282) rfl (show mcode 282 17 = some (17, .bipush 12, 2, 0, 0, 0, _) from rfl) (Or.inl ⟨.int 12, rfl, rfl⟩) ?_
    refine XF.fam (pc := 19) (pc' := 22) (ls' := [(0, .ref 94), (1, .long wd)]) (st' := []) (w' := w) (M := mr_282) rfl (show mcode 282 19 = some (19, .if_icmp .le 5, 3, 24, 0, 0, _) from rfl) (Or.inr (Or.inl ⟨22, [], by simp [brn, c2], rfl⟩)) ?_
    refine XF.fam (pc := 22) (pc' := 23) (ls' := [(0, .ref 94), (1, .long wd)]) (st' := [.int 0]) (w' := w) (M := mr_282) rfl (show mcode 282 22 = some (22, .iconst 0, 1, 0, 0, 0, _) from rfl) (Or.inl ⟨.int 0, rfl, rfl⟩) ?_
    exact XF.retG (r := some (.int 0)) (M := mr_282) rfl (show mcode 282 23 = some (23, .ireturn, 1, 0, 0, 0, _) from rfl) rfl K
theorem nam_loop {w : mW} {qt n : Nat} (w0 : w.1[94]? = some (.inr 12)) (r0 : w.2.2.2 94 33 = some qt) (w1 : w.1[qt]? = some (.inl (.byte, n))) (hf : 0 ≤ (w.2.1 94 46).toInt) (hu : (w.2.1 94 47).toInt ≤ n) :
    ∀ (m k : Nat), k + m = 10 → ∃ b : Int32, (-1 ≤ b.toInt ∧ b.toInt ≤ 9) ∧ (0 ≤ b.toInt → w.2.1 94 48 = 1) ∧ Ans 38 w 290 [(1, .int (nI k)), (0, .ref 94)] 2 b := by
  intro m
  induction m with
  | zero =>
    intro k hk
    obtain rfl : k = 10 := by omega
    refine ⟨-1, by decide, fun h => absurd h (by decide), fun dd Q jf pf lf sf fs hdd hfs K => ?_⟩
    have c : bcmp .ge (nI 10) 10 = true := by decide
    refine XF.fam (pc := 2) (pc' := 3) (ls' := [(1, .int (nI 10)), (0, .ref 94)]) (st' := [.int (nI 10)]) (w' := w) (M := mr_290) rfl (show mcode 290 2 = some (2, .iload_n 1, 1, 0, 0, 0, _) from rfl) (Or.inl ⟨.int (nI 10), rfl, rfl⟩) ?_
    refine XF.fam (pc := 3) (pc' := 5) (ls' := [(1, .int (nI 10)), (0, .ref 94)]) (st' := [.int 10, .int (nI 10)]) (w' := w) (M := mr_290) rfl (show mcode 290 3 = some (3, .bipush 10, 2, 0, 0, 0, _) from rfl) (Or.inl ⟨.int 10, rfl, rfl⟩) ?_
    refine XF.fam (pc := 5) (pc' := 28) (ls' := [(1, .int (nI 10)), (0, .ref 94)]) (st' := []) (w' := w) (M := mr_290) rfl (show mcode 290 5 = some (5, .if_icmp .ge 23, 3, 28, 0, 0, _) from rfl) (Or.inr (Or.inl ⟨28, [], by simp [brn, c], rfl⟩)) ?_
    refine XF.fam (pc := 28) (pc' := 29) (ls' := [(1, .int (nI 10)), (0, .ref 94)]) (st' := [.int (-1)]) (w' := w) (M := mr_290) rfl (show mcode 290 28 = some (28, .iconst (-1), 1, 0, 0, 0, _) from rfl) (Or.inl ⟨.int (-1), rfl, rfl⟩) ?_
    exact XF.retG (r := some (.int (-1))) (M := mr_290) rfl (show mcode 290 29 = some (29, .ireturn, 1, 0, 0, 0, _) from rfl) rfl K
  | succ m ih =>
    intro k hk
    have ek : (nI k).toInt = k := nI_toInt (by omega)
    have c : bcmp .ge (nI k) 10 = false := by
      simp only [bcmp, decide_eq_false_iff_not, Int32.le_iff_toInt_le]
      have : (10 : Int32).toInt = 10 := rfl
      omega
    have hin : inR (nI k) 10 = true := inR_of (by omega) (by omega)
    obtain ⟨b, htk, hb⟩ := isw_ans (wd := fNAM (nI k).toNatClampNeg) w0 r0 w1 hf hu
    have pre : ∀ (dd : Nat) (Q : Option Value → mW → Prop) (jf pf : Nat) (lf : mL) (sf : List Value) (fs : List mFr), 41 ≤ dd → fs.length < 38 → XF none dd 0 0 Q (290, 17, [(1, .int (nI k)), (0, .ref 94)], [.int b]) ((jf, pf, lf, sf) :: fs) w → XF none dd 0 0 Q (290, 2, [(1, .int (nI k)), (0, .ref 94)], []) ((jf, pf, lf, sf) :: fs) w := by
      intro dd Q jf pf lf sf fs hdd hfs K
      refine XF.fam (pc := 2) (pc' := 3) (ls' := [(1, .int (nI k)), (0, .ref 94)]) (st' := [.int (nI k)]) (w' := w) (M := mr_290) rfl (show mcode 290 2 = some (2, .iload_n 1, 1, 0, 0, 0, _) from rfl) (Or.inl ⟨.int (nI k), rfl, rfl⟩) ?_
      refine XF.fam (pc := 3) (pc' := 5) (ls' := [(1, .int (nI k)), (0, .ref 94)]) (st' := [.int 10, .int (nI k)]) (w' := w) (M := mr_290) rfl (show mcode 290 3 = some (3, .bipush 10, 2, 0, 0, 0, _) from rfl) (Or.inl ⟨.int 10, rfl, rfl⟩) ?_
      refine XF.fam (pc := 5) (pc' := 8) (ls' := [(1, .int (nI k)), (0, .ref 94)]) (st' := []) (w' := w) (M := mr_290) rfl (show mcode 290 5 = some (5, .if_icmp .ge 23, 3, 28, 0, 0, _) from rfl) (Or.inr (Or.inl ⟨8, [], by simp [brn, c], rfl⟩)) ?_
      refine XF.fam (pc := 8) (pc' := 9) (ls' := [(1, .int (nI k)), (0, .ref 94)]) (st' := [.ref 94]) (w' := w) (M := mr_290) rfl (show mcode 290 8 = some (8, .aload_n 0, 1, 0, 0, 0, _) from rfl) (Or.inl ⟨.ref 94, rfl, rfl⟩) ?_
      refine XF.tb (e := 14) (l' := [(1, .int (nI k)), (0, .ref 94)]) (st' := [.long (fNAM (nI k).toNatClampNeg), .ref 94]) (fun M' d mc ms Q hM' K' => ?_) ?_
      · obtain rfl : M' = mr_290 := Option.some.inj (hM'.symm.trans rfl)
        exact XW.nam rfl hin K'
      refine XF.callI (av := [.ref 94, .long (fNAM (nI k).toNatClampNeg)]) (rest := []) hdd (by simp only [List.length_cons]; omega) (M := mr_290) (Ma := mr_282) rfl (show mcode 290 14 = some (14, .invokevirtual 391, 3, 282, 0, 0, _) from rfl) rfl (by decide) (by decide) ?_ rfl rfl (by decide) (show 3 ≤ mr_282.2.2.2.1 by decide) ?_
      · simp only [ckb, w0]
        decide
      exact hb dd Q 290 17 _ [] _ hdd (by simp only [List.length_cons]; omega) K
    by_cases c2 : bcmp .eq b 0 = true
    · obtain ⟨b', hb1, hb3, hb2⟩ := ih (k + 1) (by omega)
      refine ⟨b', hb1, hb3, fun dd Q jf pf lf sf fs hdd hfs K => pre dd Q jf pf lf sf fs hdd hfs ?_⟩
      refine XF.fam (pc := 17) (pc' := 22) (ls' := [(1, .int (nI k)), (0, .ref 94)]) (st' := []) (w' := w) (M := mr_290) rfl (show mcode 290 17 = some (17, .ifCond .eq 5, 3, 22, 0, 0, _) from rfl) (Or.inr (Or.inl ⟨22, [], by simp [brn, c2], rfl⟩)) ?_
      refine XF.fam (pc := 22) (pc' := 25) (ls' := [(1, .int (nI k + Int32.ofInt 1)), (0, .ref 94)]) (st' := []) (w' := w) (M := mr_290) rfl (show mcode 290 22 = some (22, .iinc 1 1, 3, 0, 0, 0, _) from rfl) (Or.inr (Or.inr (Or.inr (Or.inr (Or.inr (Or.inr (Or.inr (Or.inr (Or.inr ⟨1, 1, nI k, rfl, rfl, by decide, rfl⟩))))))))) ?_
      refine XF.fam (pc := 25) (pc' := 2) (ls' := [(1, .int (nI k + Int32.ofInt 1)), (0, .ref 94)]) (st' := []) (w' := w) (M := mr_290) rfl (show mcode 290 25 = some (25, .goto (-23), 3, 2, 0, 0, _) from rfl) (Or.inr (Or.inl ⟨2, [], rfl, rfl⟩)) ?_
      have es : nI k + Int32.ofInt 1 = nI (k + 1) := (nI_succ k).symm
      rw [es]
      exact hb2 dd Q jf pf lf sf fs hdd hfs K
    · refine ⟨nI k, by omega, fun _ => htk.elim (fun e => absurd (by rw [e]; rfl) c2) id, fun dd Q jf pf lf sf fs hdd hfs K => pre dd Q jf pf lf sf fs hdd hfs ?_⟩
      refine XF.fam (pc := 17) (pc' := 20) (ls' := [(1, .int (nI k)), (0, .ref 94)]) (st' := []) (w' := w) (M := mr_290) rfl (show mcode 290 17 = some (17, .ifCond .eq 5, 3, 22, 0, 0, _) from rfl) (Or.inr (Or.inl ⟨20, [], by simp [brn, c2], rfl⟩)) ?_
      refine XF.fam (pc := 20) (pc' := 21) (ls' := [(1, .int (nI k)), (0, .ref 94)]) (st' := [.int (nI k)]) (w' := w) (M := mr_290) rfl (show mcode 290 20 = some (20, .iload_n 1, 1, 0, 0, 0, _) from rfl) (Or.inl ⟨.int (nI k), rfl, rfl⟩) ?_
      exact XF.retG (r := some (.int (nI k))) (M := mr_290) rfl (show mcode 290 21 = some (21, .ireturn, 1, 0, 0, 0, _) from rfl) rfl K
theorem nam_ans {w : mW} {qt n : Nat} (w0 : w.1[94]? = some (.inr 12)) (r0 : w.2.2.2 94 33 = some qt) (w1 : w.1[qt]? = some (.inl (.byte, n))) (hf : 0 ≤ (w.2.1 94 46).toInt) (hu : (w.2.1 94 47).toInt ≤ n) : ∃ b : Int32, (-1 ≤ b.toInt ∧ b.toInt ≤ 9) ∧ (0 ≤ b.toInt → w.2.1 94 48 = 1) ∧ Ans 38 w 290 [(0, .ref 94)] 0 b := by
  obtain ⟨b, h1, h3, h2⟩ := nam_loop w0 r0 w1 hf hu 10 0 rfl
  refine ⟨b, h1, h3, fun dd Q jf pf lf sf fs hdd hfs K => ?_⟩
  refine XF.fam (pc := 0) (pc' := 1) (ls' := [(0, .ref 94)]) (st' := [.int 0]) (w' := w) (M := mr_290) rfl (show mcode 290 0 = some (0, .iconst 0, 1, 0, 0, 0, _) from rfl) (Or.inl ⟨.int 0, rfl, rfl⟩) ?_
  refine XF.fam (pc := 1) (pc' := 2) (ls' := [(1, .int (nI 0)), (0, .ref 94)]) (st' := []) (w' := w) (M := mr_290) rfl (show mcode 290 1 = some (1, .istore_n 1, 1, 0, 0, 0, _) from rfl) (Or.inr (Or.inr (Or.inr (Or.inr (Or.inr (Or.inr (Or.inl ⟨_, [], _, rfl, rfl, rfl⟩))))))) ?_
  exact h2 dd Q jf pf lf sf fs hdd hfs K
theorem XF.twc {dd : Nat} {Q : Option Value → mW → Prop} {l : mL} {s : List Value} {fs : List mFr} {w : mW} {qt n : Nat} (hdd : 41 ≤ dd) (hfs : fs.length < 38) (h0 : lkp l 0 = some (.ref 94)) (hcat : (s.map fun v => v.category).sum ≤ 4) (w0 : w.1[94]? = some (.inr 12)) (r0 : w.2.2.2 94 33 = some qt) (w1 : w.1[qt]? = some (.inl (.byte, n))) (hf : 0 ≤ (w.2.1 94 46).toInt) (hu : (w.2.1 94 47).toInt ≤ n)
    (K1 : XF none dd 0 0 Q (286, 85, l, s) fs w) (K2 : ∀ b : Int32, 0 ≤ b.toInt → b.toInt ≤ 9 → w.2.1 94 48 = 1 → XF none dd 0 0 Q (286, 75, l, .int b :: .int 2 :: .ref 94 :: s) fs w) : XF none dd 0 0 Q (286, 62, l, s) fs w := by
  obtain ⟨b, h1, h3, hb⟩ := nam_ans w0 r0 w1 hf hu
  refine XF.fam (pc := 62) (pc' := 63) (ls' := l) (st' := .ref 94 :: s) (w' := w) (M := mr_286) rfl (show mcode 286 62 = some (62, .aload_n 0, 1, 0, 0, 0, _) from rfl) (Or.inl ⟨.ref 94, al0 h0, rfl⟩) ?_
  refine XF.callI (av := [.ref 94]) (rest := s) hdd (by omega) (M := mr_286) (Ma := mr_290) rfl (show mcode 286 63 = some (63, .invokevirtual 409, 3, 290, 0, 0, _) from rfl) rfl (by decide) (by decide) (by simp only [ckb, w0]; decide) rfl rfl ?_ (by decide) ?_
  · omega
  refine hb dd Q 286 66 l s fs hdd hfs ?_
  by_cases c : bcmp .lt b 0 = true
  · refine XF.fam (pc := 66) (pc' := 85) (ls' := l) (st' := s) (w' := w) (M := mr_286) rfl (show mcode 286 66 = some (66, .ifCond .lt 19, 3, 85, 0, 0, _) from rfl) (Or.inr (Or.inl ⟨85, s, by simp [brn, c], rfl⟩)) K1
  refine XF.fam (pc := 66) (pc' := 69) (ls' := l) (st' := s) (w' := w) (M := mr_286) rfl (show mcode 286 66 = some (66, .ifCond .lt 19, 3, 85, 0, 0, _) from rfl) (Or.inr (Or.inl ⟨69, s, by simp [brn, c], rfl⟩)) ?_
  refine XF.fam (pc := 69) (pc' := 70) (ls' := l) (st' := .ref 94 :: s) (w' := w) (M := mr_286) rfl (show mcode 286 69 = some (69, .aload_n 0, 1, 0, 0, 0, _) from rfl) (Or.inl ⟨.ref 94, al0 h0, rfl⟩) ?_
  refine XF.fam (pc := 70) (pc' := 71) (ls' := l) (st' := .int 2 :: .ref 94 :: s) (w' := w) (M := mr_286) rfl (show mcode 286 70 = some (70, .iconst 2, 1, 0, 0, 0, _) from rfl) (Or.inl ⟨.int 2, rfl, rfl⟩) ?_
  refine XF.fam (pc := 71) (pc' := 72) (ls' := l) (st' := .ref 94 :: .int 2 :: .ref 94 :: s) (w' := w) (M := mr_286) rfl (show mcode 286 71 = some (71, .aload_n 0, 1, 0, 0, 0, _) from rfl) (Or.inl ⟨.ref 94, al0 h0, rfl⟩) ?_
  refine XF.callI (av := [.ref 94]) (rest := .int 2 :: .ref 94 :: s) hdd (by omega) (M := mr_286) (Ma := mr_290) rfl (show mcode 286 72 = some (72, .invokevirtual 409, 3, 290, 0, 0, _) from rfl) rfl (by decide) (by decide) (by simp only [ckb, w0]; decide) rfl rfl ?_ (by decide) ?_
  · have e2 : ((.int 2 :: .ref 94 :: s : List Value).map fun v => v.category).sum = 1 + (1 + (s.map fun v => v.category).sum) := rfl
    omega
  have hb0 : 0 ≤ b.toInt := by
    simp only [bcmp, decide_eq_true_eq, Int32.lt_iff_toInt_lt] at c
    have hz : (0 : Int32).toInt = 0 := rfl
    omega
  exact hb dd Q 286 75 l _ fs hdd hfs (K2 b hb0 h1.2 (h3 hb0))
def tokF (P : aP) : List aI := match plk P 94 (nK 48) with
  | some t => [nsb t (nK 1)]
  | none => []
theorem tokF_ok {n : Nat} {rho : Nat → Int} {P : aP} {I : Nat → Nat → Int32} (hP : pOK n rho P I) (h : I 94 48 = 1) : cOK n rho (tokF P) := by
  intro f hf
  unfold tokF at hf
  split at hf
  · next t ht =>
    rcases List.mem_singleton.mp hf with rfl
    obtain ⟨h1, h2⟩ := plk_K (k := 48) hP ht
    refine ⟨nb_sb h1 nb_K, ?_⟩
    rw [fvl_sb, fvl_K, h2, h]
    decide
  · cases hf
def spY (T : aT) (dd : Nat) (A : aS) : Option (List aS) := match A with
  | ((j, pc, ls, st), fs, B, P, F, G) => bif Nat.beq j 286 && Nat.beq pc 62 then (match alk ls 0, T.1 94, T.2.1 94 33 with
    | some (.inr (some 94)), some (.inr 12), some qt => (match T.1 qt with
      | some (.inl (.byte, n)) => bif (Nat.ble 41 dd && Nat.ble (fs.length + 1) 38) && (Nat.ble (catS st) 4 && (ile 0 (rg T 94 46).1 && ile (rg T 94 47).2 n)) then some [((286, 85, ls, st), fs, B, P, F, G), ((286, 75, ls, .inl (nV B.1) :: .inl (nK 2) :: .inr (some 94) :: st), fs, rfF (B.1 + 1, (B.1, 0, 9) :: B.2) (tokF P), P, derF (rfF (B.1 + 1, (B.1, 0, 9) :: B.2) (tokF P)) F ++ F, G)] else none
      | _ => none)
    | _, _, _ => none) else none
theorem spY_ok {T : aT} {E : mW → Prop} {md : aM} {Z : aZ} {av : List Value} {I0 : Nat → Nat → Int32} {dd dd' : Nat} (hdd : dd' = dd) {A : aS} {As : List aS} (h : spY T dd' A = some As) : Snd T E md Z av I0 dd A As := by
  subst hdd
  obtain ⟨⟨j, pc, ls, st⟩, fs, B, P, F, G⟩ := A
  intro rho C hS K
  obtain ⟨⟨j', pc', l, s⟩, gs, w⟩ := C
  obtain ⟨⟨e1, e2, hl, hs⟩, hfs, hB, hP, hF, hG, hw, hI⟩ := hS
  dsimp only at e1 e2 hl hs hfs hB hP hF hG hw hI K ⊢
  subst e1 e2
  unfold spY at h
  dsimp only at h
  obtain ⟨hb, h9⟩ := bif_o h
  clear h
  rw [Bool.and_eq_true] at hb
  have ej := Nat.eq_of_beq_eq_true hb.1
  have ep := Nat.eq_of_beq_eq_true hb.2
  subst ej ep
  split at h9
  · next qt q0 q1 q2 =>
    split at h9
    · next n q3 =>
      obtain ⟨g, h8⟩ := bif_o h9
      cases h8
      simp only [Bool.and_eq_true, ile_iff] at g
      obtain ⟨⟨g1, g2⟩, g3, g4, g5⟩ := g
      obtain ⟨v0, k0, e0⟩ := hl 0 _ (alk_mem q0)
      obtain rfl : v0 = .ref 94 := e0
      refine XF.twc (Nat.le_of_ble_eq_true g1) (by rw [← hfs.len]; exact Nat.le_of_ble_eq_true g2) k0 (by rw [hs.cats]; exact Nat.le_of_ble_eq_true g3) (hw.1 _ _ q1) (hw.2.1 _ _ _ q2) (hw.1 _ _ q3) (Int.le_trans g4 (hw.2.2.1 94 46).1) (Int.le_trans (hw.2.2.1 94 47).2 g5) ?_ (fun v hv0 hv1 htk => ?_)
      · exact K _ List.mem_cons_self rho ((286, 85, l, s), gs, w) (agr.refl _ _) ⟨⟨rfl, rfl, hl, hs⟩, hfs, hB, hP, hF, hG, hw, hI⟩
      · have ha : agr B.1 rho (fun x => if x = B.1 then v.toInt else rho x) := fun x hx => by
          show (if x = B.1 then v.toInt else rho x) = rho x
          rw [if_neg (by omega)]
        have hbv := i32b v
        have hB' : bOK (B.1 + 1, (B.1, 0, 9) :: B.2) (fun x => if x = B.1 then v.toInt else rho x) := by
          refine ⟨fun x hx => ?_, fun e he => ?_⟩
          · dsimp only
            split
            · exact hbv
            · exact hB.1 x (by dsimp only at hx; omega)
          · rcases List.mem_cons.mp he with rfl | he
            · dsimp only
              rw [if_pos rfl]
              omega
            · obtain ⟨b1, b2, b3⟩ := hB.2 e he
              dsimp only
              rw [if_neg (by omega)]
              exact ⟨by omega, b2, b3⟩
        have hle : B.1 ≤ B.1 + 1 := by omega
        have ht1 := (tokF_ok hP htk).mono hle ha
        obtain ⟨hB2, en⟩ := rfF_ok hB' ht1
        have hF2 := hF.mono hle ha
        generalize rfF (B.1 + 1, (B.1, 0, 9) :: B.2) (tokF P) = B2 at hB2 en K ⊢
        dsimp only at en
        refine K _ (List.mem_cons_of_mem _ (List.mem_singleton_self _)) (fun x => if x = B.1 then v.toInt else rho x) ((286, 75, l, .int v :: .int 2 :: .ref 94 :: s), gs, w) ha ⟨⟨rfl, rfl, hl.mono (by rw [en]; exact hle) ha, ⟨nb_V (by dsimp only; omega), v, rfl, ?_⟩, ⟨nb_K, 2, rfl, by rw [fvl_K]; rfl⟩, rfl, hs.mono (by rw [en]; exact hle) ha⟩, hfs.mono (by rw [en]; exact hle) ha, hB2, hP.mono (by rw [en]; exact hle) ha, fun f hf => (List.mem_append.mp hf).elim (fun q => derF_ok hB2 (by rw [en]; exact hF2) f q) (fun q => by rw [en]; exact hF2 f q), hG.mono (by rw [en]; exact hle) ha, hw, hI⟩
        rw [fvl_V]
        show v.toInt = if B.1 = B.1 then v.toInt else _
        rw [if_pos rfl]
    · cases h9
  · cases h9
