/-! ===== Math.min, Math.max and Arrays.copyOf by hand (wip/gencopy.py) ===== -/
theorem tc_min {d : Nat} {w : mW} {a b : Int32} : Tc 21 d 0 0 [.int a, .int b] w (fun r w' => r = some (.int (if b < a then b else a)) ∧ w' = w) := by
  refine Tc.of mr_21 rfl (show 2 ≤ mr_21.2.2.2.1 by decide) ?_
  refine XW.fam (S' := (1, [(0, .int a), (1, .int b)], [.int a], w)) (M := mr_21) rfl (show mcode 21 0 = some (0, .iload_n 0, 1, 0, 0, 0, _) from rfl) (Or.inl ⟨.int a, rfl, rfl⟩) ?_
  refine XW.fam (S' := (2, [(0, .int a), (1, .int b)], [.int b, .int a], w)) (M := mr_21) rfl (show mcode 21 1 = some (1, .iload_n 1, 1, 0, 0, 0, _) from rfl) (Or.inl ⟨.int b, rfl, rfl⟩) ?_
  by_cases c : bcmp .gt a b = true
  · have e : (if b < a then b else a) = b := if_pos (by simpa [bcmp] using c)
    refine XW.fam (S' := (9, [(0, .int a), (1, .int b)], [], w)) (M := mr_21) rfl (show mcode 21 2 = some (2, .if_icmp .gt 7, 3, 9, 0, 0, _) from rfl) (Or.inr (Or.inl ⟨9, [], by simp [brn, c], rfl⟩)) ?_
    refine XW.fam (S' := (10, [(0, .int a), (1, .int b)], [.int b], w)) (M := mr_21) rfl (show mcode 21 9 = some (9, .iload_n 1, 1, 0, 0, 0, _) from rfl) (Or.inl ⟨.int b, rfl, rfl⟩) ?_
    exact XW.ret (r := some (.int b)) ⟨⟨.int, rfl, rfl⟩, by decide +kernel⟩ ⟨by rw [e], rfl⟩
  · have e : (if b < a then b else a) = a := if_neg (fun q => c (by simpa [bcmp] using q))
    refine XW.fam (S' := (5, [(0, .int a), (1, .int b)], [], w)) (M := mr_21) rfl (show mcode 21 2 = some (2, .if_icmp .gt 7, 3, 9, 0, 0, _) from rfl) (Or.inr (Or.inl ⟨5, [], by simp [brn, c], rfl⟩)) ?_
    refine XW.fam (S' := (6, [(0, .int a), (1, .int b)], [.int a], w)) (M := mr_21) rfl (show mcode 21 5 = some (5, .iload_n 0, 1, 0, 0, 0, _) from rfl) (Or.inl ⟨.int a, rfl, rfl⟩) ?_
    refine XW.fam (S' := (10, [(0, .int a), (1, .int b)], [.int a], w)) (M := mr_21) rfl (show mcode 21 6 = some (6, .goto 4, 3, 10, 0, 0, _) from rfl) (Or.inr (Or.inl ⟨10, [.int a], rfl, rfl⟩)) ?_
    exact XW.ret (r := some (.int a)) ⟨⟨.int, rfl, rfl⟩, by decide +kernel⟩ ⟨by rw [e], rfl⟩
theorem tc_max {d : Nat} {w : mW} {a b : Int32} : Tc 22 d 0 0 [.int a, .int b] w (fun r w' => r = some (.int (if a < b then b else a)) ∧ w' = w) := by
  refine Tc.of mr_22 rfl (show 2 ≤ mr_22.2.2.2.1 by decide) ?_
  refine XW.fam (S' := (1, [(0, .int a), (1, .int b)], [.int a], w)) (M := mr_22) rfl (show mcode 22 0 = some (0, .iload_n 0, 1, 0, 0, 0, _) from rfl) (Or.inl ⟨.int a, rfl, rfl⟩) ?_
  refine XW.fam (S' := (2, [(0, .int a), (1, .int b)], [.int b, .int a], w)) (M := mr_22) rfl (show mcode 22 1 = some (1, .iload_n 1, 1, 0, 0, 0, _) from rfl) (Or.inl ⟨.int b, rfl, rfl⟩) ?_
  by_cases c : bcmp .lt a b = true
  · have e : (if a < b then b else a) = b := if_pos (by simpa [bcmp] using c)
    refine XW.fam (S' := (9, [(0, .int a), (1, .int b)], [], w)) (M := mr_22) rfl (show mcode 22 2 = some (2, .if_icmp .lt 7, 3, 9, 0, 0, _) from rfl) (Or.inr (Or.inl ⟨9, [], by simp [brn, c], rfl⟩)) ?_
    refine XW.fam (S' := (10, [(0, .int a), (1, .int b)], [.int b], w)) (M := mr_22) rfl (show mcode 22 9 = some (9, .iload_n 1, 1, 0, 0, 0, _) from rfl) (Or.inl ⟨.int b, rfl, rfl⟩) ?_
    exact XW.ret (r := some (.int b)) ⟨⟨.int, rfl, rfl⟩, by decide +kernel⟩ ⟨by rw [e], rfl⟩
  · have e : (if a < b then b else a) = a := if_neg (fun q => c (by simpa [bcmp] using q))
    refine XW.fam (S' := (5, [(0, .int a), (1, .int b)], [], w)) (M := mr_22) rfl (show mcode 22 2 = some (2, .if_icmp .lt 7, 3, 9, 0, 0, _) from rfl) (Or.inr (Or.inl ⟨5, [], by simp [brn, c], rfl⟩)) ?_
    refine XW.fam (S' := (6, [(0, .int a), (1, .int b)], [.int a], w)) (M := mr_22) rfl (show mcode 22 5 = some (5, .iload_n 0, 1, 0, 0, 0, _) from rfl) (Or.inl ⟨.int a, rfl, rfl⟩) ?_
    refine XW.fam (S' := (10, [(0, .int a), (1, .int b)], [.int a], w)) (M := mr_22) rfl (show mcode 22 6 = some (6, .goto 4, 3, 10, 0, 0, _) from rfl) (Or.inr (Or.inl ⟨10, [.int a], rfl, rfl⟩)) ?_
    exact XW.ret (r := some (.int a)) ⟨⟨.int, rfl, rfl⟩, by decide +kernel⟩ ⟨by rw [e], rfl⟩
theorem zr_same {α : Type} {f : Nat → Nat → α} {z : Nat} {v : α} (h : ∀ k, f z k = v) : zr f z v = f := by
  funext a k
  unfold zr
  split
  · next e => rw [e, h]
  · rfl
set_option maxRecDepth 100000 in
theorem cp_at : Cond.methodLink "java/util/Arrays" 150 arraycopyName ∈ lw_tbk := tbk_of (List.mem_of_getElem? (i := 1208) (by decide +kernel)) rfl
/-- a new row of ints, copied from row q -/
theorem tc_copy {d : Nat} {sh : List mE} {I : Nat → Nat → Int32} {L : Nat → Nat → Int64} {Rr : Nat → Nat → Option Nat} {q : Nat} {n : Int32} (h0 : sh[q]? = some (.inl (.int, 240))) (hf : fresh (sh, I, L, Rr)) (hn0 : 0 ≤ n.toInt) (hn1 : n.toInt ≤ 240) : Tc 113 (d + 1) 1 240 [.ref q, .int n] (sh, I, L, Rr) (fun r w' => r = some (.ref sh.length) ∧ ∃ (m : Nat) (I' : Nat → Nat → Int32), m ≤ 240 ∧ w' = (sh ++ [.inl (.int, m)], I', L, Rr) ∧ ∀ a k, ¬ a = sh.length → I' a k = I a k) := by
  have hqlt : q < sh.length := (List.getElem?_eq_some_iff.mp h0).1
  have hnc : n.toNatClampNeg = n.toInt.toNat := rfl
  refine Tc.of mr_113 rfl (show 2 ≤ mr_113.2.2.2.1 by decide) ?_
  refine XW.fam (S' := (1, [(0, .ref q), (1, .int n)], [.int n], (sh, I, L, Rr))) (M := mr_113) rfl (show mcode 113 0 = some (0, .iload_n 1, 1, 0, 0, 0, _) from rfl) (Or.inl ⟨.int n, rfl, rfl⟩) ?_
  refine XW.fam (S' := (2, [(0, .ref q), (1, .int n)], [.ref q, .int n], (sh, I, L, Rr))) (M := mr_113) rfl (show mcode 113 1 = some (1, .aload_n 0, 1, 0, 0, 0, _) from rfl) (Or.inl ⟨.ref q, rfl, rfl⟩) ?_
  refine XW.fam (S' := (3, [(0, .ref q), (1, .int n)], [.int 240, .int n], (sh, I, L, Rr))) (M := mr_113) rfl (show mcode 113 2 = some (2, .arraylength, 1, 0, 0, 0, _) from rfl) (Or.inr (Or.inr (Or.inl ⟨_, by simp [lda, h0], rfl⟩))) ?_
  by_cases c : bcmp .ne n 240 = true
  · have hne : ¬ n = 240 := by simpa [bcmp] using c
    have hlt : n.toInt < 240 := by
      have h240 : (240 : Int32).toInt = 240 := rfl
      have : ¬ n.toInt = 240 := fun e => hne (Int32.toInt_inj.mp (e.trans h240.symm))
      omega
    refine XW.fam (S' := (14, [(0, .ref q), (1, .int n)], [], (sh, I, L, Rr))) (M := mr_113) rfl (show mcode 113 3 = some (3, .if_icmp .ne 11, 3, 14, 0, 0, _) from rfl) (Or.inr (Or.inl ⟨14, [], by simp [brn, c], rfl⟩)) ?_
    refine XW.fam (S' := (15, [(0, .ref q), (1, .int n)], [.int n], (sh, I, L, Rr))) (M := mr_113) rfl (show mcode 113 14 = some (14, .iload_n 1, 1, 0, 0, 0, _) from rfl) (Or.inl ⟨.int n, rfl, rfl⟩) ?_
    have hst : step1 113 mr_113 none (15, [(0, .ref q), (1, .int n)], [.int n], (sh, I, L, Rr)) = some ((17, [(0, .ref q), (1, .int n)], [.ref sh.length], (sh ++ [.inl (.int, n.toNatClampNeg)], I, L, Rr)), 1, n.toNatClampNeg) := by
      have c1 : decide (n < 0) = false := decide_eq_false (nneg hn0)
      have c2 : decide (n.toNatClampNeg ≤ 100000) = true := decide_eq_true (by omega)
      have z1 : zr I sh.length 0 = I := zr_same (fun k => (hf _ (Nat.le_refl _) k).1)
      have z2 : zr L sh.length 0 = L := zr_same (fun k => (hf _ (Nat.le_refl _) k).2.1)
      have z3 : zr Rr sh.length none = Rr := zr_same (fun k => (hf _ (Nat.le_refl _) k).2.2)
      have hc : mcode 113 15 = some (15, .newarray .int, 2, 0, 0, 0, 0) := rfl
      have hnw : nwc (sh, I, L, Rr) 0 (.newarray .int) [.int n] = some ([.ref sh.length], (sh ++ [.inl (.int, n.toNatClampNeg)], I, L, Rr), n.toNatClampNeg) := by
        show (bif !(decide (n < 0)) && decide (n.toNatClampNeg ≤ 100000) && true then some ([Value.ref sh.length], ((sh ++ [.inl (.int, n.toNatClampNeg)], zr I sh.length 0, zr L sh.length 0, zr Rr sh.length none) : mW), n.toNatClampNeg) else none) = _
        rw [c1, c2, z1, z2, z3]
        rfl
      simp [step1, hc, psh, brn, lda, sta, ldk, stk, stl, hnw]
    refine XW.step (M := mr_113) rfl hst (Nat.le_refl 1) (by omega) ?_
    refine XW.fam (S' := (18, [(2, .ref sh.length), (0, .ref q), (1, .int n)], [], (sh ++ [.inl (.int, n.toNatClampNeg)], I, L, Rr))) (M := mr_113) rfl (show mcode 113 17 = some (17, .astore_n 2, 1, 0, 0, 0, _) from rfl) (Or.inr (Or.inr (Or.inr (Or.inr (Or.inr (Or.inr (Or.inl ⟨_, [], _, rfl, rfl, rfl⟩))))))) ?_
    refine XW.fam (S' := (19, [(2, .ref sh.length), (0, .ref q), (1, .int n)], [.ref q], (sh ++ [.inl (.int, n.toNatClampNeg)], I, L, Rr))) (M := mr_113) rfl (show mcode 113 18 = some (18, .aload_n 0, 1, 0, 0, 0, _) from rfl) (Or.inl ⟨.ref q, rfl, rfl⟩) ?_
    refine XW.fam (S' := (20, [(2, .ref sh.length), (0, .ref q), (1, .int n)], [.int 0, .ref q], (sh ++ [.inl (.int, n.toNatClampNeg)], I, L, Rr))) (M := mr_113) rfl (show mcode 113 19 = some (19, .iconst 0, 1, 0, 0, 0, _) from rfl) (Or.inl ⟨.int 0, rfl, rfl⟩) ?_
    refine XW.fam (S' := (21, [(2, .ref sh.length), (0, .ref q), (1, .int n)], [.ref sh.length, .int 0, .ref q], (sh ++ [.inl (.int, n.toNatClampNeg)], I, L, Rr))) (M := mr_113) rfl (show mcode 113 20 = some (20, .aload_n 2, 1, 0, 0, 0, _) from rfl) (Or.inl ⟨.ref sh.length, rfl, rfl⟩) ?_
    refine XW.fam (S' := (22, [(2, .ref sh.length), (0, .ref q), (1, .int n)], [.int 0, .ref sh.length, .int 0, .ref q], (sh ++ [.inl (.int, n.toNatClampNeg)], I, L, Rr))) (M := mr_113) rfl (show mcode 113 21 = some (21, .iconst 0, 1, 0, 0, 0, _) from rfl) (Or.inl ⟨.int 0, rfl, rfl⟩) ?_
    refine XW.fam (S' := (23, [(2, .ref sh.length), (0, .ref q), (1, .int n)], [.ref q, .int 0, .ref sh.length, .int 0, .ref q], (sh ++ [.inl (.int, n.toNatClampNeg)], I, L, Rr))) (M := mr_113) rfl (show mcode 113 22 = some (22, .aload_n 0, 1, 0, 0, 0, _) from rfl) (Or.inl ⟨.ref q, rfl, rfl⟩) ?_
    have h0' : (sh ++ [.inl (.int, n.toNatClampNeg)])[q]? = some (.inl (.int, 240)) := by rw [List.getElem?_append_left hqlt]; exact h0
    have h1' : (sh ++ [.inl (.int, n.toNatClampNeg)])[sh.length]? = some (.inl (.int, n.toNatClampNeg)) := by rw [List.getElem?_append_right (Nat.le_refl _), Nat.sub_self]; rfl
    refine XW.fam (S' := (24, [(2, .ref sh.length), (0, .ref q), (1, .int n)], [.int 240, .int 0, .ref sh.length, .int 0, .ref q], (sh ++ [.inl (.int, n.toNatClampNeg)], I, L, Rr))) (M := mr_113) rfl (show mcode 113 23 = some (23, .arraylength, 1, 0, 0, 0, _) from rfl) (Or.inr (Or.inr (Or.inl ⟨_, by simp [lda, h0'], rfl⟩))) ?_
    refine XW.fam (S' := (25, [(2, .ref sh.length), (0, .ref q), (1, .int n)], [.int n, .int 240, .int 0, .ref sh.length, .int 0, .ref q], (sh ++ [.inl (.int, n.toNatClampNeg)], I, L, Rr))) (M := mr_113) rfl (show mcode 113 24 = some (24, .iload_n 1, 1, 0, 0, 0, _) from rfl) (Or.inl ⟨.int n, rfl, rfl⟩) ?_
    refine XW.call (d' := d) (mc' := 0) (ms' := 0) (av := [.int 240, .int n]) (rest := [.int 0, .ref sh.length, .int 0, .ref q]) (M := mr_113) (Ma := mr_21) rfl (show mcode 113 25 = some (25, .invokestatic 304, 3, 21, 0, 0, _) from rfl) rfl (by decide) (by decide) rfl rfl rfl (show 4 ≤ 8 by decide) tc_min (Nat.le_refl _) (Nat.zero_le _) (Nat.zero_le _) (fun r w' hQ => ?_)
    obtain ⟨rfl, rfl⟩ := hQ
    have em : (if n < 240 then n else 240) = n := if_pos (by rw [Int32.lt_iff_toInt_lt]; exact hlt)
    rw [em]
    refine XW.acp (j := 113) (M := mr_113) (index := 150) (n0 := 240) (n1 := n.toNatClampNeg) (r := []) rfl (show decode prog_21_method_123_code 28 = .ok (.invokestatic 150, 3) by decide +kernel) cp_at h0' h1' (by decide) (by decide) hn0 (by show (0 : Int) + _ ≤ ((240 : Nat) : Int); omega) (by show (0 : Int) + _ ≤ _; omega) (by decide) ?_
    refine XW.fam (S' := (32, [(2, .ref sh.length), (0, .ref q), (1, .int n)], [.ref sh.length], (sh ++ [.inl (.int, n.toNatClampNeg)], cpI I q sh.length (0 : Int32).toNatClampNeg (0 : Int32).toNatClampNeg n.toNatClampNeg, L, Rr))) (M := mr_113) rfl (show mcode 113 31 = some (31, .aload_n 2, 1, 0, 0, 0, _) from rfl) (Or.inl ⟨.ref sh.length, rfl, rfl⟩) ?_
    refine XW.ret (r := some (.ref sh.length)) ⟨⟨.int, rfl⟩, by decide +kernel⟩ ⟨rfl, n.toNatClampNeg, _, by omega, rfl, fun a k ha => ?_⟩
    show (if a = sh.length then _ else I a k) = _
    exact if_neg ha
  · have hne : n = 240 := by simpa [bcmp] using c
    refine XW.fam (S' := (6, [(0, .ref q), (1, .int n)], [], (sh, I, L, Rr))) (M := mr_113) rfl (show mcode 113 3 = some (3, .if_icmp .ne 11, 3, 14, 0, 0, _) from rfl) (Or.inr (Or.inl ⟨6, [], by simp [brn, c], rfl⟩)) ?_
    refine XW.fam (S' := (7, [(0, .ref q), (1, .int n)], [.ref q], (sh, I, L, Rr))) (M := mr_113) rfl (show mcode 113 6 = some (6, .aload_n 0, 1, 0, 0, 0, _) from rfl) (Or.inl ⟨.ref q, rfl, rfl⟩) ?_
    refine XW.cln h0 (Nat.le_refl _) (Nat.le_refl _) (by decide) ?_
    refine XW.cst (n := 240) (by show (sh ++ [.inl (.int, 240)])[sh.length]? = _; rw [List.getElem?_append_right (Nat.le_refl _), Nat.sub_self]; rfl) ?_
    refine XW.ret (r := some (.ref sh.length)) ⟨⟨.int, rfl⟩, by decide +kernel⟩ ⟨rfl, 240, _, Nat.le_refl _, rfl, fun a k ha => ?_⟩
    exact if_neg ha
