/-! ===== line of the model (wip/genline4.py) ===== -/
theorem rmin_le {f : Nat → Int} : ∀ {n k : Nat}, k < n → rmin f n ≤ f k
  | 0, k, h => by omega
  | n + 1, k, h => by
    show (if f n < rmin f n then f n else rmin f n) ≤ f k
    by_cases e : k = n
    · rw [e]
      split <;> omega
    · have ih := rmin_le (f := f) (n := n) (k := k) (by omega)
      split <;> omega
theorem tc_bin {d : Nat} {sh : List mE} {I : Nat → Nat → Int32} {L : Nat → Nat → Int64} {R : Nat → Nat → Option Nat} {k j : Int32} (hw : wOK (mkT vV []) (wE sh R) (sh, I, L, R)) (hk : 0 ≤ k.toInt ∧ k.toInt ≤ 3) (hj : 0 ≤ j.toInt ∧ j.toInt ≤ 20) : Tc 346 d 0 0 [.ref 94, .int k, .int j] (sh, I, L, R) (fun r w' => (∃ x : Int32, r = some (.int x) ∧ x.toInt = lnB (I 163) k.toInt.toNat j.toInt.toNat) ∧ w' = (sh, I, L, R)) := by
  have c94 : sh[94]? = some (.inr 12) := hw.1 94 _ rfl
  have c163 : sh[163]? = some (.inl (.int, 32)) := hw.1 163 _ rfl
  have r94_103 : R 94 103 = some 163 := hw.2.1 94 103 _ rfl
  have z7 : (7 : Int32).toInt = 7 := rfl
  have z8 : (8 : Int32).toInt = 8 := rfl
  refine Tc.of mr_346 rfl (show 3 ≤ mr_346.2.2.2.1 by decide) ?_
  refine XW.fam (S' := (1, [(0, .ref 94), (1, .int k), (2, .int j)], [.ref 94], (sh, I, L, R))) (M := mr_346) rfl (show mcode 346 0 = some (0, .aload_n 0, 1, 0, 0, 0, _) from rfl) (Or.inl ⟨.ref 94, rfl, rfl⟩) ?_
  refine XW.fam (S' := (4, [(0, .ref 94), (1, .int k), (2, .int j)], [.ref 163], (sh, I, L, R))) (M := mr_346) rfl (show mcode 346 1 = some (1, .getfield 229, 3, 12, 103, 0, _) from rfl) (Or.inr (Or.inr (Or.inr (Or.inr (Or.inr (Or.inr (Or.inr (Or.inl ⟨_, _, rfl, fl_ld c94 r94_103 (by decide) (by decide), rfl⟩)))))))) ?_
  refine XW.fam (S' := (6, [(0, .ref 94), (1, .int k), (2, .int j)], [.int 8, .ref 163], (sh, I, L, R))) (M := mr_346) rfl (show mcode 346 4 = some (4, .bipush 8, 2, 0, 0, 0, _) from rfl) (Or.inl ⟨.int 8, rfl, rfl⟩) ?_
  refine XW.fam (S' := (7, [(0, .ref 94), (1, .int k), (2, .int j)], [.int k, .int 8, .ref 163], (sh, I, L, R))) (M := mr_346) rfl (show mcode 346 6 = some (6, .iload_n 1, 1, 0, 0, 0, _) from rfl) (Or.inl ⟨.int k, rfl, rfl⟩) ?_
  refine XW.fam (S' := (8, [(0, .ref 94), (1, .int k), (2, .int j)], [.int (8 * k), .ref 163], (sh, I, L, R))) (M := mr_346) rfl (show mcode 346 7 = some (7, .imul, 1, 0, 0, 0, _) from rfl) (Or.inr (Or.inr (Or.inr (Or.inr (Or.inr (Or.inl ⟨_, rfl, rfl⟩)))))) ?_
  refine XW.fam (S' := (9, [(0, .ref 94), (1, .int k), (2, .int j)], [.int j, .int (8 * k), .ref 163], (sh, I, L, R))) (M := mr_346) rfl (show mcode 346 8 = some (8, .iload_n 2, 1, 0, 0, 0, _) from rfl) (Or.inl ⟨.int j, rfl, rfl⟩) ?_
  refine XW.fam (S' := (11, [(0, .ref 94), (1, .int k), (2, .int j)], [.int 7, .int j, .int (8 * k), .ref 163], (sh, I, L, R))) (M := mr_346) rfl (show mcode 346 9 = some (9, .bipush 7, 2, 0, 0, 0, _) from rfl) (Or.inl ⟨.int 7, rfl, rfl⟩) ?_
  cases k1 : bcmp .le j 7 with
  | true =>
    have gk1 : (j).toInt ≤ 7 := icT (c := .le) (a := (j).toInt) (b := 7) rfl (by decide) k1
    refine XW.fam (S' := (19, [(0, .ref 94), (1, .int k), (2, .int j)], [.int (8 * k), .ref 163], (sh, I, L, R))) (M := mr_346) rfl (show mcode 346 11 = some (11, .if_icmp .le 8, 3, 19, 0, 0, _) from rfl) (Or.inr (Or.inl ⟨19, [.int (8 * k), .ref 163], by simp [brn, k1], rfl⟩)) ?_
    refine XW.fam (S' := (20, [(0, .ref 94), (1, .int k), (2, .int j)], [.int j, .int (8 * k), .ref 163], (sh, I, L, R))) (M := mr_346) rfl (show mcode 346 19 = some (19, .iload_n 2, 1, 0, 0, 0, _) from rfl) (Or.inl ⟨.int j, rfl, rfl⟩) ?_
    refine XW.fam (S' := (21, [(0, .ref 94), (1, .int k), (2, .int j)], [.int ((8 * k) + j), .ref 163], (sh, I, L, R))) (M := mr_346) rfl (show mcode 346 20 = some (20, .iadd, 1, 0, 0, 0, _) from rfl) (Or.inr (Or.inr (Or.inr (Or.inr (Or.inr (Or.inl ⟨_, rfl, rfl⟩)))))) ?_
    have xhin2 : (((8 * k) + j)).toInt = 8 * k.toInt + (j : Int32).toInt := ix8d (by omega) (by omega)
    have hin2 : inR ((8 * k) + j) 32 = true := inR_of (by omega) (by omega)
    refine XW.fam (S' := (22, [(0, .ref 94), (1, .int k), (2, .int j)], [.int (I 163 (((8 * k) + j)).toNatClampNeg)], (sh, I, L, R))) (M := mr_346) rfl (show mcode 346 21 = some (21, .iaload, 1, 0, 0, 0, _) from rfl) (Or.inr (Or.inr (Or.inl ⟨_, lda_i c163 hin2, rfl⟩))) ?_
    refine XW.ret (r := some (.int (I 163 (((8 * k) + j)).toNatClampNeg))) ⟨⟨.int, rfl, rfl⟩, by decide +kernel⟩ ?_
    refine ⟨⟨_, rfl, ?_⟩, rfl⟩
    show (I 163 (((8 * k) + j)).toInt.toNat).toInt = (I 163 (8 * k.toInt.toNat + (if j.toInt.toNat ≤ 7 then j.toInt.toNat else 7))).toInt
    have ej : (((8 * k) + j)).toInt.toNat = 8 * k.toInt.toNat + (if j.toInt.toNat ≤ 7 then j.toInt.toNat else 7) := by
      split <;> omega
    rw [ej]
  | false =>
    have gk1 : ¬ ((j).toInt ≤ 7) := icF (c := .le) (a := (j).toInt) (b := 7) rfl (by decide) k1
    refine XW.fam (S' := (14, [(0, .ref 94), (1, .int k), (2, .int j)], [.int (8 * k), .ref 163], (sh, I, L, R))) (M := mr_346) rfl (show mcode 346 11 = some (11, .if_icmp .le 8, 3, 19, 0, 0, _) from rfl) (Or.inr (Or.inl ⟨14, [.int (8 * k), .ref 163], by simp [brn, k1], rfl⟩)) ?_
    refine XW.fam (S' := (16, [(0, .ref 94), (1, .int k), (2, .int j)], [.int 7, .int (8 * k), .ref 163], (sh, I, L, R))) (M := mr_346) rfl (show mcode 346 14 = some (14, .bipush 7, 2, 0, 0, 0, _) from rfl) (Or.inl ⟨.int 7, rfl, rfl⟩) ?_
    refine XW.fam (S' := (20, [(0, .ref 94), (1, .int k), (2, .int j)], [.int 7, .int (8 * k), .ref 163], (sh, I, L, R))) (M := mr_346) rfl (show mcode 346 16 = some (16, .goto 4, 3, 20, 0, 0, _) from rfl) (Or.inr (Or.inl ⟨20, [.int 7, .int (8 * k), .ref 163], rfl, rfl⟩)) ?_
    refine XW.fam (S' := (21, [(0, .ref 94), (1, .int k), (2, .int j)], [.int ((8 * k) + 7), .ref 163], (sh, I, L, R))) (M := mr_346) rfl (show mcode 346 20 = some (20, .iadd, 1, 0, 0, 0, _) from rfl) (Or.inr (Or.inr (Or.inr (Or.inr (Or.inr (Or.inl ⟨_, rfl, rfl⟩)))))) ?_
    have xhin3 : (((8 * k) + 7)).toInt = 8 * k.toInt + (7 : Int32).toInt := ix8d (by omega) (by omega)
    have hin3 : inR ((8 * k) + 7) 32 = true := inR_of (by omega) (by omega)
    refine XW.fam (S' := (22, [(0, .ref 94), (1, .int k), (2, .int j)], [.int (I 163 (((8 * k) + 7)).toNatClampNeg)], (sh, I, L, R))) (M := mr_346) rfl (show mcode 346 21 = some (21, .iaload, 1, 0, 0, 0, _) from rfl) (Or.inr (Or.inr (Or.inl ⟨_, lda_i c163 hin3, rfl⟩))) ?_
    refine XW.ret (r := some (.int (I 163 (((8 * k) + 7)).toNatClampNeg))) ⟨⟨.int, rfl, rfl⟩, by decide +kernel⟩ ?_
    refine ⟨⟨_, rfl, ?_⟩, rfl⟩
    show (I 163 (((8 * k) + 7)).toInt.toNat).toInt = (I 163 (8 * k.toInt.toNat + (if j.toInt.toNat ≤ 7 then j.toInt.toNat else 7))).toInt
    have ej : (((8 * k) + 7)).toInt.toNat = 8 * k.toInt.toNat + (if j.toInt.toNat ≤ 7 then j.toInt.toNat else 7) := by
      split <;> omega
    rw [ej]
theorem can_in {d : Nat} {sh : List mE} {I : Nat → Nat → Int32} {L : Nat → Nat → Int64} {R : Nat → Nat → Option Nat} {wk rw wt mo k : Int32} (hw : wOK (mkT vV []) (wE sh R) (sh, I, L, R)) (hk : 0 ≤ wk.toInt ∧ wk.toInt ≤ 7) (hr : 1 ≤ rw.toInt ∧ rw.toInt ≤ 4) (ht : 1 ≤ wt.toInt ∧ wt.toInt ≤ 4) (hkk : 0 ≤ k.toInt ∧ k.toInt ≤ 3) {Q : Option Value → mW → Prop} (K : ∀ j s : Int32, s.toInt = lnS (I 163) wk.toInt.toNat wt.toInt.toNat k.toInt.toNat → 0 ≤ s.toInt → s.toInt ≤ 39996 → XW 345 mr_345 none (d + 1) 0 0 Q (42, [(7, .int j), (6, .int s), (5, .int k), (0, .ref 94), (1, .int wk), (2, .int rw), (3, .int wt), (4, .int mo)], [], (sh, I, L, R))) : ∀ (z : Nat) (j s : Int32), 0 ≤ j.toInt → j.toInt ≤ wt.toInt → wt.toInt - j.toInt < z → s.toInt = bsum (fun j => lnB (I 163) k.toInt.toNat (wk.toInt.toNat + j)) j.toInt.toNat → 0 ≤ s.toInt → s.toInt ≤ 9999 * j.toInt → XW 345 mr_345 none (d + 1) 0 0 Q (15, [(7, .int j), (6, .int s), (5, .int k), (0, .ref 94), (1, .int wk), (2, .int rw), (3, .int wt), (4, .int mo)], [], (sh, I, L, R)) := by
  have c94 : sh[94]? = some (.inr 12) := hw.1 94 _ rfl
  intro z
  induction z with
  | zero =>
    intro j s h1 h2 hz hs hs0 hs1
    refine XW.fam (S' := (17, [(7, .int j), (6, .int s), (5, .int k), (0, .ref 94), (1, .int wk), (2, .int rw), (3, .int wt), (4, .int mo)], [.int j], (sh, I, L, R))) (M := mr_345) rfl (show mcode 345 15 = some (15, .iload 7, 2, 0, 0, 0, _) from rfl) (Or.inl ⟨.int j, rfl, rfl⟩) ?_
    refine XW.fam (S' := (18, [(7, .int j), (6, .int s), (5, .int k), (0, .ref 94), (1, .int wk), (2, .int rw), (3, .int wt), (4, .int mo)], [.int wt, .int j], (sh, I, L, R))) (M := mr_345) rfl (show mcode 345 17 = some (17, .iload_n 3, 1, 0, 0, 0, _) from rfl) (Or.inl ⟨.int wt, rfl, rfl⟩) ?_
    have k1 : bcmp .ge j wt = true := bcT (c := .ge) (a := (j).toInt) (b := (wt).toInt) rfl rfl (by show (wt).toInt ≤ (j).toInt; omega)
    refine XW.fam (S' := (42, [(7, .int j), (6, .int s), (5, .int k), (0, .ref 94), (1, .int wk), (2, .int rw), (3, .int wt), (4, .int mo)], [], (sh, I, L, R))) (M := mr_345) rfl (show mcode 345 18 = some (18, .if_icmp .ge 24, 3, 42, 0, 0, _) from rfl) (Or.inr (Or.inl ⟨42, [], by simp [brn, k1], rfl⟩)) ?_
    have en : j.toInt.toNat = wt.toInt.toNat := by omega
    rw [en] at hs
    exact K j s hs hs0 (by omega)
  | succ z ih =>
    intro j s h1 h2 hz hs hs0 hs1
    refine XW.fam (S' := (17, [(7, .int j), (6, .int s), (5, .int k), (0, .ref 94), (1, .int wk), (2, .int rw), (3, .int wt), (4, .int mo)], [.int j], (sh, I, L, R))) (M := mr_345) rfl (show mcode 345 15 = some (15, .iload 7, 2, 0, 0, 0, _) from rfl) (Or.inl ⟨.int j, rfl, rfl⟩) ?_
    refine XW.fam (S' := (18, [(7, .int j), (6, .int s), (5, .int k), (0, .ref 94), (1, .int wk), (2, .int rw), (3, .int wt), (4, .int mo)], [.int wt, .int j], (sh, I, L, R))) (M := mr_345) rfl (show mcode 345 17 = some (17, .iload_n 3, 1, 0, 0, 0, _) from rfl) (Or.inl ⟨.int wt, rfl, rfl⟩) ?_
    cases k1 : bcmp .ge j wt with
    | true =>
      have gk1 : (wt).toInt ≤ (j).toInt := icT (c := .ge) (a := (j).toInt) (b := (wt).toInt) rfl rfl k1
      refine XW.fam (S' := (42, [(7, .int j), (6, .int s), (5, .int k), (0, .ref 94), (1, .int wk), (2, .int rw), (3, .int wt), (4, .int mo)], [], (sh, I, L, R))) (M := mr_345) rfl (show mcode 345 18 = some (18, .if_icmp .ge 24, 3, 42, 0, 0, _) from rfl) (Or.inr (Or.inl ⟨42, [], by simp [brn, k1], rfl⟩)) ?_
      have en : j.toInt.toNat = wt.toInt.toNat := by omega
      rw [en] at hs
      exact K j s hs hs0 (by omega)
    | false =>
      have gk1 : ¬ ((wt).toInt ≤ (j).toInt) := icF (c := .ge) (a := (j).toInt) (b := (wt).toInt) rfl rfl k1
      refine XW.fam (S' := (21, [(7, .int j), (6, .int s), (5, .int k), (0, .ref 94), (1, .int wk), (2, .int rw), (3, .int wt), (4, .int mo)], [], (sh, I, L, R))) (M := mr_345) rfl (show mcode 345 18 = some (18, .if_icmp .ge 24, 3, 42, 0, 0, _) from rfl) (Or.inr (Or.inl ⟨21, [], by simp [brn, k1], rfl⟩)) ?_
      refine XW.fam (S' := (23, [(7, .int j), (6, .int s), (5, .int k), (0, .ref 94), (1, .int wk), (2, .int rw), (3, .int wt), (4, .int mo)], [.int s], (sh, I, L, R))) (M := mr_345) rfl (show mcode 345 21 = some (21, .iload 6, 2, 0, 0, 0, _) from rfl) (Or.inl ⟨.int s, rfl, rfl⟩) ?_
      refine XW.fam (S' := (24, [(7, .int j), (6, .int s), (5, .int k), (0, .ref 94), (1, .int wk), (2, .int rw), (3, .int wt), (4, .int mo)], [.ref 94, .int s], (sh, I, L, R))) (M := mr_345) rfl (show mcode 345 23 = some (23, .aload_n 0, 1, 0, 0, 0, _) from rfl) (Or.inl ⟨.ref 94, rfl, rfl⟩) ?_
      refine XW.fam (S' := (26, [(7, .int j), (6, .int s), (5, .int k), (0, .ref 94), (1, .int wk), (2, .int rw), (3, .int wt), (4, .int mo)], [.int k, .ref 94, .int s], (sh, I, L, R))) (M := mr_345) rfl (show mcode 345 24 = some (24, .iload 5, 2, 0, 0, 0, _) from rfl) (Or.inl ⟨.int k, rfl, rfl⟩) ?_
      refine XW.fam (S' := (27, [(7, .int j), (6, .int s), (5, .int k), (0, .ref 94), (1, .int wk), (2, .int rw), (3, .int wt), (4, .int mo)], [.int wk, .int k, .ref 94, .int s], (sh, I, L, R))) (M := mr_345) rfl (show mcode 345 26 = some (26, .iload_n 1, 1, 0, 0, 0, _) from rfl) (Or.inl ⟨.int wk, rfl, rfl⟩) ?_
      refine XW.fam (S' := (29, [(7, .int j), (6, .int s), (5, .int k), (0, .ref 94), (1, .int wk), (2, .int rw), (3, .int wt), (4, .int mo)], [.int j, .int wk, .int k, .ref 94, .int s], (sh, I, L, R))) (M := mr_345) rfl (show mcode 345 27 = some (27, .iload 7, 2, 0, 0, 0, _) from rfl) (Or.inl ⟨.int j, rfl, rfl⟩) ?_
      refine XW.fam (S' := (30, [(7, .int j), (6, .int s), (5, .int k), (0, .ref 94), (1, .int wk), (2, .int rw), (3, .int wt), (4, .int mo)], [.int (wk + j), .int k, .ref 94, .int s], (sh, I, L, R))) (M := mr_345) rfl (show mcode 345 29 = some (29, .iadd, 1, 0, 0, 0, _) from rfl) (Or.inr (Or.inr (Or.inr (Or.inr (Or.inr (Or.inl ⟨_, rfl, rfl⟩)))))) ?_
      have xwj : (wk + j).toInt = wk.toInt + j.toInt := sumS (by omega) (by omega)
      refine XW.call (d' := d) (mc' := 0) (ms' := 0) (av := [.ref 94, .int k, .int (wk + j)]) (rest := [.int s]) (M := mr_345) (Ma := mr_346) rfl (show mcode 345 30 = some (30, .invokevirtual 582, 3, 346, 0, 0, _) from rfl) rfl (by decide) (by decide) ⟨rfl, 94, _, rfl, c94⟩ rfl rfl (show 1 ≤ 8 by decide) (tc_bin (d := d) hw (by omega) (by omega)) (by omega) (Nat.zero_le _) (Nat.zero_le _) (fun rQ2 wQ2 Q2 => ?_)
      obtain ⟨⟨x, rfl, hx⟩, rfl⟩ := Q2
      refine XW.fam (S' := (34, [(7, .int j), (6, .int s), (5, .int k), (0, .ref 94), (1, .int wk), (2, .int rw), (3, .int wt), (4, .int mo)], [.int (s + x)], (sh, I, L, R))) (M := mr_345) rfl (show mcode 345 33 = some (33, .iadd, 1, 0, 0, 0, _) from rfl) (Or.inr (Or.inr (Or.inr (Or.inr (Or.inr (Or.inl ⟨_, rfl, rfl⟩)))))) ?_
      refine XW.fam (S' := (36, [(6, .int (s + x)), (7, .int j), (5, .int k), (0, .ref 94), (1, .int wk), (2, .int rw), (3, .int wt), (4, .int mo)], [], (sh, I, L, R))) (M := mr_345) rfl (show mcode 345 34 = some (34, .istore 6, 2, 0, 0, 0, _) from rfl) (Or.inr (Or.inr (Or.inr (Or.inr (Or.inr (Or.inr (Or.inl ⟨_, [], _, rfl, rfl, rfl⟩))))))) ?_
      refine XW.fam (S' := (39, [(7, .int (j + Int32.ofInt 1)), (6, .int (s + x)), (5, .int k), (0, .ref 94), (1, .int wk), (2, .int rw), (3, .int wt), (4, .int mo)], [], (sh, I, L, R))) (M := mr_345) rfl (show mcode 345 36 = some (36, .iinc 7 1, 3, 0, 0, 0, _) from rfl) (Or.inr (Or.inr (Or.inr (Or.inr (Or.inr (Or.inr (Or.inr (Or.inr (Or.inr ⟨7, 1, j, rfl, rfl, by decide, rfl⟩))))))))) ?_
      refine XW.fam (S' := (15, [(7, .int (j + Int32.ofInt 1)), (6, .int (s + x)), (5, .int k), (0, .ref 94), (1, .int wk), (2, .int rw), (3, .int wt), (4, .int mo)], [], (sh, I, L, R))) (M := mr_345) rfl (show mcode 345 39 = some (39, .goto (-24), 3, 15, 0, 0, _) from rfl) (Or.inr (Or.inl ⟨15, [], rfl, rfl⟩)) ?_
      have eo := incO (m := j) (by omega) (by omega)
      have en : (j + Int32.ofInt 1).toInt.toNat = j.toInt.toNat + 1 := by omega
      have ewj : (wk + j).toInt.toNat = wk.toInt.toNat + j.toInt.toNat := by omega
      rw [ewj] at hx
      have hu : 0 ≤ x.toInt ∧ x.toInt ≤ 9999 := by rw [hx]; exact hw.2.2.1 163 _
      have ev : (s + x).toInt = s.toInt + x.toInt := sumS (by omega) (by omega)
      refine XW.sub (ls' := [(7, .int (j + Int32.ofInt 1)), (6, .int (s + x)), (5, .int k), (0, .ref 94), (1, .int wk), (2, .int rw), (3, .int wt), (4, .int mo)]) (List.forall_mem_cons.mpr ⟨List.mem_of_getElem? (i := 0) rfl, (List.forall_mem_cons.mpr ⟨List.mem_of_getElem? (i := 1) rfl, (List.forall_mem_cons.mpr ⟨List.mem_of_getElem? (i := 2) rfl, (List.forall_mem_cons.mpr ⟨List.mem_of_getElem? (i := 3) rfl, (List.forall_mem_cons.mpr ⟨List.mem_of_getElem? (i := 4) rfl, (List.forall_mem_cons.mpr ⟨List.mem_of_getElem? (i := 5) rfl, (List.forall_mem_cons.mpr ⟨List.mem_of_getElem? (i := 6) rfl, (List.forall_mem_cons.mpr ⟨List.mem_of_getElem? (i := 7) rfl, (fun _ h => absurd h List.not_mem_nil)⟩)⟩)⟩)⟩)⟩)⟩)⟩)⟩) ?_
      refine ih (j + Int32.ofInt 1) (s + x) (by omega) (by omega) (by omega) ?_ (by omega) (by omega)
      rw [en]
      show _ = bsum (fun j => lnB (I 163) k.toInt.toNat (wk.toInt.toNat + j)) j.toInt.toNat + (fun j => lnB (I 163) k.toInt.toNat (wk.toInt.toNat + j)) j.toInt.toNat
      rw [ev, hs, hx]
theorem can_out {d : Nat} {sh : List mE} {I : Nat → Nat → Int32} {L : Nat → Nat → Int64} {R : Nat → Nat → Option Nat} {wk rw wt mo : Int32} (hw : wOK (mkT vV []) (wE sh R) (sh, I, L, R)) (hk : 0 ≤ wk.toInt ∧ wk.toInt ≤ 7) (hr : 1 ≤ rw.toInt ∧ rw.toInt ≤ 4) (ht : 1 ≤ wt.toInt ∧ wt.toInt ≤ 4) (hwt : ∀ k : Nat, k < 4 → 0 ≤ (I 164 k).toInt ∧ (I 164 k).toInt ≤ 200000) (hmo : 0 ≤ mo.toInt ∧ mo.toInt ≤ 30000) : ∀ (z : Nat) (k : Int32), 0 ≤ k.toInt → k.toInt ≤ rw.toInt → rw.toInt - k.toInt < z → mo.toInt ≤ rmin (fun k => lnS (I 163) wk.toInt.toNat wt.toInt.toNat k - (fun k => (I 164 k).toInt) k) k.toInt.toNat → XW 345 mr_345 none (d + 1) 0 0 (fun r w' => ((r = some (.int 0) ∧ ¬ mo.toInt ≤ lnRoom (I 163) wt.toInt.toNat (fun k => (I 164 k).toInt) wk.toInt.toNat rw.toInt.toNat) ∨ (r = some (.int 1) ∧ mo.toInt ≤ lnRoom (I 163) wt.toInt.toNat (fun k => (I 164 k).toInt) wk.toInt.toNat rw.toInt.toNat)) ∧ w' = (sh, I, L, R)) (3, [(5, .int k), (0, .ref 94), (1, .int wk), (2, .int rw), (3, .int wt), (4, .int mo)], [], (sh, I, L, R)) := by
  have c94 : sh[94]? = some (.inr 12) := hw.1 94 _ rfl
  have c164 : sh[164]? = some (.inl (.int, 4)) := hw.1 164 _ rfl
  have r94_104 : R 94 104 = some 164 := hw.2.1 94 104 _ rfl
  have z0 : (0 : Int32).toInt = 0 := rfl
  have z1 : (1 : Int32).toInt = 1 := rfl
  intro z
  induction z with
  | zero =>
    intro k h1 h2 hz hm
    refine XW.fam (S' := (5, [(5, .int k), (0, .ref 94), (1, .int wk), (2, .int rw), (3, .int wt), (4, .int mo)], [.int k], (sh, I, L, R))) (M := mr_345) rfl (show mcode 345 3 = some (3, .iload 5, 2, 0, 0, 0, _) from rfl) (Or.inl ⟨.int k, rfl, rfl⟩) ?_
    refine XW.fam (S' := (6, [(5, .int k), (0, .ref 94), (1, .int wk), (2, .int rw), (3, .int wt), (4, .int mo)], [.int rw, .int k], (sh, I, L, R))) (M := mr_345) rfl (show mcode 345 5 = some (5, .iload_n 2, 1, 0, 0, 0, _) from rfl) (Or.inl ⟨.int rw, rfl, rfl⟩) ?_
    have k1 : bcmp .ge k rw = true := bcT (c := .ge) (a := (k).toInt) (b := (rw).toInt) rfl rfl (by show (rw).toInt ≤ (k).toInt; omega)
    refine XW.fam (S' := (65, [(5, .int k), (0, .ref 94), (1, .int wk), (2, .int rw), (3, .int wt), (4, .int mo)], [], (sh, I, L, R))) (M := mr_345) rfl (show mcode 345 6 = some (6, .if_icmp .ge 59, 3, 65, 0, 0, _) from rfl) (Or.inr (Or.inl ⟨65, [], by simp [brn, k1], rfl⟩)) ?_
    refine XW.fam (S' := (66, [(5, .int k), (0, .ref 94), (1, .int wk), (2, .int rw), (3, .int wt), (4, .int mo)], [.int 1], (sh, I, L, R))) (M := mr_345) rfl (show mcode 345 65 = some (65, .iconst 1, 1, 0, 0, 0, _) from rfl) (Or.inl ⟨.int 1, rfl, rfl⟩) ?_
    refine XW.ret (r := some (.int 1)) ⟨⟨.boolean, rfl, rfl⟩, by decide +kernel⟩ ?_
    have en : k.toInt.toNat = rw.toInt.toNat := by omega
    rw [en] at hm
    exact ⟨Or.inr ⟨rfl, hm⟩, rfl⟩
  | succ z ih =>
    intro k h1 h2 hz hm
    refine XW.fam (S' := (5, [(5, .int k), (0, .ref 94), (1, .int wk), (2, .int rw), (3, .int wt), (4, .int mo)], [.int k], (sh, I, L, R))) (M := mr_345) rfl (show mcode 345 3 = some (3, .iload 5, 2, 0, 0, 0, _) from rfl) (Or.inl ⟨.int k, rfl, rfl⟩) ?_
    refine XW.fam (S' := (6, [(5, .int k), (0, .ref 94), (1, .int wk), (2, .int rw), (3, .int wt), (4, .int mo)], [.int rw, .int k], (sh, I, L, R))) (M := mr_345) rfl (show mcode 345 5 = some (5, .iload_n 2, 1, 0, 0, 0, _) from rfl) (Or.inl ⟨.int rw, rfl, rfl⟩) ?_
    cases k1 : bcmp .ge k rw with
    | true =>
      have gk1 : (rw).toInt ≤ (k).toInt := icT (c := .ge) (a := (k).toInt) (b := (rw).toInt) rfl rfl k1
      refine XW.fam (S' := (65, [(5, .int k), (0, .ref 94), (1, .int wk), (2, .int rw), (3, .int wt), (4, .int mo)], [], (sh, I, L, R))) (M := mr_345) rfl (show mcode 345 6 = some (6, .if_icmp .ge 59, 3, 65, 0, 0, _) from rfl) (Or.inr (Or.inl ⟨65, [], by simp [brn, k1], rfl⟩)) ?_
      refine XW.fam (S' := (66, [(5, .int k), (0, .ref 94), (1, .int wk), (2, .int rw), (3, .int wt), (4, .int mo)], [.int 1], (sh, I, L, R))) (M := mr_345) rfl (show mcode 345 65 = some (65, .iconst 1, 1, 0, 0, 0, _) from rfl) (Or.inl ⟨.int 1, rfl, rfl⟩) ?_
      refine XW.ret (r := some (.int 1)) ⟨⟨.boolean, rfl, rfl⟩, by decide +kernel⟩ ?_
      have en : k.toInt.toNat = rw.toInt.toNat := by omega
      rw [en] at hm
      exact ⟨Or.inr ⟨rfl, hm⟩, rfl⟩
    | false =>
      have gk1 : ¬ ((rw).toInt ≤ (k).toInt) := icF (c := .ge) (a := (k).toInt) (b := (rw).toInt) rfl rfl k1
      refine XW.fam (S' := (9, [(5, .int k), (0, .ref 94), (1, .int wk), (2, .int rw), (3, .int wt), (4, .int mo)], [], (sh, I, L, R))) (M := mr_345) rfl (show mcode 345 6 = some (6, .if_icmp .ge 59, 3, 65, 0, 0, _) from rfl) (Or.inr (Or.inl ⟨9, [], by simp [brn, k1], rfl⟩)) ?_
      refine XW.fam (S' := (10, [(5, .int k), (0, .ref 94), (1, .int wk), (2, .int rw), (3, .int wt), (4, .int mo)], [.int 0], (sh, I, L, R))) (M := mr_345) rfl (show mcode 345 9 = some (9, .iconst 0, 1, 0, 0, 0, _) from rfl) (Or.inl ⟨.int 0, rfl, rfl⟩) ?_
      refine XW.fam (S' := (12, [(6, .int 0), (5, .int k), (0, .ref 94), (1, .int wk), (2, .int rw), (3, .int wt), (4, .int mo)], [], (sh, I, L, R))) (M := mr_345) rfl (show mcode 345 10 = some (10, .istore 6, 2, 0, 0, 0, _) from rfl) (Or.inr (Or.inr (Or.inr (Or.inr (Or.inr (Or.inr (Or.inl ⟨_, [], _, rfl, rfl, rfl⟩))))))) ?_
      refine XW.fam (S' := (13, [(6, .int 0), (5, .int k), (0, .ref 94), (1, .int wk), (2, .int rw), (3, .int wt), (4, .int mo)], [.int 0], (sh, I, L, R))) (M := mr_345) rfl (show mcode 345 12 = some (12, .iconst 0, 1, 0, 0, 0, _) from rfl) (Or.inl ⟨.int 0, rfl, rfl⟩) ?_
      refine XW.fam (S' := (15, [(7, .int 0), (6, .int 0), (5, .int k), (0, .ref 94), (1, .int wk), (2, .int rw), (3, .int wt), (4, .int mo)], [], (sh, I, L, R))) (M := mr_345) rfl (show mcode 345 13 = some (13, .istore 7, 2, 0, 0, 0, _) from rfl) (Or.inr (Or.inr (Or.inr (Or.inr (Or.inr (Or.inr (Or.inl ⟨_, [], _, rfl, rfl, rfl⟩))))))) ?_
      refine XW.sub (ls' := [(7, .int 0), (6, .int 0), (5, .int k), (0, .ref 94), (1, .int wk), (2, .int rw), (3, .int wt), (4, .int mo)]) (List.forall_mem_cons.mpr ⟨List.mem_of_getElem? (i := 0) rfl, (List.forall_mem_cons.mpr ⟨List.mem_of_getElem? (i := 1) rfl, (List.forall_mem_cons.mpr ⟨List.mem_of_getElem? (i := 2) rfl, (List.forall_mem_cons.mpr ⟨List.mem_of_getElem? (i := 3) rfl, (List.forall_mem_cons.mpr ⟨List.mem_of_getElem? (i := 4) rfl, (List.forall_mem_cons.mpr ⟨List.mem_of_getElem? (i := 5) rfl, (List.forall_mem_cons.mpr ⟨List.mem_of_getElem? (i := 6) rfl, (List.forall_mem_cons.mpr ⟨List.mem_of_getElem? (i := 7) rfl, (fun _ h => absurd h List.not_mem_nil)⟩)⟩)⟩)⟩)⟩)⟩)⟩)⟩) ?_
      refine can_in (d := d) hw hk hr ht (by omega) (fun j s hs hs0 hs1 => ?_) 5 0 0 (by decide) (by omega) (by omega) rfl (by decide) (by decide)
      have hwk := hwt k.toInt.toNat (by omega)
      have ew : (I 164 (k).toNatClampNeg).toInt = (I 164 k.toInt.toNat).toInt := rfl
      have ea : ((I 164 (k).toNatClampNeg) + mo).toInt = (I 164 k.toInt.toNat).toInt + mo.toInt := by rw [sumS (by omega) (by omega), ew]
      refine XW.fam (S' := (43, [(7, .int j), (6, .int s), (5, .int k), (0, .ref 94), (1, .int wk), (2, .int rw), (3, .int wt), (4, .int mo)], [.ref 94], (sh, I, L, R))) (M := mr_345) rfl (show mcode 345 42 = some (42, .aload_n 0, 1, 0, 0, 0, _) from rfl) (Or.inl ⟨.ref 94, rfl, rfl⟩) ?_
      refine XW.fam (S' := (46, [(7, .int j), (6, .int s), (5, .int k), (0, .ref 94), (1, .int wk), (2, .int rw), (3, .int wt), (4, .int mo)], [.ref 164], (sh, I, L, R))) (M := mr_345) rfl (show mcode 345 43 = some (43, .getfield 232, 3, 12, 104, 0, _) from rfl) (Or.inr (Or.inr (Or.inr (Or.inr (Or.inr (Or.inr (Or.inr (Or.inl ⟨_, _, rfl, fl_ld c94 r94_104 (by decide) (by decide), rfl⟩)))))))) ?_
      refine XW.fam (S' := (48, [(7, .int j), (6, .int s), (5, .int k), (0, .ref 94), (1, .int wk), (2, .int rw), (3, .int wt), (4, .int mo)], [.int k, .ref 164], (sh, I, L, R))) (M := mr_345) rfl (show mcode 345 46 = some (46, .iload 5, 2, 0, 0, 0, _) from rfl) (Or.inl ⟨.int k, rfl, rfl⟩) ?_
      have hin2 : inR k 4 = true := inR_of (by omega) (by omega)
      refine XW.fam (S' := (49, [(7, .int j), (6, .int s), (5, .int k), (0, .ref 94), (1, .int wk), (2, .int rw), (3, .int wt), (4, .int mo)], [.int (I 164 (k).toNatClampNeg)], (sh, I, L, R))) (M := mr_345) rfl (show mcode 345 48 = some (48, .iaload, 1, 0, 0, 0, _) from rfl) (Or.inr (Or.inr (Or.inl ⟨_, lda_i c164 hin2, rfl⟩))) ?_
      refine XW.fam (S' := (51, [(7, .int j), (6, .int s), (5, .int k), (0, .ref 94), (1, .int wk), (2, .int rw), (3, .int wt), (4, .int mo)], [.int mo, .int (I 164 (k).toNatClampNeg)], (sh, I, L, R))) (M := mr_345) rfl (show mcode 345 49 = some (49, .iload 4, 2, 0, 0, 0, _) from rfl) (Or.inl ⟨.int mo, rfl, rfl⟩) ?_
      refine XW.fam (S' := (52, [(7, .int j), (6, .int s), (5, .int k), (0, .ref 94), (1, .int wk), (2, .int rw), (3, .int wt), (4, .int mo)], [.int ((I 164 (k).toNatClampNeg) + mo)], (sh, I, L, R))) (M := mr_345) rfl (show mcode 345 51 = some (51, .iadd, 1, 0, 0, 0, _) from rfl) (Or.inr (Or.inr (Or.inr (Or.inr (Or.inr (Or.inl ⟨_, rfl, rfl⟩)))))) ?_
      refine XW.fam (S' := (54, [(7, .int j), (6, .int s), (5, .int k), (0, .ref 94), (1, .int wk), (2, .int rw), (3, .int wt), (4, .int mo)], [.int s, .int ((I 164 (k).toNatClampNeg) + mo)], (sh, I, L, R))) (M := mr_345) rfl (show mcode 345 52 = some (52, .iload 6, 2, 0, 0, 0, _) from rfl) (Or.inl ⟨.int s, rfl, rfl⟩) ?_
      cases k3 : bcmp .le ((I 164 (k).toNatClampNeg) + mo) s with
      | true =>
        have gk3 : (((I 164 (k).toNatClampNeg) + mo)).toInt ≤ (s).toInt := icT (c := .le) (a := (((I 164 (k).toNatClampNeg) + mo)).toInt) (b := (s).toInt) rfl rfl k3
        refine XW.fam (S' := (59, [(7, .int j), (6, .int s), (5, .int k), (0, .ref 94), (1, .int wk), (2, .int rw), (3, .int wt), (4, .int mo)], [], (sh, I, L, R))) (M := mr_345) rfl (show mcode 345 54 = some (54, .if_icmp .le 5, 3, 59, 0, 0, _) from rfl) (Or.inr (Or.inl ⟨59, [], by simp [brn, k3], rfl⟩)) ?_
        refine XW.fam (S' := (62, [(5, .int (k + Int32.ofInt 1)), (7, .int j), (6, .int s), (0, .ref 94), (1, .int wk), (2, .int rw), (3, .int wt), (4, .int mo)], [], (sh, I, L, R))) (M := mr_345) rfl (show mcode 345 59 = some (59, .iinc 5 1, 3, 0, 0, 0, _) from rfl) (Or.inr (Or.inr (Or.inr (Or.inr (Or.inr (Or.inr (Or.inr (Or.inr (Or.inr ⟨5, 1, k, rfl, rfl, by decide, rfl⟩))))))))) ?_
        refine XW.fam (S' := (3, [(5, .int (k + Int32.ofInt 1)), (7, .int j), (6, .int s), (0, .ref 94), (1, .int wk), (2, .int rw), (3, .int wt), (4, .int mo)], [], (sh, I, L, R))) (M := mr_345) rfl (show mcode 345 62 = some (62, .goto (-59), 3, 3, 0, 0, _) from rfl) (Or.inr (Or.inl ⟨3, [], rfl, rfl⟩)) ?_
        have eo := incO (m := k) (by omega) (by omega)
        refine XW.sub (ls' := [(5, .int (k + Int32.ofInt 1)), (0, .ref 94), (1, .int wk), (2, .int rw), (3, .int wt), (4, .int mo)]) (List.forall_mem_cons.mpr ⟨List.mem_of_getElem? (i := 0) rfl, (List.forall_mem_cons.mpr ⟨List.mem_of_getElem? (i := 3) rfl, (List.forall_mem_cons.mpr ⟨List.mem_of_getElem? (i := 4) rfl, (List.forall_mem_cons.mpr ⟨List.mem_of_getElem? (i := 5) rfl, (List.forall_mem_cons.mpr ⟨List.mem_of_getElem? (i := 6) rfl, (List.forall_mem_cons.mpr ⟨List.mem_of_getElem? (i := 7) rfl, (fun _ h => absurd h List.not_mem_nil)⟩)⟩)⟩)⟩)⟩)⟩) ?_
        have en : (k + Int32.ofInt 1).toInt.toNat = k.toInt.toNat + 1 := by omega
        refine ih (k + Int32.ofInt 1) (by omega) (by omega) (by omega) ?_
        rw [en]
        have ef : (fun k => lnS (I 163) wk.toInt.toNat wt.toInt.toNat k - (fun k => (I 164 k).toInt) k) k.toInt.toNat = s.toInt - (I 164 k.toInt.toNat).toInt := by rw [hs]
        show mo.toInt ≤ (if (fun k => lnS (I 163) wk.toInt.toNat wt.toInt.toNat k - (fun k => (I 164 k).toInt) k) k.toInt.toNat < rmin (fun k => lnS (I 163) wk.toInt.toNat wt.toInt.toNat k - (fun k => (I 164 k).toInt) k) k.toInt.toNat then (fun k => lnS (I 163) wk.toInt.toNat wt.toInt.toNat k - (fun k => (I 164 k).toInt) k) k.toInt.toNat else rmin (fun k => lnS (I 163) wk.toInt.toNat wt.toInt.toNat k - (fun k => (I 164 k).toInt) k) k.toInt.toNat)
        rw [ef]
        split <;> omega
      | false =>
        have gk3 : ¬ ((((I 164 (k).toNatClampNeg) + mo)).toInt ≤ (s).toInt) := icF (c := .le) (a := (((I 164 (k).toNatClampNeg) + mo)).toInt) (b := (s).toInt) rfl rfl k3
        refine XW.fam (S' := (57, [(7, .int j), (6, .int s), (5, .int k), (0, .ref 94), (1, .int wk), (2, .int rw), (3, .int wt), (4, .int mo)], [], (sh, I, L, R))) (M := mr_345) rfl (show mcode 345 54 = some (54, .if_icmp .le 5, 3, 59, 0, 0, _) from rfl) (Or.inr (Or.inl ⟨57, [], by simp [brn, k3], rfl⟩)) ?_
        refine XW.fam (S' := (58, [(7, .int j), (6, .int s), (5, .int k), (0, .ref 94), (1, .int wk), (2, .int rw), (3, .int wt), (4, .int mo)], [.int 0], (sh, I, L, R))) (M := mr_345) rfl (show mcode 345 57 = some (57, .iconst 0, 1, 0, 0, 0, _) from rfl) (Or.inl ⟨.int 0, rfl, rfl⟩) ?_
        refine XW.ret (r := some (.int 0)) ⟨⟨.boolean, rfl, rfl⟩, by decide +kernel⟩ ?_
        refine ⟨Or.inl ⟨rfl, fun q => ?_⟩, rfl⟩
        have hle : lnRoom (I 163) wt.toInt.toNat (fun k => (I 164 k).toInt) wk.toInt.toNat rw.toInt.toNat ≤ (fun k => lnS (I 163) wk.toInt.toNat wt.toInt.toNat k - (fun k => (I 164 k).toInt) k) k.toInt.toNat := rmin_le (by omega)
        have hle2 : lnRoom (I 163) wt.toInt.toNat (fun k => (I 164 k).toInt) wk.toInt.toNat rw.toInt.toNat ≤ lnS (I 163) wk.toInt.toNat wt.toInt.toNat k.toInt.toNat - (I 164 k.toInt.toNat).toInt := hle
        omega
theorem tc_can {d : Nat} {sh : List mE} {I : Nat → Nat → Int32} {L : Nat → Nat → Int64} {R : Nat → Nat → Option Nat} {wk rw wt mo : Int32} (hw : wOK (mkT vV []) (wE sh R) (sh, I, L, R)) (hk : 0 ≤ wk.toInt ∧ wk.toInt ≤ 7) (hr : 1 ≤ rw.toInt ∧ rw.toInt ≤ 4) (ht : 1 ≤ wt.toInt ∧ wt.toInt ≤ 4) (hwt : ∀ k : Nat, k < 4 → 0 ≤ (I 164 k).toInt ∧ (I 164 k).toInt ≤ 200000) (hmo : 0 ≤ mo.toInt ∧ mo.toInt ≤ 30000) : Tc 345 (d + 1) 0 0 [.ref 94, .int wk, .int rw, .int wt, .int mo] (sh, I, L, R) (fun r w' => ((r = some (.int 0) ∧ ¬ mo.toInt ≤ lnRoom (I 163) wt.toInt.toNat (fun k => (I 164 k).toInt) wk.toInt.toNat rw.toInt.toNat) ∨ (r = some (.int 1) ∧ mo.toInt ≤ lnRoom (I 163) wt.toInt.toNat (fun k => (I 164 k).toInt) wk.toInt.toNat rw.toInt.toNat)) ∧ w' = (sh, I, L, R)) := by
  have z0 : (0 : Int32).toInt = 0 := rfl
  refine Tc.of mr_345 rfl (show 5 ≤ mr_345.2.2.2.1 by decide) ?_
  refine XW.fam (S' := (1, [(0, .ref 94), (1, .int wk), (2, .int rw), (3, .int wt), (4, .int mo)], [.int 0], (sh, I, L, R))) (M := mr_345) rfl (show mcode 345 0 = some (0, .iconst 0, 1, 0, 0, 0, _) from rfl) (Or.inl ⟨.int 0, rfl, rfl⟩) ?_
  refine XW.fam (S' := (3, [(5, .int 0), (0, .ref 94), (1, .int wk), (2, .int rw), (3, .int wt), (4, .int mo)], [], (sh, I, L, R))) (M := mr_345) rfl (show mcode 345 1 = some (1, .istore 5, 2, 0, 0, 0, _) from rfl) (Or.inr (Or.inr (Or.inr (Or.inr (Or.inr (Or.inr (Or.inl ⟨_, [], _, rfl, rfl, rfl⟩))))))) ?_
  refine XW.sub (ls' := [(5, .int 0), (0, .ref 94), (1, .int wk), (2, .int rw), (3, .int wt), (4, .int mo)]) (List.forall_mem_cons.mpr ⟨List.mem_of_getElem? (i := 0) rfl, (List.forall_mem_cons.mpr ⟨List.mem_of_getElem? (i := 1) rfl, (List.forall_mem_cons.mpr ⟨List.mem_of_getElem? (i := 2) rfl, (List.forall_mem_cons.mpr ⟨List.mem_of_getElem? (i := 3) rfl, (List.forall_mem_cons.mpr ⟨List.mem_of_getElem? (i := 4) rfl, (List.forall_mem_cons.mpr ⟨List.mem_of_getElem? (i := 5) rfl, (fun _ h => absurd h List.not_mem_nil)⟩)⟩)⟩)⟩)⟩)⟩) ?_
  exact can_out (d := d) hw hk hr ht hwt hmo 5 0 (by decide) (by omega) (by omega) (by show mo.toInt ≤ 1000000; omega)
theorem fall_m {d : Nat} {sh : List mE} {I : Nat → Nat → Int32} {L : Nat → Nat → Int64} {R : Nat → Nat → Option Nat} {wk rw wt t now : Int32} (hw : wOK (mkT vV []) (wE sh R) (sh, I, L, R)) (hk : 0 ≤ t.toInt ∧ t.toInt ≤ 7) (hr : 1 ≤ rw.toInt ∧ rw.toInt ≤ 4) (ht : 1 ≤ wt.toInt ∧ wt.toInt ≤ 4) (hnow : 0 ≤ now.toInt ∧ now.toInt ≤ 100) (hwt : ∀ k : Nat, k < 4 → 0 ≤ (I 164 k).toInt ∧ (I 164 k).toInt ≤ 200000) (hh : ∀ k, 0 ≤ (I 162 k).toInt ∧ (I 162 k).toInt ≤ 199) {Q : Option Value → mW → Prop} (K : ∀ l cm mo be : Int32, fallS (I 162) (lnRoom (I 163) wt.toInt.toNat (fun k => (I 164 k).toInt) t.toInt.toNat rw.toInt.toNat) now.toInt.toNat 0 = (be.toInt.toNat, cm.toInt) → (0 ≤ be.toInt ∧ be.toInt ≤ 100) → (0 ≤ cm.toInt ∧ cm.toInt ≤ 30000) → XW 344 mr_344 none (d + 2) 0 0 Q (134, [(9, .int l), (8, .int cm), (7, .int mo), (6, .int be), (5, .int t), (4, .int now), (0, .ref 94), (1, .int wk), (2, .int rw), (3, .int wt)], [], (sh, I, L, R))) : ∀ (z : Nat) (l cm mo be : Int32), -1 ≤ l.toInt → l.toInt ≤ now.toInt → l.toInt + 1 < z → 0 ≤ mo.toInt → mo.toInt ≤ 199 * (now.toInt - l.toInt) → ((l.toInt = now.toInt ∧ mo.toInt = 0 ∧ be.toInt = now.toInt ∧ cm.toInt = 0) ∨ (l.toInt < now.toInt ∧ be.toInt = l.toInt + 1 ∧ cm.toInt = mo.toInt ∧ mo.toInt ≤ lnRoom (I 163) wt.toInt.toNat (fun k => (I 164 k).toInt) t.toInt.toNat rw.toInt.toNat ∧ fallS (I 162) (lnRoom (I 163) wt.toInt.toNat (fun k => (I 164 k).toInt) t.toInt.toNat rw.toInt.toNat) now.toInt.toNat 0 = fallS (I 162) (lnRoom (I 163) wt.toInt.toNat (fun k => (I 164 k).toInt) t.toInt.toNat rw.toInt.toNat) (l.toInt + 1).toNat mo.toInt) ∨ (l.toInt < now.toInt ∧ lnRoom (I 163) wt.toInt.toNat (fun k => (I 164 k).toInt) t.toInt.toNat rw.toInt.toNat < mo.toInt ∧ 0 ≤ be.toInt ∧ be.toInt ≤ now.toInt ∧ 0 ≤ cm.toInt ∧ cm.toInt ≤ 30000 ∧ fallS (I 162) (lnRoom (I 163) wt.toInt.toNat (fun k => (I 164 k).toInt) t.toInt.toNat rw.toInt.toNat) now.toInt.toNat 0 = (be.toInt.toNat, cm.toInt))) → XW 344 mr_344 none (d + 2) 0 0 Q (80, [(9, .int l), (8, .int cm), (7, .int mo), (6, .int be), (5, .int t), (4, .int now), (0, .ref 94), (1, .int wk), (2, .int rw), (3, .int wt)], [], (sh, I, L, R)) := by
  have c94 : sh[94]? = some (.inr 12) := hw.1 94 _ rfl
  have c162 : sh[162]? = some (.inl (.int, 100)) := hw.1 162 _ rfl
  have r94_102 : R 94 102 = some 162 := hw.2.1 94 102 _ rfl
  have z0 : (0 : Int32).toInt = 0 := rfl
  intro z
  induction z with
  | zero =>
    intro l cm mo be h1 h2 hz h3 h4 hinv
    exfalso
    omega
  | succ z ih =>
    intro l cm mo be h1 h2 hz h3 h4 hinv
    refine XW.fam (S' := (82, [(9, .int l), (8, .int cm), (7, .int mo), (6, .int be), (5, .int t), (4, .int now), (0, .ref 94), (1, .int wk), (2, .int rw), (3, .int wt)], [.int l], (sh, I, L, R))) (M := mr_344) rfl (show mcode 344 80 = some (80, .iload 9, 2, 0, 0, 0, _) from rfl) (Or.inl ⟨.int l, rfl, rfl⟩) ?_
    cases k1 : bcmp .lt l 0 with
    | true =>
      have gk1 : (l).toInt < 0 := icT (c := .lt) (a := (l).toInt) (b := 0) rfl (by decide) k1
      refine XW.fam (S' := (134, [(9, .int l), (8, .int cm), (7, .int mo), (6, .int be), (5, .int t), (4, .int now), (0, .ref 94), (1, .int wk), (2, .int rw), (3, .int wt)], [], (sh, I, L, R))) (M := mr_344) rfl (show mcode 344 82 = some (82, .ifCond .lt 52, 3, 134, 0, 0, _) from rfl) (Or.inr (Or.inl ⟨134, [], by simp [brn, k1], rfl⟩)) ?_
      refine K l cm mo be ?_ ?_ ?_
      · rcases hinv with ⟨a1, -⟩ | ⟨a1, a2, a3, a4, a5⟩ | ⟨-, -, -, -, -, -, a⟩
        · omega
        · have e0 : (l.toInt + 1).toNat = 0 := by omega
          have e1 : be.toInt.toNat = 0 := by omega
          rw [a5, e0, e1, a3]
          rfl
        · exact a
      · rcases hinv with a | a | a <;> omega
      · rcases hinv with a | a | a <;> omega
    | false =>
      have gk1 : ¬ ((l).toInt < 0) := icF (c := .lt) (a := (l).toInt) (b := 0) rfl (by decide) k1
      refine XW.fam (S' := (85, [(9, .int l), (8, .int cm), (7, .int mo), (6, .int be), (5, .int t), (4, .int now), (0, .ref 94), (1, .int wk), (2, .int rw), (3, .int wt)], [], (sh, I, L, R))) (M := mr_344) rfl (show mcode 344 82 = some (82, .ifCond .lt 52, 3, 134, 0, 0, _) from rfl) (Or.inr (Or.inl ⟨85, [], by simp [brn, k1], rfl⟩)) ?_
      refine XW.fam (S' := (87, [(9, .int l), (8, .int cm), (7, .int mo), (6, .int be), (5, .int t), (4, .int now), (0, .ref 94), (1, .int wk), (2, .int rw), (3, .int wt)], [.int l], (sh, I, L, R))) (M := mr_344) rfl (show mcode 344 85 = some (85, .iload 9, 2, 0, 0, 0, _) from rfl) (Or.inl ⟨.int l, rfl, rfl⟩) ?_
      refine XW.fam (S' := (89, [(9, .int l), (8, .int cm), (7, .int mo), (6, .int be), (5, .int t), (4, .int now), (0, .ref 94), (1, .int wk), (2, .int rw), (3, .int wt)], [.int now, .int l], (sh, I, L, R))) (M := mr_344) rfl (show mcode 344 87 = some (87, .iload 4, 2, 0, 0, 0, _) from rfl) (Or.inl ⟨.int now, rfl, rfl⟩) ?_
      cases k2 : bcmp .ge l now with
      | true =>
        have gk2 : (now).toInt ≤ (l).toInt := icT (c := .ge) (a := (l).toInt) (b := (now).toInt) rfl rfl k2
        refine XW.fam (S' := (104, [(9, .int l), (8, .int cm), (7, .int mo), (6, .int be), (5, .int t), (4, .int now), (0, .ref 94), (1, .int wk), (2, .int rw), (3, .int wt)], [], (sh, I, L, R))) (M := mr_344) rfl (show mcode 344 89 = some (89, .if_icmp .ge 15, 3, 104, 0, 0, _) from rfl) (Or.inr (Or.inl ⟨104, [], by simp [brn, k2], rfl⟩)) ?_
        refine XW.fam (S' := (105, [(9, .int l), (8, .int cm), (7, .int mo), (6, .int be), (5, .int t), (4, .int now), (0, .ref 94), (1, .int wk), (2, .int rw), (3, .int wt)], [.ref 94], (sh, I, L, R))) (M := mr_344) rfl (show mcode 344 104 = some (104, .aload_n 0, 1, 0, 0, 0, _) from rfl) (Or.inl ⟨.ref 94, rfl, rfl⟩) ?_
        refine XW.fam (S' := (107, [(9, .int l), (8, .int cm), (7, .int mo), (6, .int be), (5, .int t), (4, .int now), (0, .ref 94), (1, .int wk), (2, .int rw), (3, .int wt)], [.int t, .ref 94], (sh, I, L, R))) (M := mr_344) rfl (show mcode 344 105 = some (105, .iload 5, 2, 0, 0, 0, _) from rfl) (Or.inl ⟨.int t, rfl, rfl⟩) ?_
        refine XW.fam (S' := (108, [(9, .int l), (8, .int cm), (7, .int mo), (6, .int be), (5, .int t), (4, .int now), (0, .ref 94), (1, .int wk), (2, .int rw), (3, .int wt)], [.int rw, .int t, .ref 94], (sh, I, L, R))) (M := mr_344) rfl (show mcode 344 107 = some (107, .iload_n 2, 1, 0, 0, 0, _) from rfl) (Or.inl ⟨.int rw, rfl, rfl⟩) ?_
        refine XW.fam (S' := (109, [(9, .int l), (8, .int cm), (7, .int mo), (6, .int be), (5, .int t), (4, .int now), (0, .ref 94), (1, .int wk), (2, .int rw), (3, .int wt)], [.int wt, .int rw, .int t, .ref 94], (sh, I, L, R))) (M := mr_344) rfl (show mcode 344 108 = some (108, .iload_n 3, 1, 0, 0, 0, _) from rfl) (Or.inl ⟨.int wt, rfl, rfl⟩) ?_
        refine XW.fam (S' := (111, [(9, .int l), (8, .int cm), (7, .int mo), (6, .int be), (5, .int t), (4, .int now), (0, .ref 94), (1, .int wk), (2, .int rw), (3, .int wt)], [.int mo, .int wt, .int rw, .int t, .ref 94], (sh, I, L, R))) (M := mr_344) rfl (show mcode 344 109 = some (109, .iload 7, 2, 0, 0, 0, _) from rfl) (Or.inl ⟨.int mo, rfl, rfl⟩) ?_
        refine XW.call (d' := d + 1) (mc' := 0) (ms' := 0) (av := [.ref 94, .int t, .int rw, .int wt, .int mo]) (rest := []) (M := mr_344) (Ma := mr_345) rfl (show mcode 344 111 = some (111, .invokevirtual 585, 3, 345, 0, 0, _) from rfl) rfl (by decide) (by decide) ⟨rfl, 94, _, rfl, c94⟩ rfl rfl (show 0 ≤ 8 by decide) (tc_can (d := d) hw (by omega) hr ht hwt (by omega)) (by omega) (Nat.zero_le _) (Nat.zero_le _) (fun rQ3 wQ3 Q3 => ?_)
        obtain ⟨hQ3, rfl⟩ := Q3
        rcases hQ3 with ⟨rfl, gc⟩ | ⟨rfl, gc⟩
        · skip
          refine XW.fam (S' := (117, [(9, .int l), (8, .int cm), (7, .int mo), (6, .int be), (5, .int t), (4, .int now), (0, .ref 94), (1, .int wk), (2, .int rw), (3, .int wt)], [], (sh, I, L, R))) (M := mr_344) rfl (show mcode 344 114 = some (114, .ifCond .ne 6, 3, 120, 0, 0, _) from rfl) (Or.inr (Or.inl ⟨117, [], rfl, rfl⟩)) ?_
          refine XW.fam (S' := (128, [(9, .int l), (8, .int cm), (7, .int mo), (6, .int be), (5, .int t), (4, .int now), (0, .ref 94), (1, .int wk), (2, .int rw), (3, .int wt)], [], (sh, I, L, R))) (M := mr_344) rfl (show mcode 344 117 = some (117, .goto 11, 3, 128, 0, 0, _) from rfl) (Or.inr (Or.inl ⟨128, [], rfl, rfl⟩)) ?_
          refine XW.fam (S' := (131, [(9, .int (l + Int32.ofInt (-1))), (8, .int cm), (7, .int mo), (6, .int be), (5, .int t), (4, .int now), (0, .ref 94), (1, .int wk), (2, .int rw), (3, .int wt)], [], (sh, I, L, R))) (M := mr_344) rfl (show mcode 344 128 = some (128, .iinc 9 (-1), 3, 0, 0, 0, _) from rfl) (Or.inr (Or.inr (Or.inr (Or.inr (Or.inr (Or.inr (Or.inr (Or.inr (Or.inr ⟨9, (-1), l, rfl, rfl, by decide, rfl⟩))))))))) ?_
          refine XW.fam (S' := (80, [(9, .int (l + Int32.ofInt (-1))), (8, .int cm), (7, .int mo), (6, .int be), (5, .int t), (4, .int now), (0, .ref 94), (1, .int wk), (2, .int rw), (3, .int wt)], [], (sh, I, L, R))) (M := mr_344) rfl (show mcode 344 131 = some (131, .goto (-51), 3, 80, 0, 0, _) from rfl) (Or.inr (Or.inl ⟨80, [], rfl, rfl⟩)) ?_
          obtain ⟨l9, el9⟩ : ∃ z : Int32, l + Int32.ofInt (-1) = z := ⟨_, rfl⟩
          have eo : l9.toInt = l.toInt - 1 := by rw [← el9]; exact decO (by omega) (by omega)
          rw [el9]
          clear el9
          refine XW.sub (ls' := [(9, .int l9), (8, .int cm), (7, .int mo), (6, .int be), (5, .int t), (4, .int now), (0, .ref 94), (1, .int wk), (2, .int rw), (3, .int wt)]) (List.forall_mem_cons.mpr ⟨List.mem_of_getElem? (i := 0) rfl, (List.forall_mem_cons.mpr ⟨List.mem_of_getElem? (i := 1) rfl, (List.forall_mem_cons.mpr ⟨List.mem_of_getElem? (i := 2) rfl, (List.forall_mem_cons.mpr ⟨List.mem_of_getElem? (i := 3) rfl, (List.forall_mem_cons.mpr ⟨List.mem_of_getElem? (i := 4) rfl, (List.forall_mem_cons.mpr ⟨List.mem_of_getElem? (i := 5) rfl, (List.forall_mem_cons.mpr ⟨List.mem_of_getElem? (i := 6) rfl, (List.forall_mem_cons.mpr ⟨List.mem_of_getElem? (i := 7) rfl, (List.forall_mem_cons.mpr ⟨List.mem_of_getElem? (i := 8) rfl, (List.forall_mem_cons.mpr ⟨List.mem_of_getElem? (i := 9) rfl, (fun _ h => absurd h List.not_mem_nil)⟩)⟩)⟩)⟩)⟩)⟩)⟩)⟩)⟩)⟩) ?_
          have el : (l9.toInt + 1).toNat = l.toInt.toNat := by omega
          refine ih l9 cm mo be (by omega) (by omega) (by omega) (by omega) (by omega) ?_
          rcases hinv with ⟨a1, a2, a3, a4⟩ | ⟨a1, -⟩ | ⟨a1, -⟩
          · refine Or.inr (Or.inr ⟨by omega, by omega, by omega, by omega, by omega, by omega, ?_⟩)
            have hbe : be = now := Int32.toInt_inj.mp a3
            rw [hbe, a4]
            cases hN : now.toInt.toNat with
            | zero => rfl
            | succ n =>
              have hHn := hh n
              show (if 0 + (I 162 n).toInt ≤ lnRoom (I 163) wt.toInt.toNat (fun k => (I 164 k).toInt) t.toInt.toNat rw.toInt.toNat then fallS (I 162) (lnRoom (I 163) wt.toInt.toNat (fun k => (I 164 k).toInt) t.toInt.toNat rw.toInt.toNat) n (0 + (I 162 n).toInt) else (n + 1, 0)) = _
              exact if_neg (by omega)
          · omega
          · omega
        · skip
          refine XW.fam (S' := (120, [(9, .int l), (8, .int cm), (7, .int mo), (6, .int be), (5, .int t), (4, .int now), (0, .ref 94), (1, .int wk), (2, .int rw), (3, .int wt)], [], (sh, I, L, R))) (M := mr_344) rfl (show mcode 344 114 = some (114, .ifCond .ne 6, 3, 120, 0, 0, _) from rfl) (Or.inr (Or.inl ⟨120, [], rfl, rfl⟩)) ?_
          refine XW.fam (S' := (122, [(9, .int l), (8, .int cm), (7, .int mo), (6, .int be), (5, .int t), (4, .int now), (0, .ref 94), (1, .int wk), (2, .int rw), (3, .int wt)], [.int l], (sh, I, L, R))) (M := mr_344) rfl (show mcode 344 120 = some (120, .iload 9, 2, 0, 0, 0, _) from rfl) (Or.inl ⟨.int l, rfl, rfl⟩) ?_
          refine XW.fam (S' := (124, [(6, .int l), (9, .int l), (8, .int cm), (7, .int mo), (5, .int t), (4, .int now), (0, .ref 94), (1, .int wk), (2, .int rw), (3, .int wt)], [], (sh, I, L, R))) (M := mr_344) rfl (show mcode 344 122 = some (122, .istore 6, 2, 0, 0, 0, _) from rfl) (Or.inr (Or.inr (Or.inr (Or.inr (Or.inr (Or.inr (Or.inl ⟨_, [], _, rfl, rfl, rfl⟩))))))) ?_
          refine XW.fam (S' := (126, [(6, .int l), (9, .int l), (8, .int cm), (7, .int mo), (5, .int t), (4, .int now), (0, .ref 94), (1, .int wk), (2, .int rw), (3, .int wt)], [.int mo], (sh, I, L, R))) (M := mr_344) rfl (show mcode 344 124 = some (124, .iload 7, 2, 0, 0, 0, _) from rfl) (Or.inl ⟨.int mo, rfl, rfl⟩) ?_
          refine XW.fam (S' := (128, [(8, .int mo), (6, .int l), (9, .int l), (7, .int mo), (5, .int t), (4, .int now), (0, .ref 94), (1, .int wk), (2, .int rw), (3, .int wt)], [], (sh, I, L, R))) (M := mr_344) rfl (show mcode 344 126 = some (126, .istore 8, 2, 0, 0, 0, _) from rfl) (Or.inr (Or.inr (Or.inr (Or.inr (Or.inr (Or.inr (Or.inl ⟨_, [], _, rfl, rfl, rfl⟩))))))) ?_
          refine XW.fam (S' := (131, [(9, .int (l + Int32.ofInt (-1))), (8, .int mo), (6, .int l), (7, .int mo), (5, .int t), (4, .int now), (0, .ref 94), (1, .int wk), (2, .int rw), (3, .int wt)], [], (sh, I, L, R))) (M := mr_344) rfl (show mcode 344 128 = some (128, .iinc 9 (-1), 3, 0, 0, 0, _) from rfl) (Or.inr (Or.inr (Or.inr (Or.inr (Or.inr (Or.inr (Or.inr (Or.inr (Or.inr ⟨9, (-1), l, rfl, rfl, by decide, rfl⟩))))))))) ?_
          refine XW.fam (S' := (80, [(9, .int (l + Int32.ofInt (-1))), (8, .int mo), (6, .int l), (7, .int mo), (5, .int t), (4, .int now), (0, .ref 94), (1, .int wk), (2, .int rw), (3, .int wt)], [], (sh, I, L, R))) (M := mr_344) rfl (show mcode 344 131 = some (131, .goto (-51), 3, 80, 0, 0, _) from rfl) (Or.inr (Or.inl ⟨80, [], rfl, rfl⟩)) ?_
          obtain ⟨l9, el9⟩ : ∃ z : Int32, l + Int32.ofInt (-1) = z := ⟨_, rfl⟩
          have eo : l9.toInt = l.toInt - 1 := by rw [← el9]; exact decO (by omega) (by omega)
          rw [el9]
          clear el9
          refine XW.sub (ls' := [(9, .int l9), (8, .int mo), (7, .int mo), (6, .int l), (5, .int t), (4, .int now), (0, .ref 94), (1, .int wk), (2, .int rw), (3, .int wt)]) (List.forall_mem_cons.mpr ⟨List.mem_of_getElem? (i := 0) rfl, (List.forall_mem_cons.mpr ⟨List.mem_of_getElem? (i := 1) rfl, (List.forall_mem_cons.mpr ⟨List.mem_of_getElem? (i := 3) rfl, (List.forall_mem_cons.mpr ⟨List.mem_of_getElem? (i := 2) rfl, (List.forall_mem_cons.mpr ⟨List.mem_of_getElem? (i := 4) rfl, (List.forall_mem_cons.mpr ⟨List.mem_of_getElem? (i := 5) rfl, (List.forall_mem_cons.mpr ⟨List.mem_of_getElem? (i := 6) rfl, (List.forall_mem_cons.mpr ⟨List.mem_of_getElem? (i := 7) rfl, (List.forall_mem_cons.mpr ⟨List.mem_of_getElem? (i := 8) rfl, (List.forall_mem_cons.mpr ⟨List.mem_of_getElem? (i := 9) rfl, (fun _ h => absurd h List.not_mem_nil)⟩)⟩)⟩)⟩)⟩)⟩)⟩)⟩)⟩)⟩) ?_
          have el : (l9.toInt + 1).toNat = l.toInt.toNat := by omega
          refine ih l9 mo mo l (by omega) (by omega) (by omega) (by omega) (by omega) ?_
          rcases hinv with ⟨a1, a2, a3, a4⟩ | ⟨a1, -⟩ | ⟨a1, -⟩
          · refine Or.inr (Or.inl ⟨by omega, by omega, by omega, gc, ?_⟩)
            rw [el, a1, a2]
          · omega
          · omega
      | false =>
        have gk2 : ¬ ((now).toInt ≤ (l).toInt) := icF (c := .ge) (a := (l).toInt) (b := (now).toInt) rfl rfl k2
        refine XW.fam (S' := (92, [(9, .int l), (8, .int cm), (7, .int mo), (6, .int be), (5, .int t), (4, .int now), (0, .ref 94), (1, .int wk), (2, .int rw), (3, .int wt)], [], (sh, I, L, R))) (M := mr_344) rfl (show mcode 344 89 = some (89, .if_icmp .ge 15, 3, 104, 0, 0, _) from rfl) (Or.inr (Or.inl ⟨92, [], by simp [brn, k2], rfl⟩)) ?_
        refine XW.fam (S' := (94, [(9, .int l), (8, .int cm), (7, .int mo), (6, .int be), (5, .int t), (4, .int now), (0, .ref 94), (1, .int wk), (2, .int rw), (3, .int wt)], [.int mo], (sh, I, L, R))) (M := mr_344) rfl (show mcode 344 92 = some (92, .iload 7, 2, 0, 0, 0, _) from rfl) (Or.inl ⟨.int mo, rfl, rfl⟩) ?_
        refine XW.fam (S' := (95, [(9, .int l), (8, .int cm), (7, .int mo), (6, .int be), (5, .int t), (4, .int now), (0, .ref 94), (1, .int wk), (2, .int rw), (3, .int wt)], [.ref 94, .int mo], (sh, I, L, R))) (M := mr_344) rfl (show mcode 344 94 = some (94, .aload_n 0, 1, 0, 0, 0, _) from rfl) (Or.inl ⟨.ref 94, rfl, rfl⟩) ?_
        refine XW.fam (S' := (98, [(9, .int l), (8, .int cm), (7, .int mo), (6, .int be), (5, .int t), (4, .int now), (0, .ref 94), (1, .int wk), (2, .int rw), (3, .int wt)], [.ref 162, .int mo], (sh, I, L, R))) (M := mr_344) rfl (show mcode 344 95 = some (95, .getfield 226, 3, 12, 102, 0, _) from rfl) (Or.inr (Or.inr (Or.inr (Or.inr (Or.inr (Or.inr (Or.inr (Or.inl ⟨_, _, rfl, fl_ld c94 r94_102 (by decide) (by decide), rfl⟩)))))))) ?_
        refine XW.fam (S' := (100, [(9, .int l), (8, .int cm), (7, .int mo), (6, .int be), (5, .int t), (4, .int now), (0, .ref 94), (1, .int wk), (2, .int rw), (3, .int wt)], [.int l, .ref 162, .int mo], (sh, I, L, R))) (M := mr_344) rfl (show mcode 344 98 = some (98, .iload 9, 2, 0, 0, 0, _) from rfl) (Or.inl ⟨.int l, rfl, rfl⟩) ?_
        have hin4 : inR l 100 = true := inR_of (by omega) (by omega)
        refine XW.fam (S' := (101, [(9, .int l), (8, .int cm), (7, .int mo), (6, .int be), (5, .int t), (4, .int now), (0, .ref 94), (1, .int wk), (2, .int rw), (3, .int wt)], [.int (I 162 (l).toNatClampNeg), .int mo], (sh, I, L, R))) (M := mr_344) rfl (show mcode 344 100 = some (100, .iaload, 1, 0, 0, 0, _) from rfl) (Or.inr (Or.inr (Or.inl ⟨_, lda_i c162 hin4, rfl⟩))) ?_
        have hH : 0 ≤ (I 162 (l).toNatClampNeg).toInt ∧ (I 162 (l).toNatClampNeg).toInt ≤ 199 := hh _
        have es := sumS (a := mo) (b := I 162 (l).toNatClampNeg) (by omega) (by omega)
        refine XW.fam (S' := (102, [(9, .int l), (8, .int cm), (7, .int mo), (6, .int be), (5, .int t), (4, .int now), (0, .ref 94), (1, .int wk), (2, .int rw), (3, .int wt)], [.int (mo + (I 162 (l).toNatClampNeg))], (sh, I, L, R))) (M := mr_344) rfl (show mcode 344 101 = some (101, .iadd, 1, 0, 0, 0, _) from rfl) (Or.inr (Or.inr (Or.inr (Or.inr (Or.inr (Or.inl ⟨_, rfl, rfl⟩)))))) ?_
        refine XW.fam (S' := (104, [(7, .int (mo + (I 162 (l).toNatClampNeg))), (9, .int l), (8, .int cm), (6, .int be), (5, .int t), (4, .int now), (0, .ref 94), (1, .int wk), (2, .int rw), (3, .int wt)], [], (sh, I, L, R))) (M := mr_344) rfl (show mcode 344 102 = some (102, .istore 7, 2, 0, 0, 0, _) from rfl) (Or.inr (Or.inr (Or.inr (Or.inr (Or.inr (Or.inr (Or.inl ⟨_, [], _, rfl, rfl, rfl⟩))))))) ?_
        refine XW.fam (S' := (105, [(7, .int (mo + (I 162 (l).toNatClampNeg))), (9, .int l), (8, .int cm), (6, .int be), (5, .int t), (4, .int now), (0, .ref 94), (1, .int wk), (2, .int rw), (3, .int wt)], [.ref 94], (sh, I, L, R))) (M := mr_344) rfl (show mcode 344 104 = some (104, .aload_n 0, 1, 0, 0, 0, _) from rfl) (Or.inl ⟨.ref 94, rfl, rfl⟩) ?_
        refine XW.fam (S' := (107, [(7, .int (mo + (I 162 (l).toNatClampNeg))), (9, .int l), (8, .int cm), (6, .int be), (5, .int t), (4, .int now), (0, .ref 94), (1, .int wk), (2, .int rw), (3, .int wt)], [.int t, .ref 94], (sh, I, L, R))) (M := mr_344) rfl (show mcode 344 105 = some (105, .iload 5, 2, 0, 0, 0, _) from rfl) (Or.inl ⟨.int t, rfl, rfl⟩) ?_
        refine XW.fam (S' := (108, [(7, .int (mo + (I 162 (l).toNatClampNeg))), (9, .int l), (8, .int cm), (6, .int be), (5, .int t), (4, .int now), (0, .ref 94), (1, .int wk), (2, .int rw), (3, .int wt)], [.int rw, .int t, .ref 94], (sh, I, L, R))) (M := mr_344) rfl (show mcode 344 107 = some (107, .iload_n 2, 1, 0, 0, 0, _) from rfl) (Or.inl ⟨.int rw, rfl, rfl⟩) ?_
        refine XW.fam (S' := (109, [(7, .int (mo + (I 162 (l).toNatClampNeg))), (9, .int l), (8, .int cm), (6, .int be), (5, .int t), (4, .int now), (0, .ref 94), (1, .int wk), (2, .int rw), (3, .int wt)], [.int wt, .int rw, .int t, .ref 94], (sh, I, L, R))) (M := mr_344) rfl (show mcode 344 108 = some (108, .iload_n 3, 1, 0, 0, 0, _) from rfl) (Or.inl ⟨.int wt, rfl, rfl⟩) ?_
        refine XW.fam (S' := (111, [(7, .int (mo + (I 162 (l).toNatClampNeg))), (9, .int l), (8, .int cm), (6, .int be), (5, .int t), (4, .int now), (0, .ref 94), (1, .int wk), (2, .int rw), (3, .int wt)], [.int (mo + (I 162 (l).toNatClampNeg)), .int wt, .int rw, .int t, .ref 94], (sh, I, L, R))) (M := mr_344) rfl (show mcode 344 109 = some (109, .iload 7, 2, 0, 0, 0, _) from rfl) (Or.inl ⟨.int (mo + (I 162 (l).toNatClampNeg)), rfl, rfl⟩) ?_
        refine XW.call (d' := d + 1) (mc' := 0) (ms' := 0) (av := [.ref 94, .int t, .int rw, .int wt, .int (mo + (I 162 (l).toNatClampNeg))]) (rest := []) (M := mr_344) (Ma := mr_345) rfl (show mcode 344 111 = some (111, .invokevirtual 585, 3, 345, 0, 0, _) from rfl) rfl (by decide) (by decide) ⟨rfl, 94, _, rfl, c94⟩ rfl rfl (show 0 ≤ 8 by decide) (tc_can (d := d) hw (by omega) hr ht hwt (by omega)) (by omega) (Nat.zero_le _) (Nat.zero_le _) (fun rQ5 wQ5 Q5 => ?_)
        obtain ⟨hQ5, rfl⟩ := Q5
        rcases hQ5 with ⟨rfl, gc⟩ | ⟨rfl, gc⟩
        · skip
          refine XW.fam (S' := (117, [(7, .int (mo + (I 162 (l).toNatClampNeg))), (9, .int l), (8, .int cm), (6, .int be), (5, .int t), (4, .int now), (0, .ref 94), (1, .int wk), (2, .int rw), (3, .int wt)], [], (sh, I, L, R))) (M := mr_344) rfl (show mcode 344 114 = some (114, .ifCond .ne 6, 3, 120, 0, 0, _) from rfl) (Or.inr (Or.inl ⟨117, [], rfl, rfl⟩)) ?_
          refine XW.fam (S' := (128, [(7, .int (mo + (I 162 (l).toNatClampNeg))), (9, .int l), (8, .int cm), (6, .int be), (5, .int t), (4, .int now), (0, .ref 94), (1, .int wk), (2, .int rw), (3, .int wt)], [], (sh, I, L, R))) (M := mr_344) rfl (show mcode 344 117 = some (117, .goto 11, 3, 128, 0, 0, _) from rfl) (Or.inr (Or.inl ⟨128, [], rfl, rfl⟩)) ?_
          refine XW.fam (S' := (131, [(9, .int (l + Int32.ofInt (-1))), (7, .int (mo + (I 162 (l).toNatClampNeg))), (8, .int cm), (6, .int be), (5, .int t), (4, .int now), (0, .ref 94), (1, .int wk), (2, .int rw), (3, .int wt)], [], (sh, I, L, R))) (M := mr_344) rfl (show mcode 344 128 = some (128, .iinc 9 (-1), 3, 0, 0, 0, _) from rfl) (Or.inr (Or.inr (Or.inr (Or.inr (Or.inr (Or.inr (Or.inr (Or.inr (Or.inr ⟨9, (-1), l, rfl, rfl, by decide, rfl⟩))))))))) ?_
          refine XW.fam (S' := (80, [(9, .int (l + Int32.ofInt (-1))), (7, .int (mo + (I 162 (l).toNatClampNeg))), (8, .int cm), (6, .int be), (5, .int t), (4, .int now), (0, .ref 94), (1, .int wk), (2, .int rw), (3, .int wt)], [], (sh, I, L, R))) (M := mr_344) rfl (show mcode 344 131 = some (131, .goto (-51), 3, 80, 0, 0, _) from rfl) (Or.inr (Or.inl ⟨80, [], rfl, rfl⟩)) ?_
          obtain ⟨l9, el9⟩ : ∃ z : Int32, l + Int32.ofInt (-1) = z := ⟨_, rfl⟩
          have eo : l9.toInt = l.toInt - 1 := by rw [← el9]; exact decO (by omega) (by omega)
          rw [el9]
          clear el9
          refine XW.sub (ls' := [(9, .int l9), (8, .int cm), (7, .int (mo + (I 162 (l).toNatClampNeg))), (6, .int be), (5, .int t), (4, .int now), (0, .ref 94), (1, .int wk), (2, .int rw), (3, .int wt)]) (List.forall_mem_cons.mpr ⟨List.mem_of_getElem? (i := 0) rfl, (List.forall_mem_cons.mpr ⟨List.mem_of_getElem? (i := 2) rfl, (List.forall_mem_cons.mpr ⟨List.mem_of_getElem? (i := 1) rfl, (List.forall_mem_cons.mpr ⟨List.mem_of_getElem? (i := 3) rfl, (List.forall_mem_cons.mpr ⟨List.mem_of_getElem? (i := 4) rfl, (List.forall_mem_cons.mpr ⟨List.mem_of_getElem? (i := 5) rfl, (List.forall_mem_cons.mpr ⟨List.mem_of_getElem? (i := 6) rfl, (List.forall_mem_cons.mpr ⟨List.mem_of_getElem? (i := 7) rfl, (List.forall_mem_cons.mpr ⟨List.mem_of_getElem? (i := 8) rfl, (List.forall_mem_cons.mpr ⟨List.mem_of_getElem? (i := 9) rfl, (fun _ h => absurd h List.not_mem_nil)⟩)⟩)⟩)⟩)⟩)⟩)⟩)⟩)⟩)⟩) ?_
          have el : (l9.toInt + 1).toNat = l.toInt.toNat := by omega
          refine ih l9 cm (mo + (I 162 (l).toNatClampNeg)) be (by omega) (by omega) (by omega) (by omega) (by omega) ?_
          have ek : (l).toNatClampNeg = l.toInt.toNat := rfl
          rw [ek] at es hH
          have hF : ∀ c : Int, fallS (I 162) (lnRoom (I 163) wt.toInt.toNat (fun k => (I 164 k).toInt) t.toInt.toNat rw.toInt.toNat) (l.toInt + 1).toNat c = (if c + (I 162 l.toInt.toNat).toInt ≤ lnRoom (I 163) wt.toInt.toNat (fun k => (I 164 k).toInt) t.toInt.toNat rw.toInt.toNat then fallS (I 162) (lnRoom (I 163) wt.toInt.toNat (fun k => (I 164 k).toInt) t.toInt.toNat rw.toInt.toNat) l.toInt.toNat (c + (I 162 l.toInt.toNat).toInt) else (l.toInt.toNat + 1, c)) := by
            intro c
            have e1 : (l.toInt + 1).toNat = l.toInt.toNat + 1 := by omega
            rw [e1]
            rfl
          have em : ((mo + (I 162 (l).toNatClampNeg))).toInt = mo.toInt + (I 162 l.toInt.toNat).toInt := es
          rcases hinv with ⟨a1, -⟩ | ⟨a1, a2, a3, a4, a5⟩ | ⟨a1, a2, a3, a4, a5, a6, a7⟩
          · omega
          · refine Or.inr (Or.inr ⟨by omega, by omega, by omega, by omega, by omega, by omega, ?_⟩)
            rw [a5, hF, if_neg (by omega)]
            have e2 : be.toInt.toNat = l.toInt.toNat + 1 := by omega
            rw [e2, a3]
          · exact Or.inr (Or.inr ⟨by omega, by omega, a3, a4, a5, a6, a7⟩)
        · skip
          refine XW.fam (S' := (120, [(7, .int (mo + (I 162 (l).toNatClampNeg))), (9, .int l), (8, .int cm), (6, .int be), (5, .int t), (4, .int now), (0, .ref 94), (1, .int wk), (2, .int rw), (3, .int wt)], [], (sh, I, L, R))) (M := mr_344) rfl (show mcode 344 114 = some (114, .ifCond .ne 6, 3, 120, 0, 0, _) from rfl) (Or.inr (Or.inl ⟨120, [], rfl, rfl⟩)) ?_
          refine XW.fam (S' := (122, [(7, .int (mo + (I 162 (l).toNatClampNeg))), (9, .int l), (8, .int cm), (6, .int be), (5, .int t), (4, .int now), (0, .ref 94), (1, .int wk), (2, .int rw), (3, .int wt)], [.int l], (sh, I, L, R))) (M := mr_344) rfl (show mcode 344 120 = some (120, .iload 9, 2, 0, 0, 0, _) from rfl) (Or.inl ⟨.int l, rfl, rfl⟩) ?_
          refine XW.fam (S' := (124, [(6, .int l), (7, .int (mo + (I 162 (l).toNatClampNeg))), (9, .int l), (8, .int cm), (5, .int t), (4, .int now), (0, .ref 94), (1, .int wk), (2, .int rw), (3, .int wt)], [], (sh, I, L, R))) (M := mr_344) rfl (show mcode 344 122 = some (122, .istore 6, 2, 0, 0, 0, _) from rfl) (Or.inr (Or.inr (Or.inr (Or.inr (Or.inr (Or.inr (Or.inl ⟨_, [], _, rfl, rfl, rfl⟩))))))) ?_
          refine XW.fam (S' := (126, [(6, .int l), (7, .int (mo + (I 162 (l).toNatClampNeg))), (9, .int l), (8, .int cm), (5, .int t), (4, .int now), (0, .ref 94), (1, .int wk), (2, .int rw), (3, .int wt)], [.int (mo + (I 162 (l).toNatClampNeg))], (sh, I, L, R))) (M := mr_344) rfl (show mcode 344 124 = some (124, .iload 7, 2, 0, 0, 0, _) from rfl) (Or.inl ⟨.int (mo + (I 162 (l).toNatClampNeg)), rfl, rfl⟩) ?_
          refine XW.fam (S' := (128, [(8, .int (mo + (I 162 (l).toNatClampNeg))), (6, .int l), (7, .int (mo + (I 162 (l).toNatClampNeg))), (9, .int l), (5, .int t), (4, .int now), (0, .ref 94), (1, .int wk), (2, .int rw), (3, .int wt)], [], (sh, I, L, R))) (M := mr_344) rfl (show mcode 344 126 = some (126, .istore 8, 2, 0, 0, 0, _) from rfl) (Or.inr (Or.inr (Or.inr (Or.inr (Or.inr (Or.inr (Or.inl ⟨_, [], _, rfl, rfl, rfl⟩))))))) ?_
          refine XW.fam (S' := (131, [(9, .int (l + Int32.ofInt (-1))), (8, .int (mo + (I 162 (l).toNatClampNeg))), (6, .int l), (7, .int (mo + (I 162 (l).toNatClampNeg))), (5, .int t), (4, .int now), (0, .ref 94), (1, .int wk), (2, .int rw), (3, .int wt)], [], (sh, I, L, R))) (M := mr_344) rfl (show mcode 344 128 = some (128, .iinc 9 (-1), 3, 0, 0, 0, _) from rfl) (Or.inr (Or.inr (Or.inr (Or.inr (Or.inr (Or.inr (Or.inr (Or.inr (Or.inr ⟨9, (-1), l, rfl, rfl, by decide, rfl⟩))))))))) ?_
          refine XW.fam (S' := (80, [(9, .int (l + Int32.ofInt (-1))), (8, .int (mo + (I 162 (l).toNatClampNeg))), (6, .int l), (7, .int (mo + (I 162 (l).toNatClampNeg))), (5, .int t), (4, .int now), (0, .ref 94), (1, .int wk), (2, .int rw), (3, .int wt)], [], (sh, I, L, R))) (M := mr_344) rfl (show mcode 344 131 = some (131, .goto (-51), 3, 80, 0, 0, _) from rfl) (Or.inr (Or.inl ⟨80, [], rfl, rfl⟩)) ?_
          obtain ⟨l9, el9⟩ : ∃ z : Int32, l + Int32.ofInt (-1) = z := ⟨_, rfl⟩
          have eo : l9.toInt = l.toInt - 1 := by rw [← el9]; exact decO (by omega) (by omega)
          rw [el9]
          clear el9
          refine XW.sub (ls' := [(9, .int l9), (8, .int (mo + (I 162 (l).toNatClampNeg))), (7, .int (mo + (I 162 (l).toNatClampNeg))), (6, .int l), (5, .int t), (4, .int now), (0, .ref 94), (1, .int wk), (2, .int rw), (3, .int wt)]) (List.forall_mem_cons.mpr ⟨List.mem_of_getElem? (i := 0) rfl, (List.forall_mem_cons.mpr ⟨List.mem_of_getElem? (i := 1) rfl, (List.forall_mem_cons.mpr ⟨List.mem_of_getElem? (i := 3) rfl, (List.forall_mem_cons.mpr ⟨List.mem_of_getElem? (i := 2) rfl, (List.forall_mem_cons.mpr ⟨List.mem_of_getElem? (i := 4) rfl, (List.forall_mem_cons.mpr ⟨List.mem_of_getElem? (i := 5) rfl, (List.forall_mem_cons.mpr ⟨List.mem_of_getElem? (i := 6) rfl, (List.forall_mem_cons.mpr ⟨List.mem_of_getElem? (i := 7) rfl, (List.forall_mem_cons.mpr ⟨List.mem_of_getElem? (i := 8) rfl, (List.forall_mem_cons.mpr ⟨List.mem_of_getElem? (i := 9) rfl, (fun _ h => absurd h List.not_mem_nil)⟩)⟩)⟩)⟩)⟩)⟩)⟩)⟩)⟩)⟩) ?_
          have el : (l9.toInt + 1).toNat = l.toInt.toNat := by omega
          refine ih l9 (mo + (I 162 (l).toNatClampNeg)) (mo + (I 162 (l).toNatClampNeg)) l (by omega) (by omega) (by omega) (by omega) (by omega) ?_
          have ek : (l).toNatClampNeg = l.toInt.toNat := rfl
          rw [ek] at es hH
          have hF : ∀ c : Int, fallS (I 162) (lnRoom (I 163) wt.toInt.toNat (fun k => (I 164 k).toInt) t.toInt.toNat rw.toInt.toNat) (l.toInt + 1).toNat c = (if c + (I 162 l.toInt.toNat).toInt ≤ lnRoom (I 163) wt.toInt.toNat (fun k => (I 164 k).toInt) t.toInt.toNat rw.toInt.toNat then fallS (I 162) (lnRoom (I 163) wt.toInt.toNat (fun k => (I 164 k).toInt) t.toInt.toNat rw.toInt.toNat) l.toInt.toNat (c + (I 162 l.toInt.toNat).toInt) else (l.toInt.toNat + 1, c)) := by
            intro c
            have e1 : (l.toInt + 1).toNat = l.toInt.toNat + 1 := by omega
            rw [e1]
            rfl
          have em : ((mo + (I 162 (l).toNatClampNeg))).toInt = mo.toInt + (I 162 l.toInt.toNat).toInt := es
          rcases hinv with ⟨a1, -⟩ | ⟨a1, a2, a3, a4, a5⟩ | ⟨a1, a2, a3, a4, a5, a6, a7⟩
          · omega
          · refine Or.inr (Or.inl ⟨by omega, by omega, rfl, gc, ?_⟩)
            rw [el, em, a5, hF, if_pos (by omega)]
          · omega
theorem go_m {d : Nat} {sh : List mE} {J : Nat → Nat → Int32} {L : Nat → Nat → Int64} {R : Nat → Nat → Option Nat} {wk rw wt t low cm : Int32} (hk : 0 ≤ t.toInt ∧ t.toInt ≤ 7) (hr : 1 ≤ rw.toInt ∧ rw.toInt ≤ 4) (hc : 0 ≤ cm.toInt ∧ cm.toInt ≤ 30000) (hwt : ∀ k : Nat, k < 4 → 0 ≤ (J 164 k).toInt ∧ (J 164 k).toInt ≤ 200000) {Q : Option Value → mW → Prop} : ∀ (z : Nat) {I : Nat → Nat → Int32} (k : Int32), 0 ≤ k.toInt → k.toInt ≤ rw.toInt → rw.toInt - k.toInt < z → wOK (mkT vV []) (wE sh R) (sh, I, L, R) → fresh (sh, I, L, R) → (∀ q k, ¬ q = 164 → I q k = J q k) → (∀ j : Nat, (j : Int) < k.toInt → (I 164 j).toInt = lnGo (J 163) t.toInt.toNat cm.toInt (fun k => (J 164 k).toInt) j) → (∀ j : Nat, k.toInt ≤ (j : Int) → I 164 j = J 164 j) → (∀ {I : Nat → Nat → Int32}, wOK (mkT vV []) (wE sh R) (sh, I, L, R) → fresh (sh, I, L, R) → (∀ q k, ¬ q = 164 → I q k = J q k) → (∀ j : Nat, (j : Int) < rw.toInt → (I 164 j).toInt = lnGo (J 163) t.toInt.toNat cm.toInt (fun k => (J 164 k).toInt) j) → (∀ j : Nat, rw.toInt ≤ (j : Int) → I 164 j = J 164 j) → ∀ k : Int32, XW 344 mr_344 none (d + 2) 0 0 Q (209, [(9, .int k), (8, .int cm), (5, .int t), (4, .int low), (0, .ref 94), (1, .int wk), (2, .int rw), (3, .int wt)], [], (sh, I, L, R))) → XW 344 mr_344 none (d + 2) 0 0 Q (141, [(9, .int k), (8, .int cm), (5, .int t), (4, .int low), (0, .ref 94), (1, .int wk), (2, .int rw), (3, .int wt)], [], (sh, I, L, R)) := by
  intro z
  induction z with
  | zero =>
    intro I k h1 h2 hz hw hf h93 hlo hhi K
    have c94 : sh[94]? = some (.inr 12) := hw.1 94 _ rfl
    have c164 : sh[164]? = some (.inl (.int, 4)) := hw.1 164 _ rfl
    have r94_104 : R 94 104 = some 164 := hw.2.1 94 104 _ rfl
    refine XW.fam (S' := (143, [(9, .int k), (8, .int cm), (5, .int t), (4, .int low), (0, .ref 94), (1, .int wk), (2, .int rw), (3, .int wt)], [.int k], (sh, I, L, R))) (M := mr_344) rfl (show mcode 344 141 = some (141, .iload 9, 2, 0, 0, 0, _) from rfl) (Or.inl ⟨.int k, rfl, rfl⟩) ?_
    refine XW.fam (S' := (144, [(9, .int k), (8, .int cm), (5, .int t), (4, .int low), (0, .ref 94), (1, .int wk), (2, .int rw), (3, .int wt)], [.int rw, .int k], (sh, I, L, R))) (M := mr_344) rfl (show mcode 344 143 = some (143, .iload_n 2, 1, 0, 0, 0, _) from rfl) (Or.inl ⟨.int rw, rfl, rfl⟩) ?_
    have k1 : bcmp .ge k rw = true := bcT (c := .ge) (a := (k).toInt) (b := (rw).toInt) rfl rfl (by show (rw).toInt ≤ (k).toInt; omega)
    refine XW.fam (S' := (209, [(9, .int k), (8, .int cm), (5, .int t), (4, .int low), (0, .ref 94), (1, .int wk), (2, .int rw), (3, .int wt)], [], (sh, I, L, R))) (M := mr_344) rfl (show mcode 344 144 = some (144, .if_icmp .ge 65, 3, 209, 0, 0, _) from rfl) (Or.inr (Or.inl ⟨209, [], by simp [brn, k1], rfl⟩)) ?_
    exact K hw hf h93 (fun j hj => hlo j (by omega)) (fun j hj => hhi j (by omega)) k
  | succ z ih =>
    intro I k h1 h2 hz hw hf h93 hlo hhi K
    have c94 : sh[94]? = some (.inr 12) := hw.1 94 _ rfl
    have c164 : sh[164]? = some (.inl (.int, 4)) := hw.1 164 _ rfl
    have r94_104 : R 94 104 = some 164 := hw.2.1 94 104 _ rfl
    refine XW.fam (S' := (143, [(9, .int k), (8, .int cm), (5, .int t), (4, .int low), (0, .ref 94), (1, .int wk), (2, .int rw), (3, .int wt)], [.int k], (sh, I, L, R))) (M := mr_344) rfl (show mcode 344 141 = some (141, .iload 9, 2, 0, 0, 0, _) from rfl) (Or.inl ⟨.int k, rfl, rfl⟩) ?_
    refine XW.fam (S' := (144, [(9, .int k), (8, .int cm), (5, .int t), (4, .int low), (0, .ref 94), (1, .int wk), (2, .int rw), (3, .int wt)], [.int rw, .int k], (sh, I, L, R))) (M := mr_344) rfl (show mcode 344 143 = some (143, .iload_n 2, 1, 0, 0, 0, _) from rfl) (Or.inl ⟨.int rw, rfl, rfl⟩) ?_
    cases k1 : bcmp .ge k rw with
    | true =>
      have gk1 : (rw).toInt ≤ (k).toInt := icT (c := .ge) (a := (k).toInt) (b := (rw).toInt) rfl rfl k1
      refine XW.fam (S' := (209, [(9, .int k), (8, .int cm), (5, .int t), (4, .int low), (0, .ref 94), (1, .int wk), (2, .int rw), (3, .int wt)], [], (sh, I, L, R))) (M := mr_344) rfl (show mcode 344 144 = some (144, .if_icmp .ge 65, 3, 209, 0, 0, _) from rfl) (Or.inr (Or.inl ⟨209, [], by simp [brn, k1], rfl⟩)) ?_
      exact K hw hf h93 (fun j hj => hlo j (by omega)) (fun j hj => hhi j (by omega)) k
    | false =>
      have gk1 : ¬ ((rw).toInt ≤ (k).toInt) := icF (c := .ge) (a := (k).toInt) (b := (rw).toInt) rfl rfl k1
      refine XW.fam (S' := (147, [(9, .int k), (8, .int cm), (5, .int t), (4, .int low), (0, .ref 94), (1, .int wk), (2, .int rw), (3, .int wt)], [], (sh, I, L, R))) (M := mr_344) rfl (show mcode 344 144 = some (144, .if_icmp .ge 65, 3, 209, 0, 0, _) from rfl) (Or.inr (Or.inl ⟨147, [], by simp [brn, k1], rfl⟩)) ?_
      refine XW.fam (S' := (148, [(9, .int k), (8, .int cm), (5, .int t), (4, .int low), (0, .ref 94), (1, .int wk), (2, .int rw), (3, .int wt)], [.ref 94], (sh, I, L, R))) (M := mr_344) rfl (show mcode 344 147 = some (147, .aload_n 0, 1, 0, 0, 0, _) from rfl) (Or.inl ⟨.ref 94, rfl, rfl⟩) ?_
      refine XW.fam (S' := (151, [(9, .int k), (8, .int cm), (5, .int t), (4, .int low), (0, .ref 94), (1, .int wk), (2, .int rw), (3, .int wt)], [.ref 164], (sh, I, L, R))) (M := mr_344) rfl (show mcode 344 148 = some (148, .getfield 232, 3, 12, 104, 0, _) from rfl) (Or.inr (Or.inr (Or.inr (Or.inr (Or.inr (Or.inr (Or.inr (Or.inl ⟨_, _, rfl, fl_ld c94 r94_104 (by decide) (by decide), rfl⟩)))))))) ?_
      refine XW.fam (S' := (153, [(9, .int k), (8, .int cm), (5, .int t), (4, .int low), (0, .ref 94), (1, .int wk), (2, .int rw), (3, .int wt)], [.int k, .ref 164], (sh, I, L, R))) (M := mr_344) rfl (show mcode 344 151 = some (151, .iload 9, 2, 0, 0, 0, _) from rfl) (Or.inl ⟨.int k, rfl, rfl⟩) ?_
      refine XW.fam (S' := (154, [(9, .int k), (8, .int cm), (5, .int t), (4, .int low), (0, .ref 94), (1, .int wk), (2, .int rw), (3, .int wt)], [.int k, .ref 164, .int k, .ref 164], (sh, I, L, R))) (M := mr_344) rfl (show mcode 344 153 = some (153, .dup2, 1, 0, 0, 0, _) from rfl) (Or.inr (Or.inr (Or.inr (Or.inr (Or.inr (Or.inl ⟨_, rfl, rfl⟩)))))) ?_
      have hin2 : inR k 4 = true := inR_of (by omega) (by omega)
      refine XW.fam (S' := (155, [(9, .int k), (8, .int cm), (5, .int t), (4, .int low), (0, .ref 94), (1, .int wk), (2, .int rw), (3, .int wt)], [.int (I 164 (k).toNatClampNeg), .int k, .ref 164], (sh, I, L, R))) (M := mr_344) rfl (show mcode 344 154 = some (154, .iaload, 1, 0, 0, 0, _) from rfl) (Or.inr (Or.inr (Or.inl ⟨_, lda_i c164 hin2, rfl⟩))) ?_
      refine XW.fam (S' := (157, [(9, .int k), (8, .int cm), (5, .int t), (4, .int low), (0, .ref 94), (1, .int wk), (2, .int rw), (3, .int wt)], [.int cm, .int (I 164 (k).toNatClampNeg), .int k, .ref 164], (sh, I, L, R))) (M := mr_344) rfl (show mcode 344 155 = some (155, .iload 8, 2, 0, 0, 0, _) from rfl) (Or.inl ⟨.int cm, rfl, rfl⟩) ?_
      refine XW.fam (S' := (158, [(9, .int k), (8, .int cm), (5, .int t), (4, .int low), (0, .ref 94), (1, .int wk), (2, .int rw), (3, .int wt)], [.int ((I 164 (k).toNatClampNeg) + cm), .int k, .ref 164], (sh, I, L, R))) (M := mr_344) rfl (show mcode 344 157 = some (157, .iadd, 1, 0, 0, 0, _) from rfl) (Or.inr (Or.inr (Or.inr (Or.inr (Or.inr (Or.inl ⟨_, rfl, rfl⟩)))))) ?_
      have hin3 : inR k 4 = true := inR_of (by omega) (by omega)
      obtain ⟨I4, eI4⟩ : ∃ X, X = up2 I 164 (k).toNatClampNeg ((I 164 (k).toNatClampNeg) + cm) := ⟨_, rfl⟩
      refine XW.fam (S' := (159, [(9, .int k), (8, .int cm), (5, .int t), (4, .int low), (0, .ref 94), (1, .int wk), (2, .int rw), (3, .int wt)], [], (sh, I4, L, R))) (M := mr_344) rfl (show mcode 344 158 = some (158, .iastore, 1, 0, 0, 0, _) from rfl) (Or.inr (Or.inr (Or.inr (Or.inl ⟨_, _, by rw [eI4]; exact sta_i c164 hin3, rfl⟩)))) ?_
      have e1 : I 164 (k).toNatClampNeg = J 164 k.toInt.toNat := hhi _ (by have : (k).toNatClampNeg = k.toInt.toNat := rfl; omega)
      have hW := hwt k.toInt.toNat (by omega)
      have ea : (((I 164 (k).toNatClampNeg) + cm)).toInt = (J 164 k.toInt.toNat).toInt + cm.toInt := by rw [e1]; exact sumS (by omega) (by omega)
      have hwI4 : wOK (mkT vV []) (wE sh R) (sh, I4, L, R) := by rw [eI4]; exact wOK_u2 (q := 164) (k := (k).toNatClampNeg) (x := ((I 164 (k).toNatClampNeg) + cm)) wE_put hw rfl (by show ((-2147483648) : Int) ≤ _; omega) (by show _ ≤ (2147483647 : Int); omega)
      have hfI4 : fresh (sh, I4, L, R) := by rw [eI4]; exact fresh_I hf c164
      have v5 : I4 164 (k).toNatClampNeg = ((I 164 (k).toNatClampNeg) + cm) := by rw [eI4]; exact up2_eq
      refine XW.fam (S' := (160, [(9, .int k), (8, .int cm), (5, .int t), (4, .int low), (0, .ref 94), (1, .int wk), (2, .int rw), (3, .int wt)], [.ref 94], (sh, I4, L, R))) (M := mr_344) rfl (show mcode 344 159 = some (159, .aload_n 0, 1, 0, 0, 0, _) from rfl) (Or.inl ⟨.ref 94, rfl, rfl⟩) ?_
      refine XW.fam (S' := (162, [(9, .int k), (8, .int cm), (5, .int t), (4, .int low), (0, .ref 94), (1, .int wk), (2, .int rw), (3, .int wt)], [.int k, .ref 94], (sh, I4, L, R))) (M := mr_344) rfl (show mcode 344 160 = some (160, .iload 9, 2, 0, 0, 0, _) from rfl) (Or.inl ⟨.int k, rfl, rfl⟩) ?_
      refine XW.fam (S' := (164, [(9, .int k), (8, .int cm), (5, .int t), (4, .int low), (0, .ref 94), (1, .int wk), (2, .int rw), (3, .int wt)], [.int t, .int k, .ref 94], (sh, I4, L, R))) (M := mr_344) rfl (show mcode 344 162 = some (162, .iload 5, 2, 0, 0, 0, _) from rfl) (Or.inl ⟨.int t, rfl, rfl⟩) ?_
      refine XW.call (d' := d) (mc' := 0) (ms' := 0) (av := [.ref 94, .int k, .int t]) (rest := []) (M := mr_344) (Ma := mr_346) rfl (show mcode 344 164 = some (164, .invokevirtual 582, 3, 346, 0, 0, _) from rfl) rfl (by decide) (by decide) ⟨rfl, 94, _, rfl, c94⟩ rfl rfl (show 0 ≤ 8 by decide) (tc_bin (d := d) hwI4 (by omega) (by omega)) (by omega) (Nat.zero_le _) (Nat.zero_le _) (fun rQ6 wQ6 Q6 => ?_)
      obtain ⟨⟨go, rfl, hgo⟩, rfl⟩ := Q6
      refine XW.fam (S' := (169, [(10, .int go), (9, .int k), (8, .int cm), (5, .int t), (4, .int low), (0, .ref 94), (1, .int wk), (2, .int rw), (3, .int wt)], [], (sh, I4, L, R))) (M := mr_344) rfl (show mcode 344 167 = some (167, .istore 10, 2, 0, 0, 0, _) from rfl) (Or.inr (Or.inr (Or.inr (Or.inr (Or.inr (Or.inr (Or.inl ⟨_, [], _, rfl, rfl, rfl⟩))))))) ?_
      refine XW.fam (S' := (170, [(10, .int go), (9, .int k), (8, .int cm), (5, .int t), (4, .int low), (0, .ref 94), (1, .int wk), (2, .int rw), (3, .int wt)], [.ref 94], (sh, I4, L, R))) (M := mr_344) rfl (show mcode 344 169 = some (169, .aload_n 0, 1, 0, 0, 0, _) from rfl) (Or.inl ⟨.ref 94, rfl, rfl⟩) ?_
      refine XW.fam (S' := (173, [(10, .int go), (9, .int k), (8, .int cm), (5, .int t), (4, .int low), (0, .ref 94), (1, .int wk), (2, .int rw), (3, .int wt)], [.ref 164], (sh, I4, L, R))) (M := mr_344) rfl (show mcode 344 170 = some (170, .getfield 232, 3, 12, 104, 0, _) from rfl) (Or.inr (Or.inr (Or.inr (Or.inr (Or.inr (Or.inr (Or.inr (Or.inl ⟨_, _, rfl, fl_ld c94 r94_104 (by decide) (by decide), rfl⟩)))))))) ?_
      refine XW.fam (S' := (175, [(10, .int go), (9, .int k), (8, .int cm), (5, .int t), (4, .int low), (0, .ref 94), (1, .int wk), (2, .int rw), (3, .int wt)], [.int k, .ref 164], (sh, I4, L, R))) (M := mr_344) rfl (show mcode 344 173 = some (173, .iload 9, 2, 0, 0, 0, _) from rfl) (Or.inl ⟨.int k, rfl, rfl⟩) ?_
      refine XW.fam (S' := (176, [(10, .int go), (9, .int k), (8, .int cm), (5, .int t), (4, .int low), (0, .ref 94), (1, .int wk), (2, .int rw), (3, .int wt)], [.int k, .ref 164, .int k, .ref 164], (sh, I4, L, R))) (M := mr_344) rfl (show mcode 344 175 = some (175, .dup2, 1, 0, 0, 0, _) from rfl) (Or.inr (Or.inr (Or.inr (Or.inr (Or.inr (Or.inl ⟨_, rfl, rfl⟩)))))) ?_
      have hin7 : inR k 4 = true := inR_of (by omega) (by omega)
      refine XW.fam (S' := (177, [(10, .int go), (9, .int k), (8, .int cm), (5, .int t), (4, .int low), (0, .ref 94), (1, .int wk), (2, .int rw), (3, .int wt)], [.int (I4 164 (k).toNatClampNeg), .int k, .ref 164], (sh, I4, L, R))) (M := mr_344) rfl (show mcode 344 176 = some (176, .iaload, 1, 0, 0, 0, _) from rfl) (Or.inr (Or.inr (Or.inl ⟨_, lda_i c164 hin7, rfl⟩))) ?_
      rw [v5]
      refine XW.fam (S' := (179, [(10, .int go), (9, .int k), (8, .int cm), (5, .int t), (4, .int low), (0, .ref 94), (1, .int wk), (2, .int rw), (3, .int wt)], [.int go, .int ((I 164 (k).toNatClampNeg) + cm), .int k, .ref 164], (sh, I4, L, R))) (M := mr_344) rfl (show mcode 344 177 = some (177, .iload 10, 2, 0, 0, 0, _) from rfl) (Or.inl ⟨.int go, rfl, rfl⟩) ?_
      refine XW.fam (S' := (180, [(10, .int go), (9, .int k), (8, .int cm), (5, .int t), (4, .int low), (0, .ref 94), (1, .int wk), (2, .int rw), (3, .int wt)], [.ref 94, .int go, .int ((I 164 (k).toNatClampNeg) + cm), .int k, .ref 164], (sh, I4, L, R))) (M := mr_344) rfl (show mcode 344 179 = some (179, .aload_n 0, 1, 0, 0, 0, _) from rfl) (Or.inl ⟨.ref 94, rfl, rfl⟩) ?_
      refine XW.fam (S' := (183, [(10, .int go), (9, .int k), (8, .int cm), (5, .int t), (4, .int low), (0, .ref 94), (1, .int wk), (2, .int rw), (3, .int wt)], [.ref 164, .int go, .int ((I 164 (k).toNatClampNeg) + cm), .int k, .ref 164], (sh, I4, L, R))) (M := mr_344) rfl (show mcode 344 180 = some (180, .getfield 232, 3, 12, 104, 0, _) from rfl) (Or.inr (Or.inr (Or.inr (Or.inr (Or.inr (Or.inr (Or.inr (Or.inl ⟨_, _, rfl, fl_ld c94 r94_104 (by decide) (by decide), rfl⟩)))))))) ?_
      refine XW.fam (S' := (185, [(10, .int go), (9, .int k), (8, .int cm), (5, .int t), (4, .int low), (0, .ref 94), (1, .int wk), (2, .int rw), (3, .int wt)], [.int k, .ref 164, .int go, .int ((I 164 (k).toNatClampNeg) + cm), .int k, .ref 164], (sh, I4, L, R))) (M := mr_344) rfl (show mcode 344 183 = some (183, .iload 9, 2, 0, 0, 0, _) from rfl) (Or.inl ⟨.int k, rfl, rfl⟩) ?_
      have hin8 : inR k 4 = true := inR_of (by omega) (by omega)
      refine XW.fam (S' := (186, [(10, .int go), (9, .int k), (8, .int cm), (5, .int t), (4, .int low), (0, .ref 94), (1, .int wk), (2, .int rw), (3, .int wt)], [.int (I4 164 (k).toNatClampNeg), .int go, .int ((I 164 (k).toNatClampNeg) + cm), .int k, .ref 164], (sh, I4, L, R))) (M := mr_344) rfl (show mcode 344 185 = some (185, .iaload, 1, 0, 0, 0, _) from rfl) (Or.inr (Or.inr (Or.inl ⟨_, lda_i c164 hin8, rfl⟩))) ?_
      rw [v5]
      cases k9 : bcmp .ge go ((I 164 (k).toNatClampNeg) + cm) with
      | true =>
        have gk9 : (((I 164 (k).toNatClampNeg) + cm)).toInt ≤ (go).toInt := icT (c := .ge) (a := (go).toInt) (b := (((I 164 (k).toNatClampNeg) + cm)).toInt) rfl rfl k9
        refine XW.fam (S' := (194, [(10, .int go), (9, .int k), (8, .int cm), (5, .int t), (4, .int low), (0, .ref 94), (1, .int wk), (2, .int rw), (3, .int wt)], [.int ((I 164 (k).toNatClampNeg) + cm), .int k, .ref 164], (sh, I4, L, R))) (M := mr_344) rfl (show mcode 344 186 = some (186, .if_icmp .ge 8, 3, 194, 0, 0, _) from rfl) (Or.inr (Or.inl ⟨194, [.int ((I 164 (k).toNatClampNeg) + cm), .int k, .ref 164], by simp [brn, k9], rfl⟩)) ?_
        refine XW.fam (S' := (195, [(10, .int go), (9, .int k), (8, .int cm), (5, .int t), (4, .int low), (0, .ref 94), (1, .int wk), (2, .int rw), (3, .int wt)], [.ref 94, .int ((I 164 (k).toNatClampNeg) + cm), .int k, .ref 164], (sh, I4, L, R))) (M := mr_344) rfl (show mcode 344 194 = some (194, .aload_n 0, 1, 0, 0, 0, _) from rfl) (Or.inl ⟨.ref 94, rfl, rfl⟩) ?_
        refine XW.fam (S' := (198, [(10, .int go), (9, .int k), (8, .int cm), (5, .int t), (4, .int low), (0, .ref 94), (1, .int wk), (2, .int rw), (3, .int wt)], [.ref 164, .int ((I 164 (k).toNatClampNeg) + cm), .int k, .ref 164], (sh, I4, L, R))) (M := mr_344) rfl (show mcode 344 195 = some (195, .getfield 232, 3, 12, 104, 0, _) from rfl) (Or.inr (Or.inr (Or.inr (Or.inr (Or.inr (Or.inr (Or.inr (Or.inl ⟨_, _, rfl, fl_ld c94 r94_104 (by decide) (by decide), rfl⟩)))))))) ?_
        refine XW.fam (S' := (200, [(10, .int go), (9, .int k), (8, .int cm), (5, .int t), (4, .int low), (0, .ref 94), (1, .int wk), (2, .int rw), (3, .int wt)], [.int k, .ref 164, .int ((I 164 (k).toNatClampNeg) + cm), .int k, .ref 164], (sh, I4, L, R))) (M := mr_344) rfl (show mcode 344 198 = some (198, .iload 9, 2, 0, 0, 0, _) from rfl) (Or.inl ⟨.int k, rfl, rfl⟩) ?_
        have hin10 : inR k 4 = true := inR_of (by omega) (by omega)
        refine XW.fam (S' := (201, [(10, .int go), (9, .int k), (8, .int cm), (5, .int t), (4, .int low), (0, .ref 94), (1, .int wk), (2, .int rw), (3, .int wt)], [.int (I4 164 (k).toNatClampNeg), .int ((I 164 (k).toNatClampNeg) + cm), .int k, .ref 164], (sh, I4, L, R))) (M := mr_344) rfl (show mcode 344 200 = some (200, .iaload, 1, 0, 0, 0, _) from rfl) (Or.inr (Or.inr (Or.inl ⟨_, lda_i c164 hin10, rfl⟩))) ?_
        rw [v5]
        refine XW.fam (S' := (202, [(10, .int go), (9, .int k), (8, .int cm), (5, .int t), (4, .int low), (0, .ref 94), (1, .int wk), (2, .int rw), (3, .int wt)], [.int (((I 164 (k).toNatClampNeg) + cm) - ((I 164 (k).toNatClampNeg) + cm)), .int k, .ref 164], (sh, I4, L, R))) (M := mr_344) rfl (show mcode 344 201 = some (201, .isub, 1, 0, 0, 0, _) from rfl) (Or.inr (Or.inr (Or.inr (Or.inr (Or.inr (Or.inl ⟨_, rfl, rfl⟩)))))) ?_
        have hin11 : inR k 4 = true := inR_of (by omega) (by omega)
        obtain ⟨I12, eI12⟩ : ∃ X, X = up2 I4 164 (k).toNatClampNeg (((I 164 (k).toNatClampNeg) + cm) - ((I 164 (k).toNatClampNeg) + cm)) := ⟨_, rfl⟩
        refine XW.fam (S' := (203, [(10, .int go), (9, .int k), (8, .int cm), (5, .int t), (4, .int low), (0, .ref 94), (1, .int wk), (2, .int rw), (3, .int wt)], [], (sh, I12, L, R))) (M := mr_344) rfl (show mcode 344 202 = some (202, .iastore, 1, 0, 0, 0, _) from rfl) (Or.inr (Or.inr (Or.inr (Or.inl ⟨_, _, by rw [eI12]; exact sta_i c164 hin11, rfl⟩)))) ?_
        have hgb : 0 ≤ go.toInt ∧ go.toInt ≤ 9999 := by rw [hgo]; exact hwI4.2.2.1 163 _
        have eb : ((((I 164 (k).toNatClampNeg) + cm) - ((I 164 (k).toNatClampNeg) + cm))).toInt = 0 := by rw [difS (by omega) (by omega)]; omega
        have hwI12 : wOK (mkT vV []) (wE sh R) (sh, I12, L, R) := by rw [eI12]; exact wOK_u2 (q := 164) (k := (k).toNatClampNeg) (x := (((I 164 (k).toNatClampNeg) + cm) - ((I 164 (k).toNatClampNeg) + cm))) wE_put hwI4 rfl (by show ((-2147483648) : Int) ≤ _; omega) (by show _ ≤ (2147483647 : Int); omega)
        have hfI12 : fresh (sh, I12, L, R) := by rw [eI12]; exact fresh_I hfI4 c164
        have v14 : I12 164 (k).toNatClampNeg = (((I 164 (k).toNatClampNeg) + cm) - ((I 164 (k).toNatClampNeg) + cm)) := by rw [eI12]; exact up2_eq
        refine XW.fam (S' := (206, [(9, .int (k + Int32.ofInt 1)), (10, .int go), (8, .int cm), (5, .int t), (4, .int low), (0, .ref 94), (1, .int wk), (2, .int rw), (3, .int wt)], [], (sh, I12, L, R))) (M := mr_344) rfl (show mcode 344 203 = some (203, .iinc 9 1, 3, 0, 0, 0, _) from rfl) (Or.inr (Or.inr (Or.inr (Or.inr (Or.inr (Or.inr (Or.inr (Or.inr (Or.inr ⟨9, 1, k, rfl, rfl, by decide, rfl⟩))))))))) ?_
        refine XW.fam (S' := (141, [(9, .int (k + Int32.ofInt 1)), (10, .int go), (8, .int cm), (5, .int t), (4, .int low), (0, .ref 94), (1, .int wk), (2, .int rw), (3, .int wt)], [], (sh, I12, L, R))) (M := mr_344) rfl (show mcode 344 206 = some (206, .goto (-65), 3, 141, 0, 0, _) from rfl) (Or.inr (Or.inl ⟨141, [], rfl, rfl⟩)) ?_
        have eo := incO (m := k) (by omega) (by omega)
        refine XW.sub (ls' := [(9, .int (k + Int32.ofInt 1)), (8, .int cm), (5, .int t), (4, .int low), (0, .ref 94), (1, .int wk), (2, .int rw), (3, .int wt)]) (List.forall_mem_cons.mpr ⟨List.mem_of_getElem? (i := 0) rfl, (List.forall_mem_cons.mpr ⟨List.mem_of_getElem? (i := 2) rfl, (List.forall_mem_cons.mpr ⟨List.mem_of_getElem? (i := 3) rfl, (List.forall_mem_cons.mpr ⟨List.mem_of_getElem? (i := 4) rfl, (List.forall_mem_cons.mpr ⟨List.mem_of_getElem? (i := 5) rfl, (List.forall_mem_cons.mpr ⟨List.mem_of_getElem? (i := 6) rfl, (List.forall_mem_cons.mpr ⟨List.mem_of_getElem? (i := 7) rfl, (List.forall_mem_cons.mpr ⟨List.mem_of_getElem? (i := 8) rfl, (fun _ h => absurd h List.not_mem_nil)⟩)⟩)⟩)⟩)⟩)⟩)⟩)⟩) ?_
        refine ih (k + Int32.ofInt 1) (by omega) (by omega) (by omega) hwI12 hfI12 (fun q j hq => by rw [eI12, up2_ne (fun e => hq e.1), eI4, up2_ne (fun e => hq e.1)]; exact h93 q j hq) (fun j hj => ?_) (fun j hj => ?_) K
        · by_cases c : (j : Int) < k.toInt
          · have hjk : ¬ j = (k).toNatClampNeg := fun e => by have : (k).toNatClampNeg = k.toInt.toNat := rfl; omega
            rw [eI12, up2_ne (fun e => hjk e.2), eI4, up2_ne (fun e => hjk e.2)]
            exact hlo j c
          · have ek : j = (k).toNatClampNeg := by have : (k).toNatClampNeg = k.toInt.toNat := rfl; omega
            rw [eI12, ek, up2_eq, eb]
            have hgo2 : go.toInt = lnB (J 163) k.toInt.toNat t.toInt.toNat := by
              rw [hgo]
              unfold lnB
              rw [eI4, up2_ne (fun e => by cases e.1), h93 163 _ (by decide)]
            show _ = (if 0 < (J 164 k.toInt.toNat).toInt + cm.toInt - lnB (J 163) k.toInt.toNat t.toInt.toNat then (J 164 k.toInt.toNat).toInt + cm.toInt - lnB (J 163) k.toInt.toNat t.toInt.toNat else 0)
            rw [← hgo2]
            split <;> omega
        · have hjk : ¬ j = (k).toNatClampNeg := fun e => by have : (k).toNatClampNeg = k.toInt.toNat := rfl; omega
          rw [eI12, up2_ne (fun e => hjk e.2), eI4, up2_ne (fun e => hjk e.2)]
          exact hhi j (by omega)
      | false =>
        have gk9 : ¬ ((((I 164 (k).toNatClampNeg) + cm)).toInt ≤ (go).toInt) := icF (c := .ge) (a := (go).toInt) (b := (((I 164 (k).toNatClampNeg) + cm)).toInt) rfl rfl k9
        refine XW.fam (S' := (189, [(10, .int go), (9, .int k), (8, .int cm), (5, .int t), (4, .int low), (0, .ref 94), (1, .int wk), (2, .int rw), (3, .int wt)], [.int ((I 164 (k).toNatClampNeg) + cm), .int k, .ref 164], (sh, I4, L, R))) (M := mr_344) rfl (show mcode 344 186 = some (186, .if_icmp .ge 8, 3, 194, 0, 0, _) from rfl) (Or.inr (Or.inl ⟨189, [.int ((I 164 (k).toNatClampNeg) + cm), .int k, .ref 164], by simp [brn, k9], rfl⟩)) ?_
        refine XW.fam (S' := (191, [(10, .int go), (9, .int k), (8, .int cm), (5, .int t), (4, .int low), (0, .ref 94), (1, .int wk), (2, .int rw), (3, .int wt)], [.int go, .int ((I 164 (k).toNatClampNeg) + cm), .int k, .ref 164], (sh, I4, L, R))) (M := mr_344) rfl (show mcode 344 189 = some (189, .iload 10, 2, 0, 0, 0, _) from rfl) (Or.inl ⟨.int go, rfl, rfl⟩) ?_
        refine XW.fam (S' := (201, [(10, .int go), (9, .int k), (8, .int cm), (5, .int t), (4, .int low), (0, .ref 94), (1, .int wk), (2, .int rw), (3, .int wt)], [.int go, .int ((I 164 (k).toNatClampNeg) + cm), .int k, .ref 164], (sh, I4, L, R))) (M := mr_344) rfl (show mcode 344 191 = some (191, .goto 10, 3, 201, 0, 0, _) from rfl) (Or.inr (Or.inl ⟨201, [.int go, .int ((I 164 (k).toNatClampNeg) + cm), .int k, .ref 164], rfl, rfl⟩)) ?_
        refine XW.fam (S' := (202, [(10, .int go), (9, .int k), (8, .int cm), (5, .int t), (4, .int low), (0, .ref 94), (1, .int wk), (2, .int rw), (3, .int wt)], [.int (((I 164 (k).toNatClampNeg) + cm) - go), .int k, .ref 164], (sh, I4, L, R))) (M := mr_344) rfl (show mcode 344 201 = some (201, .isub, 1, 0, 0, 0, _) from rfl) (Or.inr (Or.inr (Or.inr (Or.inr (Or.inr (Or.inl ⟨_, rfl, rfl⟩)))))) ?_
        have hin15 : inR k 4 = true := inR_of (by omega) (by omega)
        obtain ⟨I16, eI16⟩ : ∃ X, X = up2 I4 164 (k).toNatClampNeg (((I 164 (k).toNatClampNeg) + cm) - go) := ⟨_, rfl⟩
        refine XW.fam (S' := (203, [(10, .int go), (9, .int k), (8, .int cm), (5, .int t), (4, .int low), (0, .ref 94), (1, .int wk), (2, .int rw), (3, .int wt)], [], (sh, I16, L, R))) (M := mr_344) rfl (show mcode 344 202 = some (202, .iastore, 1, 0, 0, 0, _) from rfl) (Or.inr (Or.inr (Or.inr (Or.inl ⟨_, _, by rw [eI16]; exact sta_i c164 hin15, rfl⟩)))) ?_
        have hgb : 0 ≤ go.toInt ∧ go.toInt ≤ 9999 := by rw [hgo]; exact hwI4.2.2.1 163 _
        have eb : ((((I 164 (k).toNatClampNeg) + cm) - go)).toInt = (((I 164 (k).toNatClampNeg) + cm)).toInt - go.toInt := difS (by omega) (by omega)
        have hwI16 : wOK (mkT vV []) (wE sh R) (sh, I16, L, R) := by rw [eI16]; exact wOK_u2 (q := 164) (k := (k).toNatClampNeg) (x := (((I 164 (k).toNatClampNeg) + cm) - go)) wE_put hwI4 rfl (by show ((-2147483648) : Int) ≤ _; omega) (by show _ ≤ (2147483647 : Int); omega)
        have hfI16 : fresh (sh, I16, L, R) := by rw [eI16]; exact fresh_I hfI4 c164
        have v18 : I16 164 (k).toNatClampNeg = (((I 164 (k).toNatClampNeg) + cm) - go) := by rw [eI16]; exact up2_eq
        refine XW.fam (S' := (206, [(9, .int (k + Int32.ofInt 1)), (10, .int go), (8, .int cm), (5, .int t), (4, .int low), (0, .ref 94), (1, .int wk), (2, .int rw), (3, .int wt)], [], (sh, I16, L, R))) (M := mr_344) rfl (show mcode 344 203 = some (203, .iinc 9 1, 3, 0, 0, 0, _) from rfl) (Or.inr (Or.inr (Or.inr (Or.inr (Or.inr (Or.inr (Or.inr (Or.inr (Or.inr ⟨9, 1, k, rfl, rfl, by decide, rfl⟩))))))))) ?_
        refine XW.fam (S' := (141, [(9, .int (k + Int32.ofInt 1)), (10, .int go), (8, .int cm), (5, .int t), (4, .int low), (0, .ref 94), (1, .int wk), (2, .int rw), (3, .int wt)], [], (sh, I16, L, R))) (M := mr_344) rfl (show mcode 344 206 = some (206, .goto (-65), 3, 141, 0, 0, _) from rfl) (Or.inr (Or.inl ⟨141, [], rfl, rfl⟩)) ?_
        have eo := incO (m := k) (by omega) (by omega)
        refine XW.sub (ls' := [(9, .int (k + Int32.ofInt 1)), (8, .int cm), (5, .int t), (4, .int low), (0, .ref 94), (1, .int wk), (2, .int rw), (3, .int wt)]) (List.forall_mem_cons.mpr ⟨List.mem_of_getElem? (i := 0) rfl, (List.forall_mem_cons.mpr ⟨List.mem_of_getElem? (i := 2) rfl, (List.forall_mem_cons.mpr ⟨List.mem_of_getElem? (i := 3) rfl, (List.forall_mem_cons.mpr ⟨List.mem_of_getElem? (i := 4) rfl, (List.forall_mem_cons.mpr ⟨List.mem_of_getElem? (i := 5) rfl, (List.forall_mem_cons.mpr ⟨List.mem_of_getElem? (i := 6) rfl, (List.forall_mem_cons.mpr ⟨List.mem_of_getElem? (i := 7) rfl, (List.forall_mem_cons.mpr ⟨List.mem_of_getElem? (i := 8) rfl, (fun _ h => absurd h List.not_mem_nil)⟩)⟩)⟩)⟩)⟩)⟩)⟩)⟩) ?_
        refine ih (k + Int32.ofInt 1) (by omega) (by omega) (by omega) hwI16 hfI16 (fun q j hq => by rw [eI16, up2_ne (fun e => hq e.1), eI4, up2_ne (fun e => hq e.1)]; exact h93 q j hq) (fun j hj => ?_) (fun j hj => ?_) K
        · by_cases c : (j : Int) < k.toInt
          · have hjk : ¬ j = (k).toNatClampNeg := fun e => by have : (k).toNatClampNeg = k.toInt.toNat := rfl; omega
            rw [eI16, up2_ne (fun e => hjk e.2), eI4, up2_ne (fun e => hjk e.2)]
            exact hlo j c
          · have ek : j = (k).toNatClampNeg := by have : (k).toNatClampNeg = k.toInt.toNat := rfl; omega
            rw [eI16, ek, up2_eq, eb]
            have hgo2 : go.toInt = lnB (J 163) k.toInt.toNat t.toInt.toNat := by
              rw [hgo]
              unfold lnB
              rw [eI4, up2_ne (fun e => by cases e.1), h93 163 _ (by decide)]
            show _ = (if 0 < (J 164 k.toInt.toNat).toInt + cm.toInt - lnB (J 163) k.toInt.toNat t.toInt.toNat then (J 164 k.toInt.toNat).toInt + cm.toInt - lnB (J 163) k.toInt.toNat t.toInt.toNat else 0)
            rw [← hgo2]
            split <;> omega
        · have hjk : ¬ j = (k).toNatClampNeg := fun e => by have : (k).toNatClampNeg = k.toInt.toNat := rfl; omega
          rw [eI16, up2_ne (fun e => hjk e.2), eI4, up2_ne (fun e => hjk e.2)]
          exact hhi j (by omega)
theorem wk_m {d : Nat} {sh : List mE} {J : Nat → Nat → Int32} {L : Nat → Nat → Int64} {R : Nat → Nat → Option Nat} {wk rw wt : Int32} (hk : 0 ≤ wk.toInt ∧ wk.toInt ≤ 7) (hr : 1 ≤ rw.toInt ∧ rw.toInt ≤ 4) (ht : 1 ≤ wt.toInt ∧ wt.toInt ≤ 4) : ∀ (z : Nat) {I : Nat → Nat → Int32} (t now : Int32), 0 ≤ t.toInt → t.toInt ≤ wk.toInt + 1 → wk.toInt + 1 - t.toInt < z → wOK (mkT vV []) (wE sh R) (sh, I, L, R) → fresh (sh, I, L, R) → (∀ q k, ¬ q = 164 → I q k = J q k) → now.toInt = ((lnRun (J 162) (J 163) rw.toInt.toNat wt.toInt.toNat t.toInt.toNat).1 : Int) → (∀ k : Nat, k < 4 → (I 164 k).toInt = (lnRun (J 162) (J 163) rw.toInt.toNat wt.toInt.toNat t.toInt.toNat).2 k) → XW 344 mr_344 none (d + 2) 0 0 (fun r w' => fresh w' ∧ (∃ sh R, wOK (mkT vV []) (wE sh R) w') ∧ (∀ q k, ¬ q = 164 → w'.2.1 q k = J q k) ∧ ∃ x : Int32, r = some (.int x) ∧ x.toInt = ((lnRun (J 162) (J 163) rw.toInt.toNat wt.toInt.toNat (wk.toInt.toNat + 1)).1 : Int)) (60, [(5, .int t), (4, .int now), (0, .ref 94), (1, .int wk), (2, .int rw), (3, .int wt)], [], (sh, I, L, R)) := by
  have z0 : (0 : Int32).toInt = 0 := rfl
  intro z
  induction z with
  | zero =>
    intro I t now h1 h2 hz hw hf h93 hlow hwv
    have hh : ∀ k, 0 ≤ (J 162 k).toInt ∧ (J 162 k).toInt ≤ 199 := fun k => by rw [← h93 162 k (by decide)]; exact hw.2.2.1 162 k
    have hbb : ∀ k, 0 ≤ (J 163 k).toInt := fun k => by rw [← h93 163 k (by decide)]; exact (hw.2.2.1 163 k).1
    have hlr := ln_rng (r := rw.toInt.toNat) (wt := wt.toInt.toNat) hh hbb (n := t.toInt.toNat)
    have hlr1 := hlr.1
    have hwt : ∀ k : Nat, k < 4 → 0 ≤ (I 164 k).toInt ∧ (I 164 k).toInt ≤ 200000 := fun k hk => by have a := hlr.2 k; rw [hwv k hk]; omega
    refine XW.fam (S' := (62, [(5, .int t), (4, .int now), (0, .ref 94), (1, .int wk), (2, .int rw), (3, .int wt)], [.int t], (sh, I, L, R))) (M := mr_344) rfl (show mcode 344 60 = some (60, .iload 5, 2, 0, 0, 0, _) from rfl) (Or.inl ⟨.int t, rfl, rfl⟩) ?_
    refine XW.fam (S' := (63, [(5, .int t), (4, .int now), (0, .ref 94), (1, .int wk), (2, .int rw), (3, .int wt)], [.int wk, .int t], (sh, I, L, R))) (M := mr_344) rfl (show mcode 344 62 = some (62, .iload_n 1, 1, 0, 0, 0, _) from rfl) (Or.inl ⟨.int wk, rfl, rfl⟩) ?_
    have k1 : bcmp .gt t wk = true := bcT (c := .gt) (a := (t).toInt) (b := (wk).toInt) rfl rfl (by show (wk).toInt < (t).toInt; omega)
    refine XW.fam (S' := (215, [(5, .int t), (4, .int now), (0, .ref 94), (1, .int wk), (2, .int rw), (3, .int wt)], [], (sh, I, L, R))) (M := mr_344) rfl (show mcode 344 63 = some (63, .if_icmp .gt 152, 3, 215, 0, 0, _) from rfl) (Or.inr (Or.inl ⟨215, [], by simp [brn, k1], rfl⟩)) ?_
    refine XW.fam (S' := (217, [(5, .int t), (4, .int now), (0, .ref 94), (1, .int wk), (2, .int rw), (3, .int wt)], [.int now], (sh, I, L, R))) (M := mr_344) rfl (show mcode 344 215 = some (215, .iload 4, 2, 0, 0, 0, _) from rfl) (Or.inl ⟨.int now, rfl, rfl⟩) ?_
    refine XW.ret (r := some (.int now)) ⟨⟨.int, rfl, rfl⟩, by decide +kernel⟩ ?_
    have en : t.toInt.toNat = wk.toInt.toNat + 1 := by omega
    rw [en] at hlow
    exact ⟨hf, ⟨sh, R, hw⟩, h93, now, rfl, hlow⟩
  | succ z ih =>
    intro I t now h1 h2 hz hw hf h93 hlow hwv
    have hh : ∀ k, 0 ≤ (J 162 k).toInt ∧ (J 162 k).toInt ≤ 199 := fun k => by rw [← h93 162 k (by decide)]; exact hw.2.2.1 162 k
    have hbb : ∀ k, 0 ≤ (J 163 k).toInt := fun k => by rw [← h93 163 k (by decide)]; exact (hw.2.2.1 163 k).1
    have hlr := ln_rng (r := rw.toInt.toNat) (wt := wt.toInt.toNat) hh hbb (n := t.toInt.toNat)
    have hlr1 := hlr.1
    have hwt : ∀ k : Nat, k < 4 → 0 ≤ (I 164 k).toInt ∧ (I 164 k).toInt ≤ 200000 := fun k hk => by have a := hlr.2 k; rw [hwv k hk]; omega
    refine XW.fam (S' := (62, [(5, .int t), (4, .int now), (0, .ref 94), (1, .int wk), (2, .int rw), (3, .int wt)], [.int t], (sh, I, L, R))) (M := mr_344) rfl (show mcode 344 60 = some (60, .iload 5, 2, 0, 0, 0, _) from rfl) (Or.inl ⟨.int t, rfl, rfl⟩) ?_
    refine XW.fam (S' := (63, [(5, .int t), (4, .int now), (0, .ref 94), (1, .int wk), (2, .int rw), (3, .int wt)], [.int wk, .int t], (sh, I, L, R))) (M := mr_344) rfl (show mcode 344 62 = some (62, .iload_n 1, 1, 0, 0, 0, _) from rfl) (Or.inl ⟨.int wk, rfl, rfl⟩) ?_
    cases k1 : bcmp .gt t wk with
    | true =>
      have gk1 : (wk).toInt < (t).toInt := icT (c := .gt) (a := (t).toInt) (b := (wk).toInt) rfl rfl k1
      refine XW.fam (S' := (215, [(5, .int t), (4, .int now), (0, .ref 94), (1, .int wk), (2, .int rw), (3, .int wt)], [], (sh, I, L, R))) (M := mr_344) rfl (show mcode 344 63 = some (63, .if_icmp .gt 152, 3, 215, 0, 0, _) from rfl) (Or.inr (Or.inl ⟨215, [], by simp [brn, k1], rfl⟩)) ?_
      refine XW.fam (S' := (217, [(5, .int t), (4, .int now), (0, .ref 94), (1, .int wk), (2, .int rw), (3, .int wt)], [.int now], (sh, I, L, R))) (M := mr_344) rfl (show mcode 344 215 = some (215, .iload 4, 2, 0, 0, 0, _) from rfl) (Or.inl ⟨.int now, rfl, rfl⟩) ?_
      refine XW.ret (r := some (.int now)) ⟨⟨.int, rfl, rfl⟩, by decide +kernel⟩ ?_
      have en : t.toInt.toNat = wk.toInt.toNat + 1 := by omega
      rw [en] at hlow
      exact ⟨hf, ⟨sh, R, hw⟩, h93, now, rfl, hlow⟩
    | false =>
      have gk1 : ¬ ((wk).toInt < (t).toInt) := icF (c := .gt) (a := (t).toInt) (b := (wk).toInt) rfl rfl k1
      refine XW.fam (S' := (66, [(5, .int t), (4, .int now), (0, .ref 94), (1, .int wk), (2, .int rw), (3, .int wt)], [], (sh, I, L, R))) (M := mr_344) rfl (show mcode 344 63 = some (63, .if_icmp .gt 152, 3, 215, 0, 0, _) from rfl) (Or.inr (Or.inl ⟨66, [], by simp [brn, k1], rfl⟩)) ?_
      refine XW.fam (S' := (68, [(5, .int t), (4, .int now), (0, .ref 94), (1, .int wk), (2, .int rw), (3, .int wt)], [.int now], (sh, I, L, R))) (M := mr_344) rfl (show mcode 344 66 = some (66, .iload 4, 2, 0, 0, 0, _) from rfl) (Or.inl ⟨.int now, rfl, rfl⟩) ?_
      refine XW.fam (S' := (70, [(6, .int now), (5, .int t), (4, .int now), (0, .ref 94), (1, .int wk), (2, .int rw), (3, .int wt)], [], (sh, I, L, R))) (M := mr_344) rfl (show mcode 344 68 = some (68, .istore 6, 2, 0, 0, 0, _) from rfl) (Or.inr (Or.inr (Or.inr (Or.inr (Or.inr (Or.inr (Or.inl ⟨_, [], _, rfl, rfl, rfl⟩))))))) ?_
      refine XW.fam (S' := (71, [(6, .int now), (5, .int t), (4, .int now), (0, .ref 94), (1, .int wk), (2, .int rw), (3, .int wt)], [.int 0], (sh, I, L, R))) (M := mr_344) rfl (show mcode 344 70 = some (70, .iconst 0, 1, 0, 0, 0, _) from rfl) (Or.inl ⟨.int 0, rfl, rfl⟩) ?_
      refine XW.fam (S' := (73, [(7, .int 0), (6, .int now), (5, .int t), (4, .int now), (0, .ref 94), (1, .int wk), (2, .int rw), (3, .int wt)], [], (sh, I, L, R))) (M := mr_344) rfl (show mcode 344 71 = some (71, .istore 7, 2, 0, 0, 0, _) from rfl) (Or.inr (Or.inr (Or.inr (Or.inr (Or.inr (Or.inr (Or.inl ⟨_, [], _, rfl, rfl, rfl⟩))))))) ?_
      refine XW.fam (S' := (74, [(7, .int 0), (6, .int now), (5, .int t), (4, .int now), (0, .ref 94), (1, .int wk), (2, .int rw), (3, .int wt)], [.int 0], (sh, I, L, R))) (M := mr_344) rfl (show mcode 344 73 = some (73, .iconst 0, 1, 0, 0, 0, _) from rfl) (Or.inl ⟨.int 0, rfl, rfl⟩) ?_
      refine XW.fam (S' := (76, [(8, .int 0), (7, .int 0), (6, .int now), (5, .int t), (4, .int now), (0, .ref 94), (1, .int wk), (2, .int rw), (3, .int wt)], [], (sh, I, L, R))) (M := mr_344) rfl (show mcode 344 74 = some (74, .istore 8, 2, 0, 0, 0, _) from rfl) (Or.inr (Or.inr (Or.inr (Or.inr (Or.inr (Or.inr (Or.inl ⟨_, [], _, rfl, rfl, rfl⟩))))))) ?_
      refine XW.fam (S' := (78, [(8, .int 0), (7, .int 0), (6, .int now), (5, .int t), (4, .int now), (0, .ref 94), (1, .int wk), (2, .int rw), (3, .int wt)], [.int now], (sh, I, L, R))) (M := mr_344) rfl (show mcode 344 76 = some (76, .iload 4, 2, 0, 0, 0, _) from rfl) (Or.inl ⟨.int now, rfl, rfl⟩) ?_
      refine XW.fam (S' := (80, [(9, .int now), (8, .int 0), (7, .int 0), (6, .int now), (5, .int t), (4, .int now), (0, .ref 94), (1, .int wk), (2, .int rw), (3, .int wt)], [], (sh, I, L, R))) (M := mr_344) rfl (show mcode 344 78 = some (78, .istore 9, 2, 0, 0, 0, _) from rfl) (Or.inr (Or.inr (Or.inr (Or.inr (Or.inr (Or.inr (Or.inl ⟨_, [], _, rfl, rfl, rfl⟩))))))) ?_
      have eQ : I 163 = J 163 := funext (fun k => h93 163 k (by decide))
      have eH : I 162 = J 162 := funext (fun k => h93 162 k (by decide))
      have ex : lnRoom (I 163) wt.toInt.toNat (fun k => (I 164 k).toInt) t.toInt.toNat rw.toInt.toNat = lnRoom (J 163) wt.toInt.toNat (lnRun (J 162) (J 163) rw.toInt.toNat wt.toInt.toNat t.toInt.toNat).2 t.toInt.toNat rw.toInt.toNat := by
        rw [eQ]
        exact rmin_congr (fun k hk => by dsimp only; rw [hwv k (by omega)])
      refine XW.sub (ls' := [(9, .int now), (8, .int 0), (7, .int 0), (6, .int now), (5, .int t), (4, .int now), (0, .ref 94), (1, .int wk), (2, .int rw), (3, .int wt)]) (List.forall_mem_cons.mpr ⟨List.mem_of_getElem? (i := 0) rfl, (List.forall_mem_cons.mpr ⟨List.mem_of_getElem? (i := 1) rfl, (List.forall_mem_cons.mpr ⟨List.mem_of_getElem? (i := 2) rfl, (List.forall_mem_cons.mpr ⟨List.mem_of_getElem? (i := 3) rfl, (List.forall_mem_cons.mpr ⟨List.mem_of_getElem? (i := 4) rfl, (List.forall_mem_cons.mpr ⟨List.mem_of_getElem? (i := 5) rfl, (List.forall_mem_cons.mpr ⟨List.mem_of_getElem? (i := 6) rfl, (List.forall_mem_cons.mpr ⟨List.mem_of_getElem? (i := 7) rfl, (List.forall_mem_cons.mpr ⟨List.mem_of_getElem? (i := 8) rfl, (List.forall_mem_cons.mpr ⟨List.mem_of_getElem? (i := 9) rfl, (fun _ h => absurd h List.not_mem_nil)⟩)⟩)⟩)⟩)⟩)⟩)⟩)⟩)⟩)⟩) ?_
      have hl2 : now.toInt.toNat = (lnRun (J 162) (J 163) rw.toInt.toNat wt.toInt.toNat t.toInt.toNat).1 := by omega
      refine fall_m (d := d) hw (by omega) hr ht (by omega) hwt (by rw [eH]; exact hh) (fun l cm mo be hfl q1 q2 => ?_) 102 now 0 0 now (by omega) (by omega) (by omega) (by decide) (by omega) (Or.inl ⟨rfl, rfl, rfl, rfl⟩)
      refine XW.fam (S' := (136, [(9, .int l), (8, .int cm), (7, .int mo), (6, .int be), (5, .int t), (4, .int now), (0, .ref 94), (1, .int wk), (2, .int rw), (3, .int wt)], [.int be], (sh, I, L, R))) (M := mr_344) rfl (show mcode 344 134 = some (134, .iload 6, 2, 0, 0, 0, _) from rfl) (Or.inl ⟨.int be, rfl, rfl⟩) ?_
      refine XW.fam (S' := (138, [(4, .int be), (9, .int l), (8, .int cm), (7, .int mo), (6, .int be), (5, .int t), (0, .ref 94), (1, .int wk), (2, .int rw), (3, .int wt)], [], (sh, I, L, R))) (M := mr_344) rfl (show mcode 344 136 = some (136, .istore 4, 2, 0, 0, 0, _) from rfl) (Or.inr (Or.inr (Or.inr (Or.inr (Or.inr (Or.inr (Or.inl ⟨_, [], _, rfl, rfl, rfl⟩))))))) ?_
      refine XW.fam (S' := (139, [(4, .int be), (9, .int l), (8, .int cm), (7, .int mo), (6, .int be), (5, .int t), (0, .ref 94), (1, .int wk), (2, .int rw), (3, .int wt)], [.int 0], (sh, I, L, R))) (M := mr_344) rfl (show mcode 344 138 = some (138, .iconst 0, 1, 0, 0, 0, _) from rfl) (Or.inl ⟨.int 0, rfl, rfl⟩) ?_
      refine XW.fam (S' := (141, [(9, .int 0), (4, .int be), (8, .int cm), (7, .int mo), (6, .int be), (5, .int t), (0, .ref 94), (1, .int wk), (2, .int rw), (3, .int wt)], [], (sh, I, L, R))) (M := mr_344) rfl (show mcode 344 139 = some (139, .istore 9, 2, 0, 0, 0, _) from rfl) (Or.inr (Or.inr (Or.inr (Or.inr (Or.inr (Or.inr (Or.inl ⟨_, [], _, rfl, rfl, rfl⟩))))))) ?_
      refine XW.sub (ls' := [(9, .int 0), (8, .int cm), (5, .int t), (4, .int be), (0, .ref 94), (1, .int wk), (2, .int rw), (3, .int wt)]) (List.forall_mem_cons.mpr ⟨List.mem_of_getElem? (i := 0) rfl, (List.forall_mem_cons.mpr ⟨List.mem_of_getElem? (i := 2) rfl, (List.forall_mem_cons.mpr ⟨List.mem_of_getElem? (i := 5) rfl, (List.forall_mem_cons.mpr ⟨List.mem_of_getElem? (i := 1) rfl, (List.forall_mem_cons.mpr ⟨List.mem_of_getElem? (i := 6) rfl, (List.forall_mem_cons.mpr ⟨List.mem_of_getElem? (i := 7) rfl, (List.forall_mem_cons.mpr ⟨List.mem_of_getElem? (i := 8) rfl, (List.forall_mem_cons.mpr ⟨List.mem_of_getElem? (i := 9) rfl, (fun _ h => absurd h List.not_mem_nil)⟩)⟩)⟩)⟩)⟩)⟩)⟩)⟩) ?_
      refine go_m (d := d) (J := I) (low := be) (by omega) hr (by omega) hwt 5 0 (by decide) (by omega) (by omega) hw hf (fun _ _ _ => rfl) (fun j hj => by exfalso; omega) (fun _ _ => rfl) (fun {IG} hwG hfG hG1 hG2 hG3 k => ?_)
      refine XW.fam (S' := (212, [(5, .int (t + Int32.ofInt 1)), (9, .int k), (8, .int cm), (4, .int be), (0, .ref 94), (1, .int wk), (2, .int rw), (3, .int wt)], [], (sh, IG, L, R))) (M := mr_344) rfl (show mcode 344 209 = some (209, .iinc 5 1, 3, 0, 0, 0, _) from rfl) (Or.inr (Or.inr (Or.inr (Or.inr (Or.inr (Or.inr (Or.inr (Or.inr (Or.inr ⟨5, 1, t, rfl, rfl, by decide, rfl⟩))))))))) ?_
      refine XW.fam (S' := (60, [(5, .int (t + Int32.ofInt 1)), (9, .int k), (8, .int cm), (4, .int be), (0, .ref 94), (1, .int wk), (2, .int rw), (3, .int wt)], [], (sh, IG, L, R))) (M := mr_344) rfl (show mcode 344 212 = some (212, .goto (-152), 3, 60, 0, 0, _) from rfl) (Or.inr (Or.inl ⟨60, [], rfl, rfl⟩)) ?_
      have eo := incO (m := t) (by omega) (by omega)
      refine XW.sub (ls' := [(5, .int (t + Int32.ofInt 1)), (4, .int be), (0, .ref 94), (1, .int wk), (2, .int rw), (3, .int wt)]) (List.forall_mem_cons.mpr ⟨List.mem_of_getElem? (i := 0) rfl, (List.forall_mem_cons.mpr ⟨List.mem_of_getElem? (i := 3) rfl, (List.forall_mem_cons.mpr ⟨List.mem_of_getElem? (i := 4) rfl, (List.forall_mem_cons.mpr ⟨List.mem_of_getElem? (i := 5) rfl, (List.forall_mem_cons.mpr ⟨List.mem_of_getElem? (i := 6) rfl, (List.forall_mem_cons.mpr ⟨List.mem_of_getElem? (i := 7) rfl, (fun _ h => absurd h List.not_mem_nil)⟩)⟩)⟩)⟩)⟩)⟩) ?_
      have en : (t + Int32.ofInt 1).toInt.toNat = t.toInt.toNat + 1 := by omega
      rw [eH, hl2, ex] at hfl
      have hst : lnRun (J 162) (J 163) rw.toInt.toNat wt.toInt.toNat (t.toInt.toNat + 1) = lnStep (J 162) (J 163) rw.toInt.toNat wt.toInt.toNat t.toInt.toNat (lnRun (J 162) (J 163) rw.toInt.toNat wt.toInt.toNat t.toInt.toNat) := rfl
      refine ih (t + Int32.ofInt 1) be (by omega) (by omega) (by omega) hwG hfG (fun q k hq => (hG1 q k hq).trans (h93 q k hq)) ?_ (fun k hk => ?_)
      · rw [en, hst]
        show _ = (((fallS (J 162) _ _ 0).1 : Nat) : Int)
        rw [hfl]
        show be.toInt = ((be.toInt.toNat : Nat) : Int)
        omega
      · rw [en, hst]
        show (IG 164 k).toInt = (if k < rw.toInt.toNat then lnGo (J 163) t.toInt.toNat (fallS (J 162) _ _ 0).2 (lnRun (J 162) (J 163) rw.toInt.toNat wt.toInt.toNat t.toInt.toNat).2 k else (lnRun (J 162) (J 163) rw.toInt.toNat wt.toInt.toNat t.toInt.toNat).2 k)
        by_cases c : k < rw.toInt.toNat
        · rw [if_pos c, hfl]
          have hg : (IG 164 k).toInt = lnGo (I 163) t.toInt.toNat cm.toInt (fun k => (I 164 k).toInt) k := hG2 k (by omega)
          rw [hg, eQ]
          unfold lnGo
          dsimp only
          exact congrArg (fun z : Int => if 0 < z + cm.toInt - lnB (J 163) k t.toInt.toNat then z + cm.toInt - lnB (J 163) k t.toInt.toNat else 0) (hwv k hk)
        · rw [if_neg c]
          have hg : IG 164 k = I 164 k := hG3 k (by omega)
          rw [hg]
          exact hwv k hk
theorem XW.mono {j : Nat} {M : mMt} {X : mX} {d mc ms : Nat} {Q Q' : Option Value → mW → Prop} {S : mS} (K : XW j M X d mc ms Q S) (h : ∀ r w, Q r w → Q' r w) : XW j M X d mc ms Q' S := by
  intro D base xa p l e R s m args below meth c Z H locs cells slots lsA cA hC hfr hlo hce hsl hH hL hl hret
  exact K D base xa p l e R s m args below meth c Z H locs cells slots lsA cA hC hfr hlo hce hsl hH hL hl (fun r w2 H2 locs2 ls2 cA2 c2 s2 pc2 q1 => hret r w2 H2 locs2 ls2 cA2 c2 s2 pc2 (h r w2 q1))
theorem tc_lineM {d : Nat} {sh : List mE} {R : Nat → Nat → Option Nat} {w : mW} {wk rw wt : Int32} (hw : wOK (mkT vV []) (wE sh R) w) (hf : fresh w) : Tc 344 (d + 2) 0 0 [.ref 94, .int wk, .int rw, .int wt] w (Qline 164 162 163 wk rw wt w) := by
  obtain ⟨sh0, I, L, R0⟩ := w
  obtain rfl : sh = sh0 := hw.2.2.2.1.symm
  obtain rfl : R = R0 := hw.2.2.2.2.1.symm
  have c94 : sh[94]? = some (.inr 12) := hw.1 94 _ rfl
  have c164 : sh[164]? = some (.inl (.int, 4)) := hw.1 164 _ rfl
  have r94_104 : R 94 104 = some 164 := hw.2.1 94 104 _ rfl
  have zm1 : ((-1) : Int32).toInt = (-1) := rfl
  have z0 : (0 : Int32).toInt = 0 := rfl
  have z1 : (1 : Int32).toInt = 1 := rfl
  have z4 : (4 : Int32).toInt = 4 := rfl
  have z7 : (7 : Int32).toInt = 7 := rfl
  have z100 : (100 : Int32).toInt = 100 := rfl
  refine Tc.of mr_344 rfl (show 4 ≤ mr_344.2.2.2.1 by decide) ?_
  refine XW.fam (S' := (1, [(0, .ref 94), (1, .int wk), (2, .int rw), (3, .int wt)], [.int wk], (sh, I, L, R))) (M := mr_344) rfl (show mcode 344 0 = some (0, .iload_n 1, 1, 0, 0, 0, _) from rfl) (Or.inl ⟨.int wk, rfl, rfl⟩) ?_
  refine XW.fam (S' := (2, [(0, .ref 94), (1, .int wk), (2, .int rw), (3, .int wt)], [.int 0, .int wk], (sh, I, L, R))) (M := mr_344) rfl (show mcode 344 1 = some (1, .iconst 0, 1, 0, 0, 0, _) from rfl) (Or.inl ⟨.int 0, rfl, rfl⟩) ?_
  refine XW.fam (S' := (4, [(0, .ref 94), (1, .int wk), (2, .int rw), (3, .int wt)], [.int 7, .int 0, .int wk], (sh, I, L, R))) (M := mr_344) rfl (show mcode 344 2 = some (2, .bipush 7, 2, 0, 0, 0, _) from rfl) (Or.inl ⟨.int 7, rfl, rfl⟩) ?_
  refine XW.call (d' := d) (mc' := 0) (ms' := 0) (av := [.int wk, .int 0, .int 7]) (rest := []) (M := mr_344) (Ma := mr_236) rfl (show mcode 344 4 = some (4, .invokestatic 254, 3, 236, 0, 0, _) from rfl) rfl (by decide) (by decide) rfl rfl rfl (show 0 ≤ 8 by decide) (tc_inM) (by omega) (Nat.zero_le _) (Nat.zero_le _) (fun rQ1 wQ1 Q1 => ?_)
  obtain ⟨hQ1, rfl⟩ := Q1
  rcases hQ1 with ⟨rfl, gQ1⟩ | ⟨rfl, gQ1⟩
  · skip
    refine XW.fam (S' := (28, [(0, .ref 94), (1, .int wk), (2, .int rw), (3, .int wt)], [], (sh, I, L, R))) (M := mr_344) rfl (show mcode 344 7 = some (7, .ifCond .eq 21, 3, 28, 0, 0, _) from rfl) (Or.inr (Or.inl ⟨28, [], rfl, rfl⟩)) ?_
    refine XW.fam (S' := (29, [(0, .ref 94), (1, .int wk), (2, .int rw), (3, .int wt)], [.int (-1)], (sh, I, L, R))) (M := mr_344) rfl (show mcode 344 28 = some (28, .iconst (-1), 1, 0, 0, 0, _) from rfl) (Or.inl ⟨.int (-1), rfl, rfl⟩) ?_
    refine XW.ret (r := some (.int (-1))) ⟨⟨.int, rfl, rfl⟩, by decide +kernel⟩ ?_
    exact ⟨hf, ⟨sh, R, hw⟩, fun _ _ _ => rfl, Or.inl ⟨fun q => by unfold okLn at q; omega, rfl⟩⟩
  · skip
    refine XW.fam (S' := (10, [(0, .ref 94), (1, .int wk), (2, .int rw), (3, .int wt)], [], (sh, I, L, R))) (M := mr_344) rfl (show mcode 344 7 = some (7, .ifCond .eq 21, 3, 28, 0, 0, _) from rfl) (Or.inr (Or.inl ⟨10, [], rfl, rfl⟩)) ?_
    refine XW.fam (S' := (11, [(0, .ref 94), (1, .int wk), (2, .int rw), (3, .int wt)], [.int rw], (sh, I, L, R))) (M := mr_344) rfl (show mcode 344 10 = some (10, .iload_n 2, 1, 0, 0, 0, _) from rfl) (Or.inl ⟨.int rw, rfl, rfl⟩) ?_
    refine XW.fam (S' := (12, [(0, .ref 94), (1, .int wk), (2, .int rw), (3, .int wt)], [.int 1, .int rw], (sh, I, L, R))) (M := mr_344) rfl (show mcode 344 11 = some (11, .iconst 1, 1, 0, 0, 0, _) from rfl) (Or.inl ⟨.int 1, rfl, rfl⟩) ?_
    refine XW.fam (S' := (13, [(0, .ref 94), (1, .int wk), (2, .int rw), (3, .int wt)], [.int 4, .int 1, .int rw], (sh, I, L, R))) (M := mr_344) rfl (show mcode 344 12 = some (12, .iconst 4, 1, 0, 0, 0, _) from rfl) (Or.inl ⟨.int 4, rfl, rfl⟩) ?_
    refine XW.call (d' := d) (mc' := 0) (ms' := 0) (av := [.int rw, .int 1, .int 4]) (rest := []) (M := mr_344) (Ma := mr_236) rfl (show mcode 344 13 = some (13, .invokestatic 254, 3, 236, 0, 0, _) from rfl) rfl (by decide) (by decide) rfl rfl rfl (show 0 ≤ 8 by decide) (tc_inM) (by omega) (Nat.zero_le _) (Nat.zero_le _) (fun rQ2 wQ2 Q2 => ?_)
    obtain ⟨hQ2, rfl⟩ := Q2
    rcases hQ2 with ⟨rfl, gQ2⟩ | ⟨rfl, gQ2⟩
    · skip
      refine XW.fam (S' := (28, [(0, .ref 94), (1, .int wk), (2, .int rw), (3, .int wt)], [], (sh, I, L, R))) (M := mr_344) rfl (show mcode 344 16 = some (16, .ifCond .eq 12, 3, 28, 0, 0, _) from rfl) (Or.inr (Or.inl ⟨28, [], rfl, rfl⟩)) ?_
      refine XW.fam (S' := (29, [(0, .ref 94), (1, .int wk), (2, .int rw), (3, .int wt)], [.int (-1)], (sh, I, L, R))) (M := mr_344) rfl (show mcode 344 28 = some (28, .iconst (-1), 1, 0, 0, 0, _) from rfl) (Or.inl ⟨.int (-1), rfl, rfl⟩) ?_
      refine XW.ret (r := some (.int (-1))) ⟨⟨.int, rfl, rfl⟩, by decide +kernel⟩ ?_
      exact ⟨hf, ⟨sh, R, hw⟩, fun _ _ _ => rfl, Or.inl ⟨fun q => by unfold okLn at q; omega, rfl⟩⟩
    · skip
      refine XW.fam (S' := (19, [(0, .ref 94), (1, .int wk), (2, .int rw), (3, .int wt)], [], (sh, I, L, R))) (M := mr_344) rfl (show mcode 344 16 = some (16, .ifCond .eq 12, 3, 28, 0, 0, _) from rfl) (Or.inr (Or.inl ⟨19, [], rfl, rfl⟩)) ?_
      refine XW.fam (S' := (20, [(0, .ref 94), (1, .int wk), (2, .int rw), (3, .int wt)], [.int wt], (sh, I, L, R))) (M := mr_344) rfl (show mcode 344 19 = some (19, .iload_n 3, 1, 0, 0, 0, _) from rfl) (Or.inl ⟨.int wt, rfl, rfl⟩) ?_
      refine XW.fam (S' := (21, [(0, .ref 94), (1, .int wk), (2, .int rw), (3, .int wt)], [.int 1, .int wt], (sh, I, L, R))) (M := mr_344) rfl (show mcode 344 20 = some (20, .iconst 1, 1, 0, 0, 0, _) from rfl) (Or.inl ⟨.int 1, rfl, rfl⟩) ?_
      refine XW.fam (S' := (22, [(0, .ref 94), (1, .int wk), (2, .int rw), (3, .int wt)], [.int 4, .int 1, .int wt], (sh, I, L, R))) (M := mr_344) rfl (show mcode 344 21 = some (21, .iconst 4, 1, 0, 0, 0, _) from rfl) (Or.inl ⟨.int 4, rfl, rfl⟩) ?_
      refine XW.call (d' := d) (mc' := 0) (ms' := 0) (av := [.int wt, .int 1, .int 4]) (rest := []) (M := mr_344) (Ma := mr_236) rfl (show mcode 344 22 = some (22, .invokestatic 254, 3, 236, 0, 0, _) from rfl) rfl (by decide) (by decide) rfl rfl rfl (show 0 ≤ 8 by decide) (tc_inM) (by omega) (Nat.zero_le _) (Nat.zero_le _) (fun rQ3 wQ3 Q3 => ?_)
      obtain ⟨hQ3, rfl⟩ := Q3
      rcases hQ3 with ⟨rfl, gQ3⟩ | ⟨rfl, gQ3⟩
      · skip
        refine XW.fam (S' := (28, [(0, .ref 94), (1, .int wk), (2, .int rw), (3, .int wt)], [], (sh, I, L, R))) (M := mr_344) rfl (show mcode 344 25 = some (25, .ifCond .ne 5, 3, 30, 0, 0, _) from rfl) (Or.inr (Or.inl ⟨28, [], rfl, rfl⟩)) ?_
        refine XW.fam (S' := (29, [(0, .ref 94), (1, .int wk), (2, .int rw), (3, .int wt)], [.int (-1)], (sh, I, L, R))) (M := mr_344) rfl (show mcode 344 28 = some (28, .iconst (-1), 1, 0, 0, 0, _) from rfl) (Or.inl ⟨.int (-1), rfl, rfl⟩) ?_
        refine XW.ret (r := some (.int (-1))) ⟨⟨.int, rfl, rfl⟩, by decide +kernel⟩ ?_
        exact ⟨hf, ⟨sh, R, hw⟩, fun _ _ _ => rfl, Or.inl ⟨fun q => by unfold okLn at q; omega, rfl⟩⟩
      · skip
        refine XW.fam (S' := (30, [(0, .ref 94), (1, .int wk), (2, .int rw), (3, .int wt)], [], (sh, I, L, R))) (M := mr_344) rfl (show mcode 344 25 = some (25, .ifCond .ne 5, 3, 30, 0, 0, _) from rfl) (Or.inr (Or.inl ⟨30, [], rfl, rfl⟩)) ?_
        refine XW.fam (S' := (31, [(0, .ref 94), (1, .int wk), (2, .int rw), (3, .int wt)], [.int 0], (sh, I, L, R))) (M := mr_344) rfl (show mcode 344 30 = some (30, .iconst 0, 1, 0, 0, 0, _) from rfl) (Or.inl ⟨.int 0, rfl, rfl⟩) ?_
        refine XW.fam (S' := (33, [(4, .int 0), (0, .ref 94), (1, .int wk), (2, .int rw), (3, .int wt)], [], (sh, I, L, R))) (M := mr_344) rfl (show mcode 344 31 = some (31, .istore 4, 2, 0, 0, 0, _) from rfl) (Or.inr (Or.inr (Or.inr (Or.inr (Or.inr (Or.inr (Or.inl ⟨_, [], _, rfl, rfl, rfl⟩))))))) ?_
        refine XW.fam (S' := (35, [(4, .int 0), (0, .ref 94), (1, .int wk), (2, .int rw), (3, .int wt)], [.int 0], (sh, I, L, R))) (M := mr_344) rfl (show mcode 344 33 = some (33, .iload 4, 2, 0, 0, 0, _) from rfl) (Or.inl ⟨.int 0, rfl, rfl⟩) ?_
        refine XW.fam (S' := (36, [(4, .int 0), (0, .ref 94), (1, .int wk), (2, .int rw), (3, .int wt)], [.int 4, .int 0], (sh, I, L, R))) (M := mr_344) rfl (show mcode 344 35 = some (35, .iconst 4, 1, 0, 0, 0, _) from rfl) (Or.inl ⟨.int 4, rfl, rfl⟩) ?_
        refine XW.fam (S' := (39, [(4, .int 0), (0, .ref 94), (1, .int wk), (2, .int rw), (3, .int wt)], [], (sh, I, L, R))) (M := mr_344) rfl (show mcode 344 36 = some (36, .if_icmp .ge 17, 3, 53, 0, 0, _) from rfl) (Or.inr (Or.inl ⟨39, [], rfl, rfl⟩)) ?_
        refine XW.fam (S' := (40, [(4, .int 0), (0, .ref 94), (1, .int wk), (2, .int rw), (3, .int wt)], [.ref 94], (sh, I, L, R))) (M := mr_344) rfl (show mcode 344 39 = some (39, .aload_n 0, 1, 0, 0, 0, _) from rfl) (Or.inl ⟨.ref 94, rfl, rfl⟩) ?_
        refine XW.fam (S' := (43, [(4, .int 0), (0, .ref 94), (1, .int wk), (2, .int rw), (3, .int wt)], [.ref 164], (sh, I, L, R))) (M := mr_344) rfl (show mcode 344 40 = some (40, .getfield 232, 3, 12, 104, 0, _) from rfl) (Or.inr (Or.inr (Or.inr (Or.inr (Or.inr (Or.inr (Or.inr (Or.inl ⟨_, _, rfl, fl_ld c94 r94_104 (by decide) (by decide), rfl⟩)))))))) ?_
        refine XW.fam (S' := (45, [(4, .int 0), (0, .ref 94), (1, .int wk), (2, .int rw), (3, .int wt)], [.int 0, .ref 164], (sh, I, L, R))) (M := mr_344) rfl (show mcode 344 43 = some (43, .iload 4, 2, 0, 0, 0, _) from rfl) (Or.inl ⟨.int 0, rfl, rfl⟩) ?_
        refine XW.fam (S' := (46, [(4, .int 0), (0, .ref 94), (1, .int wk), (2, .int rw), (3, .int wt)], [.int 0, .int 0, .ref 164], (sh, I, L, R))) (M := mr_344) rfl (show mcode 344 45 = some (45, .iconst 0, 1, 0, 0, 0, _) from rfl) (Or.inl ⟨.int 0, rfl, rfl⟩) ?_
        obtain ⟨I4, eI4⟩ : ∃ X, X = up2 I 164 (0 : Int32).toNatClampNeg 0 := ⟨_, rfl⟩
        refine XW.fam (S' := (47, [(4, .int 0), (0, .ref 94), (1, .int wk), (2, .int rw), (3, .int wt)], [], (sh, I4, L, R))) (M := mr_344) rfl (show mcode 344 46 = some (46, .iastore, 1, 0, 0, 0, _) from rfl) (Or.inr (Or.inr (Or.inr (Or.inl ⟨_, _, by rw [eI4]; exact sta_i c164 (show inR (0 : Int32) 4 = true by decide), rfl⟩)))) ?_
        have hwI4 : wOK (mkT vV []) (wE sh R) (sh, I4, L, R) := by rw [eI4]; exact wOK_u2 (q := 164) (k := (0 : Int32).toNatClampNeg) (x := 0) wE_put hw rfl (by show ((-2147483648) : Int) ≤ _; omega) (by show _ ≤ (2147483647 : Int); omega)
        have hfI4 : fresh (sh, I4, L, R) := by rw [eI4]; exact fresh_I hf c164
        have v5 : I4 164 (0 : Int32).toNatClampNeg = 0 := by rw [eI4]; exact up2_eq
        refine XW.fam (S' := (50, [(4, .int 1), (0, .ref 94), (1, .int wk), (2, .int rw), (3, .int wt)], [], (sh, I4, L, R))) (M := mr_344) rfl (show mcode 344 47 = some (47, .iinc 4 1, 3, 0, 0, 0, _) from rfl) (Or.inr (Or.inr (Or.inr (Or.inr (Or.inr (Or.inr (Or.inr (Or.inr (Or.inr ⟨4, 1, 0, rfl, rfl, by decide, rfl⟩))))))))) ?_
        refine XW.fam (S' := (33, [(4, .int 1), (0, .ref 94), (1, .int wk), (2, .int rw), (3, .int wt)], [], (sh, I4, L, R))) (M := mr_344) rfl (show mcode 344 50 = some (50, .goto (-17), 3, 33, 0, 0, _) from rfl) (Or.inr (Or.inl ⟨33, [], rfl, rfl⟩)) ?_
        refine XW.fam (S' := (35, [(4, .int 1), (0, .ref 94), (1, .int wk), (2, .int rw), (3, .int wt)], [.int 1], (sh, I4, L, R))) (M := mr_344) rfl (show mcode 344 33 = some (33, .iload 4, 2, 0, 0, 0, _) from rfl) (Or.inl ⟨.int 1, rfl, rfl⟩) ?_
        refine XW.fam (S' := (36, [(4, .int 1), (0, .ref 94), (1, .int wk), (2, .int rw), (3, .int wt)], [.int 4, .int 1], (sh, I4, L, R))) (M := mr_344) rfl (show mcode 344 35 = some (35, .iconst 4, 1, 0, 0, 0, _) from rfl) (Or.inl ⟨.int 4, rfl, rfl⟩) ?_
        refine XW.fam (S' := (39, [(4, .int 1), (0, .ref 94), (1, .int wk), (2, .int rw), (3, .int wt)], [], (sh, I4, L, R))) (M := mr_344) rfl (show mcode 344 36 = some (36, .if_icmp .ge 17, 3, 53, 0, 0, _) from rfl) (Or.inr (Or.inl ⟨39, [], rfl, rfl⟩)) ?_
        refine XW.fam (S' := (40, [(4, .int 1), (0, .ref 94), (1, .int wk), (2, .int rw), (3, .int wt)], [.ref 94], (sh, I4, L, R))) (M := mr_344) rfl (show mcode 344 39 = some (39, .aload_n 0, 1, 0, 0, 0, _) from rfl) (Or.inl ⟨.ref 94, rfl, rfl⟩) ?_
        refine XW.fam (S' := (43, [(4, .int 1), (0, .ref 94), (1, .int wk), (2, .int rw), (3, .int wt)], [.ref 164], (sh, I4, L, R))) (M := mr_344) rfl (show mcode 344 40 = some (40, .getfield 232, 3, 12, 104, 0, _) from rfl) (Or.inr (Or.inr (Or.inr (Or.inr (Or.inr (Or.inr (Or.inr (Or.inl ⟨_, _, rfl, fl_ld c94 r94_104 (by decide) (by decide), rfl⟩)))))))) ?_
        refine XW.fam (S' := (45, [(4, .int 1), (0, .ref 94), (1, .int wk), (2, .int rw), (3, .int wt)], [.int 1, .ref 164], (sh, I4, L, R))) (M := mr_344) rfl (show mcode 344 43 = some (43, .iload 4, 2, 0, 0, 0, _) from rfl) (Or.inl ⟨.int 1, rfl, rfl⟩) ?_
        refine XW.fam (S' := (46, [(4, .int 1), (0, .ref 94), (1, .int wk), (2, .int rw), (3, .int wt)], [.int 0, .int 1, .ref 164], (sh, I4, L, R))) (M := mr_344) rfl (show mcode 344 45 = some (45, .iconst 0, 1, 0, 0, 0, _) from rfl) (Or.inl ⟨.int 0, rfl, rfl⟩) ?_
        obtain ⟨I6, eI6⟩ : ∃ X, X = up2 I4 164 (1 : Int32).toNatClampNeg 0 := ⟨_, rfl⟩
        refine XW.fam (S' := (47, [(4, .int 1), (0, .ref 94), (1, .int wk), (2, .int rw), (3, .int wt)], [], (sh, I6, L, R))) (M := mr_344) rfl (show mcode 344 46 = some (46, .iastore, 1, 0, 0, 0, _) from rfl) (Or.inr (Or.inr (Or.inr (Or.inl ⟨_, _, by rw [eI6]; exact sta_i c164 (show inR (1 : Int32) 4 = true by decide), rfl⟩)))) ?_
        have hwI6 : wOK (mkT vV []) (wE sh R) (sh, I6, L, R) := by rw [eI6]; exact wOK_u2 (q := 164) (k := (1 : Int32).toNatClampNeg) (x := 0) wE_put hwI4 rfl (by show ((-2147483648) : Int) ≤ _; omega) (by show _ ≤ (2147483647 : Int); omega)
        have hfI6 : fresh (sh, I6, L, R) := by rw [eI6]; exact fresh_I hfI4 c164
        have v8 : I6 164 (1 : Int32).toNatClampNeg = 0 := by rw [eI6]; exact up2_eq
        refine XW.fam (S' := (50, [(4, .int 2), (0, .ref 94), (1, .int wk), (2, .int rw), (3, .int wt)], [], (sh, I6, L, R))) (M := mr_344) rfl (show mcode 344 47 = some (47, .iinc 4 1, 3, 0, 0, 0, _) from rfl) (Or.inr (Or.inr (Or.inr (Or.inr (Or.inr (Or.inr (Or.inr (Or.inr (Or.inr ⟨4, 1, 1, rfl, rfl, by decide, rfl⟩))))))))) ?_
        refine XW.fam (S' := (33, [(4, .int 2), (0, .ref 94), (1, .int wk), (2, .int rw), (3, .int wt)], [], (sh, I6, L, R))) (M := mr_344) rfl (show mcode 344 50 = some (50, .goto (-17), 3, 33, 0, 0, _) from rfl) (Or.inr (Or.inl ⟨33, [], rfl, rfl⟩)) ?_
        refine XW.fam (S' := (35, [(4, .int 2), (0, .ref 94), (1, .int wk), (2, .int rw), (3, .int wt)], [.int 2], (sh, I6, L, R))) (M := mr_344) rfl (show mcode 344 33 = some (33, .iload 4, 2, 0, 0, 0, _) from rfl) (Or.inl ⟨.int 2, rfl, rfl⟩) ?_
        refine XW.fam (S' := (36, [(4, .int 2), (0, .ref 94), (1, .int wk), (2, .int rw), (3, .int wt)], [.int 4, .int 2], (sh, I6, L, R))) (M := mr_344) rfl (show mcode 344 35 = some (35, .iconst 4, 1, 0, 0, 0, _) from rfl) (Or.inl ⟨.int 4, rfl, rfl⟩) ?_
        refine XW.fam (S' := (39, [(4, .int 2), (0, .ref 94), (1, .int wk), (2, .int rw), (3, .int wt)], [], (sh, I6, L, R))) (M := mr_344) rfl (show mcode 344 36 = some (36, .if_icmp .ge 17, 3, 53, 0, 0, _) from rfl) (Or.inr (Or.inl ⟨39, [], rfl, rfl⟩)) ?_
        refine XW.fam (S' := (40, [(4, .int 2), (0, .ref 94), (1, .int wk), (2, .int rw), (3, .int wt)], [.ref 94], (sh, I6, L, R))) (M := mr_344) rfl (show mcode 344 39 = some (39, .aload_n 0, 1, 0, 0, 0, _) from rfl) (Or.inl ⟨.ref 94, rfl, rfl⟩) ?_
        refine XW.fam (S' := (43, [(4, .int 2), (0, .ref 94), (1, .int wk), (2, .int rw), (3, .int wt)], [.ref 164], (sh, I6, L, R))) (M := mr_344) rfl (show mcode 344 40 = some (40, .getfield 232, 3, 12, 104, 0, _) from rfl) (Or.inr (Or.inr (Or.inr (Or.inr (Or.inr (Or.inr (Or.inr (Or.inl ⟨_, _, rfl, fl_ld c94 r94_104 (by decide) (by decide), rfl⟩)))))))) ?_
        refine XW.fam (S' := (45, [(4, .int 2), (0, .ref 94), (1, .int wk), (2, .int rw), (3, .int wt)], [.int 2, .ref 164], (sh, I6, L, R))) (M := mr_344) rfl (show mcode 344 43 = some (43, .iload 4, 2, 0, 0, 0, _) from rfl) (Or.inl ⟨.int 2, rfl, rfl⟩) ?_
        refine XW.fam (S' := (46, [(4, .int 2), (0, .ref 94), (1, .int wk), (2, .int rw), (3, .int wt)], [.int 0, .int 2, .ref 164], (sh, I6, L, R))) (M := mr_344) rfl (show mcode 344 45 = some (45, .iconst 0, 1, 0, 0, 0, _) from rfl) (Or.inl ⟨.int 0, rfl, rfl⟩) ?_
        obtain ⟨I9, eI9⟩ : ∃ X, X = up2 I6 164 (2 : Int32).toNatClampNeg 0 := ⟨_, rfl⟩
        refine XW.fam (S' := (47, [(4, .int 2), (0, .ref 94), (1, .int wk), (2, .int rw), (3, .int wt)], [], (sh, I9, L, R))) (M := mr_344) rfl (show mcode 344 46 = some (46, .iastore, 1, 0, 0, 0, _) from rfl) (Or.inr (Or.inr (Or.inr (Or.inl ⟨_, _, by rw [eI9]; exact sta_i c164 (show inR (2 : Int32) 4 = true by decide), rfl⟩)))) ?_
        have hwI9 : wOK (mkT vV []) (wE sh R) (sh, I9, L, R) := by rw [eI9]; exact wOK_u2 (q := 164) (k := (2 : Int32).toNatClampNeg) (x := 0) wE_put hwI6 rfl (by show ((-2147483648) : Int) ≤ _; omega) (by show _ ≤ (2147483647 : Int); omega)
        have hfI9 : fresh (sh, I9, L, R) := by rw [eI9]; exact fresh_I hfI6 c164
        have v11 : I9 164 (2 : Int32).toNatClampNeg = 0 := by rw [eI9]; exact up2_eq
        refine XW.fam (S' := (50, [(4, .int 3), (0, .ref 94), (1, .int wk), (2, .int rw), (3, .int wt)], [], (sh, I9, L, R))) (M := mr_344) rfl (show mcode 344 47 = some (47, .iinc 4 1, 3, 0, 0, 0, _) from rfl) (Or.inr (Or.inr (Or.inr (Or.inr (Or.inr (Or.inr (Or.inr (Or.inr (Or.inr ⟨4, 1, 2, rfl, rfl, by decide, rfl⟩))))))))) ?_
        refine XW.fam (S' := (33, [(4, .int 3), (0, .ref 94), (1, .int wk), (2, .int rw), (3, .int wt)], [], (sh, I9, L, R))) (M := mr_344) rfl (show mcode 344 50 = some (50, .goto (-17), 3, 33, 0, 0, _) from rfl) (Or.inr (Or.inl ⟨33, [], rfl, rfl⟩)) ?_
        refine XW.fam (S' := (35, [(4, .int 3), (0, .ref 94), (1, .int wk), (2, .int rw), (3, .int wt)], [.int 3], (sh, I9, L, R))) (M := mr_344) rfl (show mcode 344 33 = some (33, .iload 4, 2, 0, 0, 0, _) from rfl) (Or.inl ⟨.int 3, rfl, rfl⟩) ?_
        refine XW.fam (S' := (36, [(4, .int 3), (0, .ref 94), (1, .int wk), (2, .int rw), (3, .int wt)], [.int 4, .int 3], (sh, I9, L, R))) (M := mr_344) rfl (show mcode 344 35 = some (35, .iconst 4, 1, 0, 0, 0, _) from rfl) (Or.inl ⟨.int 4, rfl, rfl⟩) ?_
        refine XW.fam (S' := (39, [(4, .int 3), (0, .ref 94), (1, .int wk), (2, .int rw), (3, .int wt)], [], (sh, I9, L, R))) (M := mr_344) rfl (show mcode 344 36 = some (36, .if_icmp .ge 17, 3, 53, 0, 0, _) from rfl) (Or.inr (Or.inl ⟨39, [], rfl, rfl⟩)) ?_
        refine XW.fam (S' := (40, [(4, .int 3), (0, .ref 94), (1, .int wk), (2, .int rw), (3, .int wt)], [.ref 94], (sh, I9, L, R))) (M := mr_344) rfl (show mcode 344 39 = some (39, .aload_n 0, 1, 0, 0, 0, _) from rfl) (Or.inl ⟨.ref 94, rfl, rfl⟩) ?_
        refine XW.fam (S' := (43, [(4, .int 3), (0, .ref 94), (1, .int wk), (2, .int rw), (3, .int wt)], [.ref 164], (sh, I9, L, R))) (M := mr_344) rfl (show mcode 344 40 = some (40, .getfield 232, 3, 12, 104, 0, _) from rfl) (Or.inr (Or.inr (Or.inr (Or.inr (Or.inr (Or.inr (Or.inr (Or.inl ⟨_, _, rfl, fl_ld c94 r94_104 (by decide) (by decide), rfl⟩)))))))) ?_
        refine XW.fam (S' := (45, [(4, .int 3), (0, .ref 94), (1, .int wk), (2, .int rw), (3, .int wt)], [.int 3, .ref 164], (sh, I9, L, R))) (M := mr_344) rfl (show mcode 344 43 = some (43, .iload 4, 2, 0, 0, 0, _) from rfl) (Or.inl ⟨.int 3, rfl, rfl⟩) ?_
        refine XW.fam (S' := (46, [(4, .int 3), (0, .ref 94), (1, .int wk), (2, .int rw), (3, .int wt)], [.int 0, .int 3, .ref 164], (sh, I9, L, R))) (M := mr_344) rfl (show mcode 344 45 = some (45, .iconst 0, 1, 0, 0, 0, _) from rfl) (Or.inl ⟨.int 0, rfl, rfl⟩) ?_
        obtain ⟨I12, eI12⟩ : ∃ X, X = up2 I9 164 (3 : Int32).toNatClampNeg 0 := ⟨_, rfl⟩
        refine XW.fam (S' := (47, [(4, .int 3), (0, .ref 94), (1, .int wk), (2, .int rw), (3, .int wt)], [], (sh, I12, L, R))) (M := mr_344) rfl (show mcode 344 46 = some (46, .iastore, 1, 0, 0, 0, _) from rfl) (Or.inr (Or.inr (Or.inr (Or.inl ⟨_, _, by rw [eI12]; exact sta_i c164 (show inR (3 : Int32) 4 = true by decide), rfl⟩)))) ?_
        have hwI12 : wOK (mkT vV []) (wE sh R) (sh, I12, L, R) := by rw [eI12]; exact wOK_u2 (q := 164) (k := (3 : Int32).toNatClampNeg) (x := 0) wE_put hwI9 rfl (by show ((-2147483648) : Int) ≤ _; omega) (by show _ ≤ (2147483647 : Int); omega)
        have hfI12 : fresh (sh, I12, L, R) := by rw [eI12]; exact fresh_I hfI9 c164
        have v14 : I12 164 (3 : Int32).toNatClampNeg = 0 := by rw [eI12]; exact up2_eq
        refine XW.fam (S' := (50, [(4, .int 4), (0, .ref 94), (1, .int wk), (2, .int rw), (3, .int wt)], [], (sh, I12, L, R))) (M := mr_344) rfl (show mcode 344 47 = some (47, .iinc 4 1, 3, 0, 0, 0, _) from rfl) (Or.inr (Or.inr (Or.inr (Or.inr (Or.inr (Or.inr (Or.inr (Or.inr (Or.inr ⟨4, 1, 3, rfl, rfl, by decide, rfl⟩))))))))) ?_
        refine XW.fam (S' := (33, [(4, .int 4), (0, .ref 94), (1, .int wk), (2, .int rw), (3, .int wt)], [], (sh, I12, L, R))) (M := mr_344) rfl (show mcode 344 50 = some (50, .goto (-17), 3, 33, 0, 0, _) from rfl) (Or.inr (Or.inl ⟨33, [], rfl, rfl⟩)) ?_
        refine XW.fam (S' := (35, [(4, .int 4), (0, .ref 94), (1, .int wk), (2, .int rw), (3, .int wt)], [.int 4], (sh, I12, L, R))) (M := mr_344) rfl (show mcode 344 33 = some (33, .iload 4, 2, 0, 0, 0, _) from rfl) (Or.inl ⟨.int 4, rfl, rfl⟩) ?_
        refine XW.fam (S' := (36, [(4, .int 4), (0, .ref 94), (1, .int wk), (2, .int rw), (3, .int wt)], [.int 4, .int 4], (sh, I12, L, R))) (M := mr_344) rfl (show mcode 344 35 = some (35, .iconst 4, 1, 0, 0, 0, _) from rfl) (Or.inl ⟨.int 4, rfl, rfl⟩) ?_
        refine XW.fam (S' := (53, [(4, .int 4), (0, .ref 94), (1, .int wk), (2, .int rw), (3, .int wt)], [], (sh, I12, L, R))) (M := mr_344) rfl (show mcode 344 36 = some (36, .if_icmp .ge 17, 3, 53, 0, 0, _) from rfl) (Or.inr (Or.inl ⟨53, [], rfl, rfl⟩)) ?_
        refine XW.fam (S' := (55, [(4, .int 4), (0, .ref 94), (1, .int wk), (2, .int rw), (3, .int wt)], [.int 100], (sh, I12, L, R))) (M := mr_344) rfl (show mcode 344 53 = some (53, .bipush 100, 2, 0, 0, 0, _) from rfl) (Or.inl ⟨.int 100, rfl, rfl⟩) ?_
        refine XW.fam (S' := (57, [(4, .int 100), (0, .ref 94), (1, .int wk), (2, .int rw), (3, .int wt)], [], (sh, I12, L, R))) (M := mr_344) rfl (show mcode 344 55 = some (55, .istore 4, 2, 0, 0, 0, _) from rfl) (Or.inr (Or.inr (Or.inr (Or.inr (Or.inr (Or.inr (Or.inl ⟨_, [], _, rfl, rfl, rfl⟩))))))) ?_
        refine XW.fam (S' := (58, [(4, .int 100), (0, .ref 94), (1, .int wk), (2, .int rw), (3, .int wt)], [.int 0], (sh, I12, L, R))) (M := mr_344) rfl (show mcode 344 57 = some (57, .iconst 0, 1, 0, 0, 0, _) from rfl) (Or.inl ⟨.int 0, rfl, rfl⟩) ?_
        refine XW.fam (S' := (60, [(5, .int 0), (4, .int 100), (0, .ref 94), (1, .int wk), (2, .int rw), (3, .int wt)], [], (sh, I12, L, R))) (M := mr_344) rfl (show mcode 344 58 = some (58, .istore 5, 2, 0, 0, 0, _) from rfl) (Or.inr (Or.inr (Or.inr (Or.inr (Or.inr (Or.inr (Or.inl ⟨_, [], _, rfl, rfl, rfl⟩))))))) ?_
        have a0_0 : I4 164 0 = 0 := by rw [eI4]; exact up2_eq
        have a1_0 : I6 164 0 = 0 := by rw [eI6]; exact up2_v a0_0
        have a1_1 : I6 164 1 = 0 := by rw [eI6]; exact up2_eq
        have a2_0 : I9 164 0 = 0 := by rw [eI9]; exact up2_v a1_0
        have a2_1 : I9 164 1 = 0 := by rw [eI9]; exact up2_v a1_1
        have a2_2 : I9 164 2 = 0 := by rw [eI9]; exact up2_eq
        have a3_0 : I12 164 0 = 0 := by rw [eI12]; exact up2_v a2_0
        have a3_1 : I12 164 1 = 0 := by rw [eI12]; exact up2_v a2_1
        have a3_2 : I12 164 2 = 0 := by rw [eI12]; exact up2_v a2_2
        have a3_3 : I12 164 3 = 0 := by rw [eI12]; exact up2_eq
        refine XW.sub (ls' := [(5, .int 0), (4, .int 100), (0, .ref 94), (1, .int wk), (2, .int rw), (3, .int wt)]) (List.forall_mem_cons.mpr ⟨List.mem_of_getElem? (i := 0) rfl, (List.forall_mem_cons.mpr ⟨List.mem_of_getElem? (i := 1) rfl, (List.forall_mem_cons.mpr ⟨List.mem_of_getElem? (i := 2) rfl, (List.forall_mem_cons.mpr ⟨List.mem_of_getElem? (i := 3) rfl, (List.forall_mem_cons.mpr ⟨List.mem_of_getElem? (i := 4) rfl, (List.forall_mem_cons.mpr ⟨List.mem_of_getElem? (i := 5) rfl, (fun _ h => absurd h List.not_mem_nil)⟩)⟩)⟩)⟩)⟩)⟩) ?_
        have hk4 : ∀ k : Nat, k < 4 → I12 164 k = 0 := by
          intro k hk
          have h4 : k = 0 ∨ k = 1 ∨ k = 2 ∨ k = 3 := by omega
          rcases h4 with rfl | rfl | rfl | rfl
          · exact a3_0
          · exact a3_1
          · exact a3_2
          · exact a3_3
        have hkp : ∀ q k, ¬ q = 164 → I12 q k = I q k := by
          intro q k hq
          rw [eI12, up2_ne (fun e => hq e.1), eI9, up2_ne (fun e => hq e.1), eI6, up2_ne (fun e => hq e.1), eI4, up2_ne (fun e => hq e.1)]
        have fin := wk_m (d := d) (J := I) (wk := wk) (rw := rw) (wt := wt) (by omega) (by omega) (by omega) 9 0 100 (by decide) (by omega) (by omega) hwI12 hfI12 hkp rfl (fun k hk => by rw [hk4 k hk]; rfl)
        exact XW.mono fin (fun r w' q => ⟨q.1, q.2.1, q.2.2.1, Or.inr ⟨by unfold okLn; omega, q.2.2.2⟩⟩)
