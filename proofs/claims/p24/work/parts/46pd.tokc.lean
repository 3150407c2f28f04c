/-! ===== the tokens of our side (wip/gentok.py) ===== -/
theorem tc_byte {d : Nat} {sh : List mE} {I : Nat → Nat → Int32} {L : Nat → Nat → Int64} {R : Nat → Nat → Option Nat} {p : Int32} (hw : wOK (mkT vV []) (wE sh R) (sh, I, L, R)) (hp : 0 ≤ p.toInt ∧ p.toInt < (I 41 0).toInt) : Tc 95 d 0 0 [.ref 41, .int p] (sh, I, L, R) (fun r w' => (∃ y : Int32, r = some (.int y) ∧ y.toInt = ubt (I 42 p.toNatClampNeg).toInt) ∧ w' = (sh, I, L, R)) := by
  have c41 : sh[41]? = some (.inr 5) := hw.1 41 _ rfl
  have c42 : sh[42]? = some (.inl (.byte, 240)) := hw.1 42 _ rfl
  have r41_1 : R 41 1 = some 42 := hw.2.1 41 1 _ rfl
  have z0 : (0 : Int32).toInt = 0 := rfl
  have z240 : (240 : Int32).toInt = 240 := rfl
  have z255 : (255 : Int32).toInt = 255 := rfl
  have hl0 : 0 ≤ (I 41 0).toInt ∧ (I 41 0).toInt ≤ 240 := hw.2.2.1 41 0
  have h42 : -128 ≤ (I 42 p.toNatClampNeg).toInt ∧ (I 42 p.toNatClampNeg).toInt ≤ 127 := hw.2.2.1 42 _
  refine Tc.of mr_95 rfl (show 2 ≤ mr_95.2.2.2.1 by decide) ?_
  refine XW.fam (S' := (1, [(0, .ref 41), (1, .int p)], [.int p], (sh, I, L, R))) (M := mr_95) rfl (show mcode 95 0 = some (0, .iload_n 1, 1, 0, 0, 0, _) from rfl) (Or.inl ⟨.int p, rfl, rfl⟩) ?_
  have k1 : bcmp .lt p 0 = false := bcF (c := .lt) (a := (p).toInt) (b := 0) rfl (by decide) (by show ¬ ((p).toInt < 0); omega)
  refine XW.fam (S' := (4, [(0, .ref 41), (1, .int p)], [], (sh, I, L, R))) (M := mr_95) rfl (show mcode 95 1 = some (1, .ifCond .lt 31, 3, 32, 0, 0, _) from rfl) (Or.inr (Or.inl ⟨4, [], by simp [brn, k1], rfl⟩)) ?_
  refine XW.fam (S' := (5, [(0, .ref 41), (1, .int p)], [.int p], (sh, I, L, R))) (M := mr_95) rfl (show mcode 95 4 = some (4, .iload_n 1, 1, 0, 0, 0, _) from rfl) (Or.inl ⟨.int p, rfl, rfl⟩) ?_
  refine XW.fam (S' := (6, [(0, .ref 41), (1, .int p)], [.ref 41, .int p], (sh, I, L, R))) (M := mr_95) rfl (show mcode 95 5 = some (5, .aload_n 0, 1, 0, 0, 0, _) from rfl) (Or.inl ⟨.ref 41, rfl, rfl⟩) ?_
  refine XW.fam (S' := (9, [(0, .ref 41), (1, .int p)], [.int (I 41 0), .int p], (sh, I, L, R))) (M := mr_95) rfl (show mcode 95 6 = some (6, .getfield 28, 3, 5, 0, 0, _) from rfl) (Or.inr (Or.inr (Or.inr (Or.inr (Or.inr (Or.inr (Or.inr (Or.inl ⟨_, _, rfl, fl_ldI c41 (by decide) (by decide), rfl⟩)))))))) ?_
  have k2 : bcmp .ge p (I 41 0) = false := bcF (c := .ge) (a := (p).toInt) (b := ((I 41 0)).toInt) rfl rfl (by show ¬ (((I 41 0)).toInt ≤ (p).toInt); omega)
  refine XW.fam (S' := (12, [(0, .ref 41), (1, .int p)], [], (sh, I, L, R))) (M := mr_95) rfl (show mcode 95 9 = some (9, .if_icmp .ge 23, 3, 32, 0, 0, _) from rfl) (Or.inr (Or.inl ⟨12, [], by simp [brn, k2], rfl⟩)) ?_
  refine XW.fam (S' := (13, [(0, .ref 41), (1, .int p)], [.int p], (sh, I, L, R))) (M := mr_95) rfl (show mcode 95 12 = some (12, .iload_n 1, 1, 0, 0, 0, _) from rfl) (Or.inl ⟨.int p, rfl, rfl⟩) ?_
  refine XW.fam (S' := (16, [(0, .ref 41), (1, .int p)], [.int 240, .int p], (sh, I, L, R))) (M := mr_95) rfl (show mcode 95 13 = some (13, .sipush 240, 3, 0, 0, 0, _) from rfl) (Or.inl ⟨.int 240, rfl, rfl⟩) ?_
  have k3 : bcmp .ge p 240 = false := bcF (c := .ge) (a := (p).toInt) (b := 240) rfl (by decide) (by show ¬ (240 ≤ (p).toInt); omega)
  refine XW.fam (S' := (19, [(0, .ref 41), (1, .int p)], [], (sh, I, L, R))) (M := mr_95) rfl (show mcode 95 16 = some (16, .if_icmp .ge 16, 3, 32, 0, 0, _) from rfl) (Or.inr (Or.inl ⟨19, [], by simp [brn, k3], rfl⟩)) ?_
  refine XW.fam (S' := (20, [(0, .ref 41), (1, .int p)], [.ref 41], (sh, I, L, R))) (M := mr_95) rfl (show mcode 95 19 = some (19, .aload_n 0, 1, 0, 0, 0, _) from rfl) (Or.inl ⟨.ref 41, rfl, rfl⟩) ?_
  refine XW.fam (S' := (23, [(0, .ref 41), (1, .int p)], [.ref 42], (sh, I, L, R))) (M := mr_95) rfl (show mcode 95 20 = some (20, .getfield 9, 3, 5, 1, 0, _) from rfl) (Or.inr (Or.inr (Or.inr (Or.inr (Or.inr (Or.inr (Or.inr (Or.inl ⟨_, _, rfl, fl_ld c41 r41_1 (by decide) (by decide), rfl⟩)))))))) ?_
  refine XW.fam (S' := (24, [(0, .ref 41), (1, .int p)], [.int p, .ref 42], (sh, I, L, R))) (M := mr_95) rfl (show mcode 95 23 = some (23, .iload_n 1, 1, 0, 0, 0, _) from rfl) (Or.inl ⟨.int p, rfl, rfl⟩) ?_
  have hin4 : inR p 240 = true := inR_of (by omega) (by omega)
  refine XW.fam (S' := (25, [(0, .ref 41), (1, .int p)], [.int (I 42 (p).toNatClampNeg)], (sh, I, L, R))) (M := mr_95) rfl (show mcode 95 24 = some (24, .baload, 1, 0, 0, 0, _) from rfl) (Or.inr (Or.inr (Or.inl ⟨_, lda_y c42 hin4, rfl⟩))) ?_
  refine XW.fam (S' := (28, [(0, .ref 41), (1, .int p)], [.int 255, .int (I 42 (p).toNatClampNeg)], (sh, I, L, R))) (M := mr_95) rfl (show mcode 95 25 = some (25, .sipush 255, 3, 0, 0, 0, _) from rfl) (Or.inl ⟨.int 255, rfl, rfl⟩) ?_
  refine XW.fam (S' := (29, [(0, .ref 41), (1, .int p)], [.int ((I 42 (p).toNatClampNeg) &&& 255)], (sh, I, L, R))) (M := mr_95) rfl (show mcode 95 28 = some (28, .iand, 1, 0, 0, 0, _) from rfl) (Or.inr (Or.inr (Or.inr (Or.inr (Or.inr (Or.inl ⟨_, rfl, rfl⟩)))))) ?_
  refine XW.fam (S' := (33, [(0, .ref 41), (1, .int p)], [.int ((I 42 (p).toNatClampNeg) &&& 255)], (sh, I, L, R))) (M := mr_95) rfl (show mcode 95 29 = some (29, .goto 4, 3, 33, 0, 0, _) from rfl) (Or.inr (Or.inl ⟨33, [.int ((I 42 (p).toNatClampNeg) &&& 255)], rfl, rfl⟩)) ?_
  refine XW.ret (r := some (.int ((I 42 (p).toNatClampNeg) &&& 255))) ⟨⟨.int, rfl, rfl⟩, by decide +kernel⟩ ?_
  exact ⟨⟨_, rfl, and255b h42.1 h42.2⟩, rfl⟩
theorem tc_let {d : Nat} {sh : List mE} {I : Nat → Nat → Int32} {L : Nat → Nat → Int64} {R : Nat → Nat → Option Nat} {p : Int32} (hw : wOK (mkT vV []) (wE sh R) (sh, I, L, R)) (hp : 0 ≤ p.toInt ∧ p.toInt < (I 41 0).toInt) : Tc 94 (d + 1) 0 0 [.ref 41, .int p] (sh, I, L, R) (fun r w' => ((r = some (.int 0) ∧ ¬ tL (I 42 p.toNatClampNeg).toInt = true) ∨ (r = some (.int 1) ∧ tL (I 42 p.toNatClampNeg).toInt = true)) ∧ w' = (sh, I, L, R)) := by
  have c41 : sh[41]? = some (.inr 5) := hw.1 41 _ rfl
  have z97 : (97 : Int32).toInt = 97 := rfl
  have z122 : (122 : Int32).toInt = 122 := rfl
  have h42 : -128 ≤ (I 42 p.toNatClampNeg).toInt ∧ (I 42 p.toNatClampNeg).toInt ≤ 127 := hw.2.2.1 42 _
  refine Tc.of mr_94 rfl (show 2 ≤ mr_94.2.2.2.1 by decide) ?_
  refine XW.fam (S' := (1, [(0, .ref 41), (1, .int p)], [.ref 41], (sh, I, L, R))) (M := mr_94) rfl (show mcode 94 0 = some (0, .aload_n 0, 1, 0, 0, 0, _) from rfl) (Or.inl ⟨.ref 41, rfl, rfl⟩) ?_
  refine XW.fam (S' := (2, [(0, .ref 41), (1, .int p)], [.int p, .ref 41], (sh, I, L, R))) (M := mr_94) rfl (show mcode 94 1 = some (1, .iload_n 1, 1, 0, 0, 0, _) from rfl) (Or.inl ⟨.int p, rfl, rfl⟩) ?_
  refine XW.call (d' := d) (mc' := 0) (ms' := 0) (av := [.ref 41, .int p]) (rest := []) (M := mr_94) (Ma := mr_95) rfl (show mcode 94 2 = some (2, .invokevirtual 56, 3, 95, 0, 0, _) from rfl) rfl (by decide) (by decide) ⟨rfl, 41, _, rfl, c41⟩ rfl rfl (show 0 ≤ 8 by decide) (tc_byte (d := d) hw hp) (by omega) (Nat.zero_le _) (Nat.zero_le _) (fun rQ1 wQ1 Q1 => ?_)
  obtain ⟨⟨yQ1, rfl, hyQ1⟩, rfl⟩ := Q1
  refine XW.fam (S' := (7, [(0, .ref 41), (1, .int p)], [.int 97, .int yQ1], (sh, I, L, R))) (M := mr_94) rfl (show mcode 94 5 = some (5, .bipush 97, 2, 0, 0, 0, _) from rfl) (Or.inl ⟨.int 97, rfl, rfl⟩) ?_
  refine XW.fam (S' := (9, [(0, .ref 41), (1, .int p)], [.int 122, .int 97, .int yQ1], (sh, I, L, R))) (M := mr_94) rfl (show mcode 94 7 = some (7, .bipush 122, 2, 0, 0, 0, _) from rfl) (Or.inl ⟨.int 122, rfl, rfl⟩) ?_
  refine XW.call (d' := d) (mc' := 0) (ms' := 0) (av := [.int yQ1, .int 97, .int 122]) (rest := []) (M := mr_94) (Ma := mr_15) rfl (show mcode 94 9 = some (9, .invokestatic 60, 3, 15, 1, 0, _) from rfl) rfl (by decide) (by decide) rfl rfl rfl (show 0 ≤ 8 by decide) (tc_inC) (by omega) (Nat.zero_le _) (Nat.zero_le _) (fun rQ2 wQ2 Q2 => ?_)
  obtain ⟨hQ2, rfl⟩ := Q2
  rcases hQ2 with ⟨rfl, gQ2⟩ | ⟨rfl, gQ2⟩
  · skip
    refine XW.ret (r := some (.int 0)) ⟨⟨.boolean, rfl, rfl⟩, by decide +kernel⟩ ?_
    refine ⟨Or.inl ⟨rfl, fun q => ?_⟩, rfl⟩
    have q1 := tL_iff.mp q
    unfold ubt at hyQ1
    split at hyQ1 <;> omega
  · skip
    refine XW.ret (r := some (.int 1)) ⟨⟨.boolean, rfl, rfl⟩, by decide +kernel⟩ ?_
    refine ⟨Or.inr ⟨rfl, ?_⟩, rfl⟩
    refine tL_iff.mpr ?_
    unfold ubt at hyQ1
    split at hyQ1 <;> omega
theorem tc_dig {d : Nat} {sh : List mE} {I : Nat → Nat → Int32} {L : Nat → Nat → Int64} {R : Nat → Nat → Option Nat} {p : Int32} (hw : wOK (mkT vV []) (wE sh R) (sh, I, L, R)) (hp : 0 ≤ p.toInt ∧ p.toInt < (I 41 0).toInt) : Tc 99 (d + 1) 0 0 [.ref 41, .int p] (sh, I, L, R) (fun r w' => ((r = some (.int 0) ∧ ¬ tD (I 42 p.toNatClampNeg).toInt = true) ∨ (r = some (.int 1) ∧ tD (I 42 p.toNatClampNeg).toInt = true)) ∧ w' = (sh, I, L, R)) := by
  have c41 : sh[41]? = some (.inr 5) := hw.1 41 _ rfl
  have z48 : (48 : Int32).toInt = 48 := rfl
  have z57 : (57 : Int32).toInt = 57 := rfl
  have h42 : -128 ≤ (I 42 p.toNatClampNeg).toInt ∧ (I 42 p.toNatClampNeg).toInt ≤ 127 := hw.2.2.1 42 _
  refine Tc.of mr_99 rfl (show 2 ≤ mr_99.2.2.2.1 by decide) ?_
  refine XW.fam (S' := (1, [(0, .ref 41), (1, .int p)], [.ref 41], (sh, I, L, R))) (M := mr_99) rfl (show mcode 99 0 = some (0, .aload_n 0, 1, 0, 0, 0, _) from rfl) (Or.inl ⟨.ref 41, rfl, rfl⟩) ?_
  refine XW.fam (S' := (2, [(0, .ref 41), (1, .int p)], [.int p, .ref 41], (sh, I, L, R))) (M := mr_99) rfl (show mcode 99 1 = some (1, .iload_n 1, 1, 0, 0, 0, _) from rfl) (Or.inl ⟨.int p, rfl, rfl⟩) ?_
  refine XW.call (d' := d) (mc' := 0) (ms' := 0) (av := [.ref 41, .int p]) (rest := []) (M := mr_99) (Ma := mr_95) rfl (show mcode 99 2 = some (2, .invokevirtual 56, 3, 95, 0, 0, _) from rfl) rfl (by decide) (by decide) ⟨rfl, 41, _, rfl, c41⟩ rfl rfl (show 0 ≤ 8 by decide) (tc_byte (d := d) hw hp) (by omega) (Nat.zero_le _) (Nat.zero_le _) (fun rQ1 wQ1 Q1 => ?_)
  obtain ⟨⟨yQ1, rfl, hyQ1⟩, rfl⟩ := Q1
  refine XW.fam (S' := (7, [(0, .ref 41), (1, .int p)], [.int 48, .int yQ1], (sh, I, L, R))) (M := mr_99) rfl (show mcode 99 5 = some (5, .bipush 48, 2, 0, 0, 0, _) from rfl) (Or.inl ⟨.int 48, rfl, rfl⟩) ?_
  refine XW.fam (S' := (9, [(0, .ref 41), (1, .int p)], [.int 57, .int 48, .int yQ1], (sh, I, L, R))) (M := mr_99) rfl (show mcode 99 7 = some (7, .bipush 57, 2, 0, 0, 0, _) from rfl) (Or.inl ⟨.int 57, rfl, rfl⟩) ?_
  refine XW.call (d' := d) (mc' := 0) (ms' := 0) (av := [.int yQ1, .int 48, .int 57]) (rest := []) (M := mr_99) (Ma := mr_15) rfl (show mcode 99 9 = some (9, .invokestatic 60, 3, 15, 1, 0, _) from rfl) rfl (by decide) (by decide) rfl rfl rfl (show 0 ≤ 8 by decide) (tc_inC) (by omega) (Nat.zero_le _) (Nat.zero_le _) (fun rQ2 wQ2 Q2 => ?_)
  obtain ⟨hQ2, rfl⟩ := Q2
  rcases hQ2 with ⟨rfl, gQ2⟩ | ⟨rfl, gQ2⟩
  · skip
    refine XW.ret (r := some (.int 0)) ⟨⟨.boolean, rfl, rfl⟩, by decide +kernel⟩ ?_
    refine ⟨Or.inl ⟨rfl, fun q => ?_⟩, rfl⟩
    have q1 := tD_iff.mp q
    unfold ubt at hyQ1
    split at hyQ1 <;> omega
  · skip
    refine XW.ret (r := some (.int 1)) ⟨⟨.boolean, rfl, rfl⟩, by decide +kernel⟩ ?_
    refine ⟨Or.inr ⟨rfl, ?_⟩, rfl⟩
    refine tD_iff.mpr ?_
    unfold ubt at hyQ1
    split at hyQ1 <;> omega
theorem same_lp {d : Nat} {sh : List mE} {I : Nat → Nat → Int32} {L : Nat → Nat → Int64} {R : Nat → Nat → Option Nat} {bg st en : Int32} (hw : wOK (mkT vV []) (wE sh R) (sh, I, L, R)) (hb : 0 ≤ bg.toInt ∧ bg.toInt + (en.toInt - st.toInt) ≤ 97) (hs : 0 ≤ st.toInt ∧ st.toInt ≤ en.toInt ∧ en.toInt ≤ (I 41 0).toInt) (hlt : ∀ k : Nat, (k : Int) < en.toInt - st.toInt → 97 ≤ (I 42 (st.toInt.toNat + k)).toInt ∧ (I 42 (st.toInt.toNat + k)).toInt ≤ 122) : ∀ (z : Nat) (t : Int32), 0 ≤ t.toInt → t.toInt ≤ en.toInt - st.toInt → en.toInt - st.toInt - t.toInt < z → smL (fun k => (I 42 k).toInt) bg.toInt.toNat st.toInt.toNat t.toInt.toNat = true → XW 97 mr_97 none (d + 5) 0 0 (fun r w' => ((r = some (.int 0) ∧ ¬ smL (fun k => (I 42 k).toInt) bg.toInt.toNat st.toInt.toNat (en.toInt - st.toInt).toNat = true) ∨ (r = some (.int 1) ∧ smL (fun k => (I 42 k).toInt) bg.toInt.toNat st.toInt.toNat (en.toInt - st.toInt).toNat = true)) ∧ w' = (sh, I, L, R)) (3, [(4, .int t), (0, .ref 41), (1, .int bg), (2, .int st), (3, .int en)], [], (sh, I, L, R)) := by
  have c41 : sh[41]? = some (.inr 5) := hw.1 41 _ rfl
  have z0 : (0 : Int32).toInt = 0 := rfl
  have z1 : (1 : Int32).toInt = 1 := rfl
  have z97 : (97 : Int32).toInt = 97 := rfl
  have hl0 : 0 ≤ (I 41 0).toInt ∧ (I 41 0).toInt ≤ 240 := hw.2.2.1 41 0
  have eS := difS (a := en) (b := st) (by omega) (by omega)
  intro z
  induction z with
  | zero =>
    intro t h1 h2 hz
    exfalso
    omega
  | succ z ih =>
    intro t h1 h2 hz hi
    refine XW.fam (S' := (5, [(4, .int t), (0, .ref 41), (1, .int bg), (2, .int st), (3, .int en)], [.int t], (sh, I, L, R))) (M := mr_97) rfl (show mcode 97 3 = some (3, .iload 4, 2, 0, 0, 0, _) from rfl) (Or.inl ⟨.int t, rfl, rfl⟩) ?_
    refine XW.fam (S' := (6, [(4, .int t), (0, .ref 41), (1, .int bg), (2, .int st), (3, .int en)], [.int en, .int t], (sh, I, L, R))) (M := mr_97) rfl (show mcode 97 5 = some (5, .iload_n 3, 1, 0, 0, 0, _) from rfl) (Or.inl ⟨.int en, rfl, rfl⟩) ?_
    refine XW.fam (S' := (7, [(4, .int t), (0, .ref 41), (1, .int bg), (2, .int st), (3, .int en)], [.int st, .int en, .int t], (sh, I, L, R))) (M := mr_97) rfl (show mcode 97 6 = some (6, .iload_n 2, 1, 0, 0, 0, _) from rfl) (Or.inl ⟨.int st, rfl, rfl⟩) ?_
    refine XW.fam (S' := (8, [(4, .int t), (0, .ref 41), (1, .int bg), (2, .int st), (3, .int en)], [.int (en - st), .int t], (sh, I, L, R))) (M := mr_97) rfl (show mcode 97 7 = some (7, .isub, 1, 0, 0, 0, _) from rfl) (Or.inr (Or.inr (Or.inr (Or.inr (Or.inr (Or.inl ⟨_, rfl, rfl⟩)))))) ?_
    cases k1 : bcmp .ge t (en - st) with
    | true =>
      have gk1 : ((en - st)).toInt ≤ (t).toInt := icT (c := .ge) (a := (t).toInt) (b := ((en - st)).toInt) rfl rfl k1
      refine XW.fam (S' := (51, [(4, .int t), (0, .ref 41), (1, .int bg), (2, .int st), (3, .int en)], [], (sh, I, L, R))) (M := mr_97) rfl (show mcode 97 8 = some (8, .if_icmp .ge 43, 3, 51, 0, 0, _) from rfl) (Or.inr (Or.inl ⟨51, [], by simp [brn, k1], rfl⟩)) ?_
      refine XW.fam (S' := (52, [(4, .int t), (0, .ref 41), (1, .int bg), (2, .int st), (3, .int en)], [.int 1], (sh, I, L, R))) (M := mr_97) rfl (show mcode 97 51 = some (51, .iconst 1, 1, 0, 0, 0, _) from rfl) (Or.inl ⟨.int 1, rfl, rfl⟩) ?_
      refine XW.ret (r := some (.int 1)) ⟨⟨.boolean, rfl, rfl⟩, by decide +kernel⟩ ?_
      have et : t.toInt.toNat = (en.toInt - st.toInt).toNat := by omega
      rw [et] at hi
      exact ⟨Or.inr ⟨rfl, hi⟩, rfl⟩
    | false =>
      have gk1 : ¬ (((en - st)).toInt ≤ (t).toInt) := icF (c := .ge) (a := (t).toInt) (b := ((en - st)).toInt) rfl rfl k1
      refine XW.fam (S' := (11, [(4, .int t), (0, .ref 41), (1, .int bg), (2, .int st), (3, .int en)], [], (sh, I, L, R))) (M := mr_97) rfl (show mcode 97 8 = some (8, .if_icmp .ge 43, 3, 51, 0, 0, _) from rfl) (Or.inr (Or.inl ⟨11, [], by simp [brn, k1], rfl⟩)) ?_
      refine XW.fam (S' := (12, [(4, .int t), (0, .ref 41), (1, .int bg), (2, .int st), (3, .int en)], [.int bg], (sh, I, L, R))) (M := mr_97) rfl (show mcode 97 11 = some (11, .iload_n 1, 1, 0, 0, 0, _) from rfl) (Or.inl ⟨.int bg, rfl, rfl⟩) ?_
      refine XW.fam (S' := (14, [(4, .int t), (0, .ref 41), (1, .int bg), (2, .int st), (3, .int en)], [.int t, .int bg], (sh, I, L, R))) (M := mr_97) rfl (show mcode 97 12 = some (12, .iload 4, 2, 0, 0, 0, _) from rfl) (Or.inl ⟨.int t, rfl, rfl⟩) ?_
      refine XW.fam (S' := (15, [(4, .int t), (0, .ref 41), (1, .int bg), (2, .int st), (3, .int en)], [.int (bg + t)], (sh, I, L, R))) (M := mr_97) rfl (show mcode 97 14 = some (14, .iadd, 1, 0, 0, 0, _) from rfl) (Or.inr (Or.inr (Or.inr (Or.inr (Or.inr (Or.inl ⟨_, rfl, rfl⟩)))))) ?_
      have es1 := sumS (a := bg) (b := t) (by omega) (by omega)
      refine XW.slen (j := 97) (M := mr_97) rfl (by decide +kernel) (by decide +kernel) (by decide +kernel) (by omega) (show 1 ≤ 8 by decide) ?_
      have k2 : bcmp .ge (bg + t) 97 = false := bcF (c := .ge) (a := ((bg + t)).toInt) (b := 97) rfl (by decide) (by show ¬ (97 ≤ ((bg + t)).toInt); omega)
      refine XW.fam (S' := (23, [(4, .int t), (0, .ref 41), (1, .int bg), (2, .int st), (3, .int en)], [], (sh, I, L, R))) (M := mr_97) rfl (show mcode 97 20 = some (20, .if_icmp .ge 31, 3, 51, 0, 0, _) from rfl) (Or.inr (Or.inl ⟨23, [], by simp [brn, k2], rfl⟩)) ?_
      refine XW.sch7 (a := bg) (b := t) rfl rfl (inR_of (by omega) (by omega)) (by omega) (by decide) ?_
      refine XW.fam (S' := (33, [(4, .int t), (0, .ref 41), (1, .int bg), (2, .int st), (3, .int en)], [.ref 41, .int (chW (bg + t))], (sh, I, L, R))) (M := mr_97) rfl (show mcode 97 32 = some (32, .aload_n 0, 1, 0, 0, 0, _) from rfl) (Or.inl ⟨.ref 41, rfl, rfl⟩) ?_
      refine XW.fam (S' := (34, [(4, .int t), (0, .ref 41), (1, .int bg), (2, .int st), (3, .int en)], [.int st, .ref 41, .int (chW (bg + t))], (sh, I, L, R))) (M := mr_97) rfl (show mcode 97 33 = some (33, .iload_n 2, 1, 0, 0, 0, _) from rfl) (Or.inl ⟨.int st, rfl, rfl⟩) ?_
      refine XW.fam (S' := (36, [(4, .int t), (0, .ref 41), (1, .int bg), (2, .int st), (3, .int en)], [.int t, .int st, .ref 41, .int (chW (bg + t))], (sh, I, L, R))) (M := mr_97) rfl (show mcode 97 34 = some (34, .iload 4, 2, 0, 0, 0, _) from rfl) (Or.inl ⟨.int t, rfl, rfl⟩) ?_
      refine XW.fam (S' := (37, [(4, .int t), (0, .ref 41), (1, .int bg), (2, .int st), (3, .int en)], [.int (st + t), .ref 41, .int (chW (bg + t))], (sh, I, L, R))) (M := mr_97) rfl (show mcode 97 36 = some (36, .iadd, 1, 0, 0, 0, _) from rfl) (Or.inr (Or.inr (Or.inr (Or.inr (Or.inr (Or.inl ⟨_, rfl, rfl⟩)))))) ?_
      have es2 := sumS (a := st) (b := t) (by omega) (by omega)
      refine XW.call (d' := d) (mc' := 0) (ms' := 0) (av := [.ref 41, .int (st + t)]) (rest := [.int (chW (bg + t))]) (M := mr_97) (Ma := mr_95) rfl (show mcode 97 37 = some (37, .invokevirtual 56, 3, 95, 0, 0, _) from rfl) rfl (by decide) (by decide) ⟨rfl, 41, _, rfl, c41⟩ rfl rfl (show 1 ≤ 8 by decide) (tc_byte (d := d) hw (by omega)) (by omega) (Nat.zero_le _) (Nat.zero_le _) (fun rQ3 wQ3 Q3 => ?_)
      obtain ⟨⟨yQ3, rfl, hyQ3⟩, rfl⟩ := Q3
      have ek : (st + t).toNatClampNeg = st.toInt.toNat + t.toInt.toNat := by show (st + t).toInt.toNat = _; omega
      have ec : (bg + t).toNatClampNeg = bg.toInt.toNat + t.toInt.toNat := by show (bg + t).toInt.toNat = _; omega
      have hw1 := chW_w (i := bg + t)
      rw [ec] at hw1
      rw [ek] at hyQ3
      have hl1 := hlt t.toInt.toNat (by omega)
      have hu : ubt (I 42 (st.toInt.toNat + t.toInt.toNat)).toInt = (I 42 (st.toInt.toNat + t.toInt.toNat)).toInt := if_neg (by omega)
      rw [hu] at hyQ3
      cases k4 : bcmp .eq (chW (bg + t)) yQ3 with
      | true =>
        have gk4 : ((chW (bg + t))).toInt = (yQ3).toInt := icT (c := .eq) (a := ((chW (bg + t))).toInt) (b := (yQ3).toInt) rfl rfl k4
        refine XW.fam (S' := (45, [(4, .int t), (0, .ref 41), (1, .int bg), (2, .int st), (3, .int en)], [], (sh, I, L, R))) (M := mr_97) rfl (show mcode 97 40 = some (40, .if_icmp .eq 5, 3, 45, 0, 0, _) from rfl) (Or.inr (Or.inl ⟨45, [], by simp [brn, k4], rfl⟩)) ?_
        refine XW.fam (S' := (48, [(4, .int (t + Int32.ofInt 1)), (0, .ref 41), (1, .int bg), (2, .int st), (3, .int en)], [], (sh, I, L, R))) (M := mr_97) rfl (show mcode 97 45 = some (45, .iinc 4 1, 3, 0, 0, 0, _) from rfl) (Or.inr (Or.inr (Or.inr (Or.inr (Or.inr (Or.inr (Or.inr (Or.inr (Or.inr ⟨4, 1, t, rfl, rfl, by decide, rfl⟩))))))))) ?_
        refine XW.fam (S' := (3, [(4, .int (t + Int32.ofInt 1)), (0, .ref 41), (1, .int bg), (2, .int st), (3, .int en)], [], (sh, I, L, R))) (M := mr_97) rfl (show mcode 97 48 = some (48, .goto (-45), 3, 3, 0, 0, _) from rfl) (Or.inr (Or.inl ⟨3, [], rfl, rfl⟩)) ?_
        have eo := incO (m := t) (by omega) (by omega)
        have en1 : (t + Int32.ofInt 1).toInt.toNat = t.toInt.toNat + 1 := by omega
        refine XW.sub (ls' := [(4, .int (t + Int32.ofInt 1)), (0, .ref 41), (1, .int bg), (2, .int st), (3, .int en)]) (List.forall_mem_cons.mpr ⟨List.mem_of_getElem? (i := 0) rfl, (List.forall_mem_cons.mpr ⟨List.mem_of_getElem? (i := 1) rfl, (List.forall_mem_cons.mpr ⟨List.mem_of_getElem? (i := 2) rfl, (List.forall_mem_cons.mpr ⟨List.mem_of_getElem? (i := 3) rfl, (List.forall_mem_cons.mpr ⟨List.mem_of_getElem? (i := 4) rfl, (fun _ h => absurd h List.not_mem_nil)⟩)⟩)⟩)⟩)⟩) ?_
        refine ih (t + Int32.ofInt 1) (by omega) (by omega) (by omega) ?_
        rw [en1]
        show (smL (fun k => (I 42 k).toInt) bg.toInt.toNat st.toInt.toNat t.toInt.toNat && decide (wch (bg.toInt.toNat + t.toInt.toNat) = (I 42 (st.toInt.toNat + t.toInt.toNat)).toInt)) = true
        rw [hi, Bool.true_and]
        exact decide_eq_true (by omega)
      | false =>
        have gk4 : ¬ (((chW (bg + t))).toInt = (yQ3).toInt) := icF (c := .eq) (a := ((chW (bg + t))).toInt) (b := (yQ3).toInt) rfl rfl k4
        refine XW.fam (S' := (43, [(4, .int t), (0, .ref 41), (1, .int bg), (2, .int st), (3, .int en)], [], (sh, I, L, R))) (M := mr_97) rfl (show mcode 97 40 = some (40, .if_icmp .eq 5, 3, 45, 0, 0, _) from rfl) (Or.inr (Or.inl ⟨43, [], by simp [brn, k4], rfl⟩)) ?_
        refine XW.fam (S' := (44, [(4, .int t), (0, .ref 41), (1, .int bg), (2, .int st), (3, .int en)], [.int 0], (sh, I, L, R))) (M := mr_97) rfl (show mcode 97 43 = some (43, .iconst 0, 1, 0, 0, 0, _) from rfl) (Or.inl ⟨.int 0, rfl, rfl⟩) ?_
        refine XW.ret (r := some (.int 0)) ⟨⟨.boolean, rfl, rfl⟩, by decide +kernel⟩ ?_
        refine ⟨Or.inl ⟨rfl, fun q => ?_⟩, rfl⟩
        have q1 : wch (bg.toInt.toNat + t.toInt.toNat) = (I 42 (st.toInt.toNat + t.toInt.toNat)).toInt := smL_iff.mp q t.toInt.toNat (by omega)
        omega
theorem tc_same {d : Nat} {sh : List mE} {I : Nat → Nat → Int32} {L : Nat → Nat → Int64} {R : Nat → Nat → Option Nat} {bg st en : Int32} (hw : wOK (mkT vV []) (wE sh R) (sh, I, L, R)) (hb : 0 ≤ bg.toInt ∧ bg.toInt + (en.toInt - st.toInt) ≤ 97) (hs : 0 ≤ st.toInt ∧ st.toInt ≤ en.toInt ∧ en.toInt ≤ (I 41 0).toInt) (hlt : ∀ k : Nat, (k : Int) < en.toInt - st.toInt → 97 ≤ (I 42 (st.toInt.toNat + k)).toInt ∧ (I 42 (st.toInt.toNat + k)).toInt ≤ 122) : Tc 97 (d + 5) 0 0 [.ref 41, .int bg, .int st, .int en] (sh, I, L, R) (fun r w' => ((r = some (.int 0) ∧ ¬ smL (fun k => (I 42 k).toInt) bg.toInt.toNat st.toInt.toNat (en.toInt - st.toInt).toNat = true) ∨ (r = some (.int 1) ∧ smL (fun k => (I 42 k).toInt) bg.toInt.toNat st.toInt.toNat (en.toInt - st.toInt).toNat = true)) ∧ w' = (sh, I, L, R)) := by
  have z0 : (0 : Int32).toInt = 0 := rfl
  have hl0 : 0 ≤ (I 41 0).toInt ∧ (I 41 0).toInt ≤ 240 := hw.2.2.1 41 0
  refine Tc.of mr_97 rfl (show 4 ≤ mr_97.2.2.2.1 by decide) ?_
  refine XW.fam (S' := (1, [(0, .ref 41), (1, .int bg), (2, .int st), (3, .int en)], [.int 0], (sh, I, L, R))) (M := mr_97) rfl (show mcode 97 0 = some (0, .iconst 0, 1, 0, 0, 0, _) from rfl) (Or.inl ⟨.int 0, rfl, rfl⟩) ?_
  refine XW.fam (S' := (3, [(4, .int 0), (0, .ref 41), (1, .int bg), (2, .int st), (3, .int en)], [], (sh, I, L, R))) (M := mr_97) rfl (show mcode 97 1 = some (1, .istore 4, 2, 0, 0, 0, _) from rfl) (Or.inr (Or.inr (Or.inr (Or.inr (Or.inr (Or.inr (Or.inl ⟨_, [], _, rfl, rfl, rfl⟩))))))) ?_
  refine XW.sub (ls' := [(4, .int 0), (0, .ref 41), (1, .int bg), (2, .int st), (3, .int en)]) (List.forall_mem_cons.mpr ⟨List.mem_of_getElem? (i := 0) rfl, (List.forall_mem_cons.mpr ⟨List.mem_of_getElem? (i := 1) rfl, (List.forall_mem_cons.mpr ⟨List.mem_of_getElem? (i := 2) rfl, (List.forall_mem_cons.mpr ⟨List.mem_of_getElem? (i := 3) rfl, (List.forall_mem_cons.mpr ⟨List.mem_of_getElem? (i := 4) rfl, (fun _ h => absurd h List.not_mem_nil)⟩)⟩)⟩)⟩)⟩) ?_
  exact same_lp (d := d) hw hb hs hlt 100000 0 (by decide) (by have z0 : (0 : Int32).toInt = 0 := rfl; omega) (by have z0 : (0 : Int32).toInt = 0 := rfl; omega) rfl
theorem word_lp {d : Nat} {sh : List mE} {I : Nat → Nat → Int32} {L : Nat → Nat → Int64} {R : Nat → Nat → Option Nat} {st en : Int32} (hw : wOK (mkT vV []) (wE sh R) (sh, I, L, R)) (hs : 0 ≤ st.toInt ∧ st.toInt ≤ en.toInt ∧ en.toInt ≤ (I 41 0).toInt) (hlt : ∀ k : Nat, (k : Int) < en.toInt - st.toInt → 97 ≤ (I 42 (st.toInt.toNat + k)).toInt ∧ (I 42 (st.toInt.toNat + k)).toInt ≤ 122) : ∀ (z : Nat) (t bg wd : Int32), 0 ≤ t.toInt → t.toInt ≤ 97 → 97 - t.toInt < z → bg.toInt = (wbg t.toInt.toNat : Int) → wd.toInt = 256 + (wcn t.toInt.toNat : Int) → (∀ i, i < t.toInt.toNat → ¬ wMt (fun k => (I 42 k).toInt) st.toInt.toNat (en.toInt - st.toInt).toNat i) → XW 96 mr_96 none (d + 6) 0 0 (fun r w' => (∃ y : Int32, r = some (.int y) ∧ y.toInt = wdK (fun k => (I 42 k).toInt) st.toInt.toNat en.toInt.toNat) ∧ w' = (sh, I, L, R)) (10, [(5, .int t), (4, .int bg), (3, .int wd), (0, .ref 41), (1, .int st), (2, .int en)], [], (sh, I, L, R)) := by
  have c41 : sh[41]? = some (.inr 5) := hw.1 41 _ rfl
  have z1 : (1 : Int32).toInt = 1 := rfl
  have z32 : (32 : Int32).toInt = 32 := rfl
  have z97 : (97 : Int32).toInt = 97 := rfl
  have z301 : (301 : Int32).toInt = 301 := rfl
  have hl0 : 0 ≤ (I 41 0).toInt ∧ (I 41 0).toInt ≤ 240 := hw.2.2.1 41 0
  have eS := difS (a := en) (b := st) (by omega) (by omega)
  have ee : st.toInt.toNat + (en.toInt - st.toInt).toNat = en.toInt.toNat := by omega
  intro z
  induction z with
  | zero =>
    intro t bg wd h1 h2 hz
    exfalso
    omega
  | succ z ih =>
    intro t bg wd h1 h2 hz hbg hwd hno
    have hbn : bg.toInt.toNat = wbg t.toInt.toNat := by omega
    refine XW.fam (S' := (12, [(5, .int t), (4, .int bg), (3, .int wd), (0, .ref 41), (1, .int st), (2, .int en)], [.int t], (sh, I, L, R))) (M := mr_96) rfl (show mcode 96 10 = some (10, .iload 5, 2, 0, 0, 0, _) from rfl) (Or.inl ⟨.int t, rfl, rfl⟩) ?_
    refine XW.slen (j := 96) (M := mr_96) rfl (by decide +kernel) (by decide +kernel) (by decide +kernel) (by omega) (show 1 ≤ 8 by decide) ?_
    cases k1 : bcmp .ge t 97 with
    | true =>
      have gk1 : 97 ≤ (t).toInt := icT (c := .ge) (a := (t).toInt) (b := 97) rfl (by decide) k1
      refine XW.fam (S' := (71, [(5, .int t), (4, .int bg), (3, .int wd), (0, .ref 41), (1, .int st), (2, .int en)], [], (sh, I, L, R))) (M := mr_96) rfl (show mcode 96 17 = some (17, .if_icmp .ge 54, 3, 71, 0, 0, _) from rfl) (Or.inr (Or.inl ⟨71, [], by simp [brn, k1], rfl⟩)) ?_
      refine XW.fam (S' := (74, [(5, .int t), (4, .int bg), (3, .int wd), (0, .ref 41), (1, .int st), (2, .int en)], [.int 301], (sh, I, L, R))) (M := mr_96) rfl (show mcode 96 71 = some (71, .sipush 301, 3, 0, 0, 0, _) from rfl) (Or.inl ⟨.int 301, rfl, rfl⟩) ?_
      refine XW.ret (r := some (.int 301)) ⟨⟨.int, rfl, rfl⟩, by decide +kernel⟩ ?_
      have et : t.toInt.toNat = 97 := by omega
      refine ⟨⟨_, rfl, ?_⟩, rfl⟩
      have e2 := wMt_no (b := (fun k => (I 42 k).toInt)) (st := st.toInt.toNat) (m := (en.toInt - st.toInt).toNat) (fun k hk => hlt k (by omega)) (fun i hi => hno i (by omega))
      rw [ee] at e2
      rw [e2]
      rfl
    | false =>
      have gk1 : ¬ (97 ≤ (t).toInt) := icF (c := .ge) (a := (t).toInt) (b := 97) rfl (by decide) k1
      refine XW.fam (S' := (20, [(5, .int t), (4, .int bg), (3, .int wd), (0, .ref 41), (1, .int st), (2, .int en)], [], (sh, I, L, R))) (M := mr_96) rfl (show mcode 96 17 = some (17, .if_icmp .ge 54, 3, 71, 0, 0, _) from rfl) (Or.inr (Or.inl ⟨20, [], by simp [brn, k1], rfl⟩)) ?_
      have w1 := chW_w (i := t)
      have tn : (t).toNatClampNeg = t.toInt.toNat := rfl
      rw [tn] at w1
      have hE := w_end.2 t.toInt.toNat (by omega)
      have sd := difS (a := t) (b := bg) (by omega) (by omega)
      refine XW.sch6 (i := t) rfl (inR_of (by omega) (by omega)) (by omega) (by decide) ?_
      refine XW.fam (S' := (29, [(5, .int t), (4, .int bg), (3, .int wd), (0, .ref 41), (1, .int st), (2, .int en)], [.int 32, .int (chW t)], (sh, I, L, R))) (M := mr_96) rfl (show mcode 96 27 = some (27, .bipush 32, 2, 0, 0, 0, _) from rfl) (Or.inl ⟨.int 32, rfl, rfl⟩) ?_
      cases k2 : bcmp .ne (chW t) 32 with
      | true =>
        have gk2 : ¬ ((chW t)).toInt = 32 := icT (c := .ne) (a := ((chW t)).toInt) (b := 32) rfl (by decide) k2
        refine XW.fam (S' := (65, [(5, .int t), (4, .int bg), (3, .int wd), (0, .ref 41), (1, .int st), (2, .int en)], [], (sh, I, L, R))) (M := mr_96) rfl (show mcode 96 29 = some (29, .if_icmp .ne 36, 3, 65, 0, 0, _) from rfl) (Or.inr (Or.inl ⟨65, [], by simp [brn, k2], rfl⟩)) ?_
        refine XW.fam (S' := (68, [(5, .int (t + Int32.ofInt 1)), (4, .int bg), (3, .int wd), (0, .ref 41), (1, .int st), (2, .int en)], [], (sh, I, L, R))) (M := mr_96) rfl (show mcode 96 65 = some (65, .iinc 5 1, 3, 0, 0, 0, _) from rfl) (Or.inr (Or.inr (Or.inr (Or.inr (Or.inr (Or.inr (Or.inr (Or.inr (Or.inr ⟨5, 1, t, rfl, rfl, by decide, rfl⟩))))))))) ?_
        refine XW.fam (S' := (10, [(5, .int (t + Int32.ofInt 1)), (4, .int bg), (3, .int wd), (0, .ref 41), (1, .int st), (2, .int en)], [], (sh, I, L, R))) (M := mr_96) rfl (show mcode 96 68 = some (68, .goto (-58), 3, 10, 0, 0, _) from rfl) (Or.inr (Or.inl ⟨10, [], rfl, rfl⟩)) ?_
        have eo := incO (m := t) (by omega) (by omega)
        have en1 : (t + Int32.ofInt 1).toInt.toNat = t.toInt.toNat + 1 := by omega
        refine XW.sub (ls' := [(5, .int (t + Int32.ofInt 1)), (4, .int bg), (3, .int wd), (0, .ref 41), (1, .int st), (2, .int en)]) (List.forall_mem_cons.mpr ⟨List.mem_of_getElem? (i := 0) rfl, (List.forall_mem_cons.mpr ⟨List.mem_of_getElem? (i := 1) rfl, (List.forall_mem_cons.mpr ⟨List.mem_of_getElem? (i := 2) rfl, (List.forall_mem_cons.mpr ⟨List.mem_of_getElem? (i := 3) rfl, (List.forall_mem_cons.mpr ⟨List.mem_of_getElem? (i := 4) rfl, (List.forall_mem_cons.mpr ⟨List.mem_of_getElem? (i := 5) rfl, (fun _ h => absurd h List.not_mem_nil)⟩)⟩)⟩)⟩)⟩)⟩) ?_
        refine ih (t + Int32.ofInt 1) bg wd (by omega) (by omega) (by omega) ?_ ?_ (fun i hi => ?_)
        · rw [en1]
          show bg.toInt = ((if wsp t.toInt.toNat = true then t.toInt.toNat + 1 else wbg t.toInt.toNat : Nat) : Int)
          rw [if_neg (fun q => by have q1 : wch t.toInt.toNat = 32 := of_decide_eq_true q; omega)]
          exact hbg
        · rw [en1]
          show wd.toInt = 256 + ((if wsp t.toInt.toNat = true then wcn t.toInt.toNat + 1 else wcn t.toInt.toNat : Nat) : Int)
          rw [if_neg (fun q => by have q1 : wch t.toInt.toNat = 32 := of_decide_eq_true q; omega)]
          exact hwd
        · by_cases z : i = t.toInt.toNat
          · rw [z]
            exact fun q => by have q1 : wch t.toInt.toNat = 32 := of_decide_eq_true q.1; omega
          · exact hno i (by omega)
      | false =>
        have gk2 : ¬ (¬ ((chW t)).toInt = 32) := icF (c := .ne) (a := ((chW t)).toInt) (b := 32) rfl (by decide) k2
        refine XW.fam (S' := (32, [(5, .int t), (4, .int bg), (3, .int wd), (0, .ref 41), (1, .int st), (2, .int en)], [], (sh, I, L, R))) (M := mr_96) rfl (show mcode 96 29 = some (29, .if_icmp .ne 36, 3, 65, 0, 0, _) from rfl) (Or.inr (Or.inl ⟨32, [], by simp [brn, k2], rfl⟩)) ?_
        refine XW.fam (S' := (34, [(5, .int t), (4, .int bg), (3, .int wd), (0, .ref 41), (1, .int st), (2, .int en)], [.int t], (sh, I, L, R))) (M := mr_96) rfl (show mcode 96 32 = some (32, .iload 5, 2, 0, 0, 0, _) from rfl) (Or.inl ⟨.int t, rfl, rfl⟩) ?_
        refine XW.fam (S' := (36, [(5, .int t), (4, .int bg), (3, .int wd), (0, .ref 41), (1, .int st), (2, .int en)], [.int bg, .int t], (sh, I, L, R))) (M := mr_96) rfl (show mcode 96 34 = some (34, .iload 4, 2, 0, 0, 0, _) from rfl) (Or.inl ⟨.int bg, rfl, rfl⟩) ?_
        refine XW.fam (S' := (37, [(5, .int t), (4, .int bg), (3, .int wd), (0, .ref 41), (1, .int st), (2, .int en)], [.int (t - bg)], (sh, I, L, R))) (M := mr_96) rfl (show mcode 96 36 = some (36, .isub, 1, 0, 0, 0, _) from rfl) (Or.inr (Or.inr (Or.inr (Or.inr (Or.inr (Or.inl ⟨_, rfl, rfl⟩)))))) ?_
        refine XW.fam (S' := (38, [(5, .int t), (4, .int bg), (3, .int wd), (0, .ref 41), (1, .int st), (2, .int en)], [.int en, .int (t - bg)], (sh, I, L, R))) (M := mr_96) rfl (show mcode 96 37 = some (37, .iload_n 2, 1, 0, 0, 0, _) from rfl) (Or.inl ⟨.int en, rfl, rfl⟩) ?_
        refine XW.fam (S' := (39, [(5, .int t), (4, .int bg), (3, .int wd), (0, .ref 41), (1, .int st), (2, .int en)], [.int st, .int en, .int (t - bg)], (sh, I, L, R))) (M := mr_96) rfl (show mcode 96 38 = some (38, .iload_n 1, 1, 0, 0, 0, _) from rfl) (Or.inl ⟨.int st, rfl, rfl⟩) ?_
        refine XW.fam (S' := (40, [(5, .int t), (4, .int bg), (3, .int wd), (0, .ref 41), (1, .int st), (2, .int en)], [.int (en - st), .int (t - bg)], (sh, I, L, R))) (M := mr_96) rfl (show mcode 96 39 = some (39, .isub, 1, 0, 0, 0, _) from rfl) (Or.inr (Or.inr (Or.inr (Or.inr (Or.inr (Or.inl ⟨_, rfl, rfl⟩)))))) ?_
        cases k3 : bcmp .ne (t - bg) (en - st) with
        | true =>
          have gk3 : ¬ ((t - bg)).toInt = ((en - st)).toInt := icT (c := .ne) (a := ((t - bg)).toInt) (b := ((en - st)).toInt) rfl rfl k3
          refine XW.fam (S' := (56, [(5, .int t), (4, .int bg), (3, .int wd), (0, .ref 41), (1, .int st), (2, .int en)], [], (sh, I, L, R))) (M := mr_96) rfl (show mcode 96 40 = some (40, .if_icmp .ne 16, 3, 56, 0, 0, _) from rfl) (Or.inr (Or.inl ⟨56, [], by simp [brn, k3], rfl⟩)) ?_
          refine XW.fam (S' := (59, [(3, .int (wd + Int32.ofInt 1)), (5, .int t), (4, .int bg), (0, .ref 41), (1, .int st), (2, .int en)], [], (sh, I, L, R))) (M := mr_96) rfl (show mcode 96 56 = some (56, .iinc 3 1, 3, 0, 0, 0, _) from rfl) (Or.inr (Or.inr (Or.inr (Or.inr (Or.inr (Or.inr (Or.inr (Or.inr (Or.inr ⟨3, 1, wd, rfl, rfl, by decide, rfl⟩))))))))) ?_
          refine XW.fam (S' := (61, [(3, .int (wd + Int32.ofInt 1)), (5, .int t), (4, .int bg), (0, .ref 41), (1, .int st), (2, .int en)], [.int t], (sh, I, L, R))) (M := mr_96) rfl (show mcode 96 59 = some (59, .iload 5, 2, 0, 0, 0, _) from rfl) (Or.inl ⟨.int t, rfl, rfl⟩) ?_
          refine XW.fam (S' := (62, [(3, .int (wd + Int32.ofInt 1)), (5, .int t), (4, .int bg), (0, .ref 41), (1, .int st), (2, .int en)], [.int 1, .int t], (sh, I, L, R))) (M := mr_96) rfl (show mcode 96 61 = some (61, .iconst 1, 1, 0, 0, 0, _) from rfl) (Or.inl ⟨.int 1, rfl, rfl⟩) ?_
          refine XW.fam (S' := (63, [(3, .int (wd + Int32.ofInt 1)), (5, .int t), (4, .int bg), (0, .ref 41), (1, .int st), (2, .int en)], [.int (t + 1)], (sh, I, L, R))) (M := mr_96) rfl (show mcode 96 62 = some (62, .iadd, 1, 0, 0, 0, _) from rfl) (Or.inr (Or.inr (Or.inr (Or.inr (Or.inr (Or.inl ⟨_, rfl, rfl⟩)))))) ?_
          refine XW.fam (S' := (65, [(4, .int (t + 1)), (3, .int (wd + Int32.ofInt 1)), (5, .int t), (0, .ref 41), (1, .int st), (2, .int en)], [], (sh, I, L, R))) (M := mr_96) rfl (show mcode 96 63 = some (63, .istore 4, 2, 0, 0, 0, _) from rfl) (Or.inr (Or.inr (Or.inr (Or.inr (Or.inr (Or.inr (Or.inl ⟨_, [], _, rfl, rfl, rfl⟩))))))) ?_
          refine XW.fam (S' := (68, [(5, .int (t + Int32.ofInt 1)), (4, .int (t + 1)), (3, .int (wd + Int32.ofInt 1)), (0, .ref 41), (1, .int st), (2, .int en)], [], (sh, I, L, R))) (M := mr_96) rfl (show mcode 96 65 = some (65, .iinc 5 1, 3, 0, 0, 0, _) from rfl) (Or.inr (Or.inr (Or.inr (Or.inr (Or.inr (Or.inr (Or.inr (Or.inr (Or.inr ⟨5, 1, t, rfl, rfl, by decide, rfl⟩))))))))) ?_
          refine XW.fam (S' := (10, [(5, .int (t + Int32.ofInt 1)), (4, .int (t + 1)), (3, .int (wd + Int32.ofInt 1)), (0, .ref 41), (1, .int st), (2, .int en)], [], (sh, I, L, R))) (M := mr_96) rfl (show mcode 96 68 = some (68, .goto (-58), 3, 10, 0, 0, _) from rfl) (Or.inr (Or.inl ⟨10, [], rfl, rfl⟩)) ?_
          have eo := incO (m := t) (by omega) (by omega)
          have en1 : (t + Int32.ofInt 1).toInt.toNat = t.toInt.toNat + 1 := by omega
          refine XW.sub (ls' := [(5, .int (t + Int32.ofInt 1)), (4, .int (t + 1)), (3, .int (wd + Int32.ofInt 1)), (0, .ref 41), (1, .int st), (2, .int en)]) (List.forall_mem_cons.mpr ⟨List.mem_of_getElem? (i := 0) rfl, (List.forall_mem_cons.mpr ⟨List.mem_of_getElem? (i := 1) rfl, (List.forall_mem_cons.mpr ⟨List.mem_of_getElem? (i := 2) rfl, (List.forall_mem_cons.mpr ⟨List.mem_of_getElem? (i := 3) rfl, (List.forall_mem_cons.mpr ⟨List.mem_of_getElem? (i := 4) rfl, (List.forall_mem_cons.mpr ⟨List.mem_of_getElem? (i := 5) rfl, (fun _ h => absurd h List.not_mem_nil)⟩)⟩)⟩)⟩)⟩)⟩) ?_
          refine ih (t + Int32.ofInt 1) (t + 1) (wd + Int32.ofInt 1) (by omega) (by omega) (by omega) ?_ ?_ (fun i hi => ?_)
          · rw [en1]
            show ((t + 1)).toInt = ((if wsp t.toInt.toNat = true then t.toInt.toNat + 1 else wbg t.toInt.toNat : Nat) : Int)
            rw [if_pos (show wsp t.toInt.toNat = true from decide_eq_true (show wch t.toInt.toNat = 32 by omega))]
            have := inc32 (m := t) (by omega) (by omega)
            omega
          · rw [en1]
            show ((wd + Int32.ofInt 1)).toInt = 256 + ((if wsp t.toInt.toNat = true then wcn t.toInt.toNat + 1 else wcn t.toInt.toNat : Nat) : Int)
            rw [if_pos (show wsp t.toInt.toNat = true from decide_eq_true (show wch t.toInt.toNat = 32 by omega))]
            have := incO (m := wd) (by omega) (by omega)
            omega
          · by_cases z : i = t.toInt.toNat
            · rw [z]
              exact fun q => by have q2 := q.2.1; omega
            · exact hno i (by omega)
        | false =>
          have gk3 : ¬ (¬ ((t - bg)).toInt = ((en - st)).toInt) := icF (c := .ne) (a := ((t - bg)).toInt) (b := ((en - st)).toInt) rfl rfl k3
          refine XW.fam (S' := (43, [(5, .int t), (4, .int bg), (3, .int wd), (0, .ref 41), (1, .int st), (2, .int en)], [], (sh, I, L, R))) (M := mr_96) rfl (show mcode 96 40 = some (40, .if_icmp .ne 16, 3, 56, 0, 0, _) from rfl) (Or.inr (Or.inl ⟨43, [], by simp [brn, k3], rfl⟩)) ?_
          refine XW.fam (S' := (44, [(5, .int t), (4, .int bg), (3, .int wd), (0, .ref 41), (1, .int st), (2, .int en)], [.ref 41], (sh, I, L, R))) (M := mr_96) rfl (show mcode 96 43 = some (43, .aload_n 0, 1, 0, 0, 0, _) from rfl) (Or.inl ⟨.ref 41, rfl, rfl⟩) ?_
          refine XW.fam (S' := (46, [(5, .int t), (4, .int bg), (3, .int wd), (0, .ref 41), (1, .int st), (2, .int en)], [.int bg, .ref 41], (sh, I, L, R))) (M := mr_96) rfl (show mcode 96 44 = some (44, .iload 4, 2, 0, 0, 0, _) from rfl) (Or.inl ⟨.int bg, rfl, rfl⟩) ?_
          refine XW.fam (S' := (47, [(5, .int t), (4, .int bg), (3, .int wd), (0, .ref 41), (1, .int st), (2, .int en)], [.int st, .int bg, .ref 41], (sh, I, L, R))) (M := mr_96) rfl (show mcode 96 46 = some (46, .iload_n 1, 1, 0, 0, 0, _) from rfl) (Or.inl ⟨.int st, rfl, rfl⟩) ?_
          refine XW.fam (S' := (48, [(5, .int t), (4, .int bg), (3, .int wd), (0, .ref 41), (1, .int st), (2, .int en)], [.int en, .int st, .int bg, .ref 41], (sh, I, L, R))) (M := mr_96) rfl (show mcode 96 47 = some (47, .iload_n 2, 1, 0, 0, 0, _) from rfl) (Or.inl ⟨.int en, rfl, rfl⟩) ?_
          refine XW.call (d' := d + 5) (mc' := 0) (ms' := 0) (av := [.ref 41, .int bg, .int st, .int en]) (rest := []) (M := mr_96) (Ma := mr_97) rfl (show mcode 96 48 = some (48, .invokevirtual 98, 3, 97, 0, 0, _) from rfl) rfl (by decide) (by decide) ⟨rfl, 41, _, rfl, c41⟩ rfl rfl (show 0 ≤ 8 by decide) (tc_same (d := d) hw (by omega) hs hlt) (by omega) (Nat.zero_le _) (Nat.zero_le _) (fun rQ4 wQ4 Q4 => ?_)
          obtain ⟨hQ4, rfl⟩ := Q4
          rcases hQ4 with ⟨rfl, gQ4⟩ | ⟨rfl, gQ4⟩
          · skip
            refine XW.fam (S' := (56, [(5, .int t), (4, .int bg), (3, .int wd), (0, .ref 41), (1, .int st), (2, .int en)], [], (sh, I, L, R))) (M := mr_96) rfl (show mcode 96 51 = some (51, .ifCond .eq 5, 3, 56, 0, 0, _) from rfl) (Or.inr (Or.inl ⟨56, [], rfl, rfl⟩)) ?_
            refine XW.fam (S' := (59, [(3, .int (wd + Int32.ofInt 1)), (5, .int t), (4, .int bg), (0, .ref 41), (1, .int st), (2, .int en)], [], (sh, I, L, R))) (M := mr_96) rfl (show mcode 96 56 = some (56, .iinc 3 1, 3, 0, 0, 0, _) from rfl) (Or.inr (Or.inr (Or.inr (Or.inr (Or.inr (Or.inr (Or.inr (Or.inr (Or.inr ⟨3, 1, wd, rfl, rfl, by decide, rfl⟩))))))))) ?_
            refine XW.fam (S' := (61, [(3, .int (wd + Int32.ofInt 1)), (5, .int t), (4, .int bg), (0, .ref 41), (1, .int st), (2, .int en)], [.int t], (sh, I, L, R))) (M := mr_96) rfl (show mcode 96 59 = some (59, .iload 5, 2, 0, 0, 0, _) from rfl) (Or.inl ⟨.int t, rfl, rfl⟩) ?_
            refine XW.fam (S' := (62, [(3, .int (wd + Int32.ofInt 1)), (5, .int t), (4, .int bg), (0, .ref 41), (1, .int st), (2, .int en)], [.int 1, .int t], (sh, I, L, R))) (M := mr_96) rfl (show mcode 96 61 = some (61, .iconst 1, 1, 0, 0, 0, _) from rfl) (Or.inl ⟨.int 1, rfl, rfl⟩) ?_
            refine XW.fam (S' := (63, [(3, .int (wd + Int32.ofInt 1)), (5, .int t), (4, .int bg), (0, .ref 41), (1, .int st), (2, .int en)], [.int (t + 1)], (sh, I, L, R))) (M := mr_96) rfl (show mcode 96 62 = some (62, .iadd, 1, 0, 0, 0, _) from rfl) (Or.inr (Or.inr (Or.inr (Or.inr (Or.inr (Or.inl ⟨_, rfl, rfl⟩)))))) ?_
            refine XW.fam (S' := (65, [(4, .int (t + 1)), (3, .int (wd + Int32.ofInt 1)), (5, .int t), (0, .ref 41), (1, .int st), (2, .int en)], [], (sh, I, L, R))) (M := mr_96) rfl (show mcode 96 63 = some (63, .istore 4, 2, 0, 0, 0, _) from rfl) (Or.inr (Or.inr (Or.inr (Or.inr (Or.inr (Or.inr (Or.inl ⟨_, [], _, rfl, rfl, rfl⟩))))))) ?_
            refine XW.fam (S' := (68, [(5, .int (t + Int32.ofInt 1)), (4, .int (t + 1)), (3, .int (wd + Int32.ofInt 1)), (0, .ref 41), (1, .int st), (2, .int en)], [], (sh, I, L, R))) (M := mr_96) rfl (show mcode 96 65 = some (65, .iinc 5 1, 3, 0, 0, 0, _) from rfl) (Or.inr (Or.inr (Or.inr (Or.inr (Or.inr (Or.inr (Or.inr (Or.inr (Or.inr ⟨5, 1, t, rfl, rfl, by decide, rfl⟩))))))))) ?_
            refine XW.fam (S' := (10, [(5, .int (t + Int32.ofInt 1)), (4, .int (t + 1)), (3, .int (wd + Int32.ofInt 1)), (0, .ref 41), (1, .int st), (2, .int en)], [], (sh, I, L, R))) (M := mr_96) rfl (show mcode 96 68 = some (68, .goto (-58), 3, 10, 0, 0, _) from rfl) (Or.inr (Or.inl ⟨10, [], rfl, rfl⟩)) ?_
            have eo := incO (m := t) (by omega) (by omega)
            have en1 : (t + Int32.ofInt 1).toInt.toNat = t.toInt.toNat + 1 := by omega
            refine XW.sub (ls' := [(5, .int (t + Int32.ofInt 1)), (4, .int (t + 1)), (3, .int (wd + Int32.ofInt 1)), (0, .ref 41), (1, .int st), (2, .int en)]) (List.forall_mem_cons.mpr ⟨List.mem_of_getElem? (i := 0) rfl, (List.forall_mem_cons.mpr ⟨List.mem_of_getElem? (i := 1) rfl, (List.forall_mem_cons.mpr ⟨List.mem_of_getElem? (i := 2) rfl, (List.forall_mem_cons.mpr ⟨List.mem_of_getElem? (i := 3) rfl, (List.forall_mem_cons.mpr ⟨List.mem_of_getElem? (i := 4) rfl, (List.forall_mem_cons.mpr ⟨List.mem_of_getElem? (i := 5) rfl, (fun _ h => absurd h List.not_mem_nil)⟩)⟩)⟩)⟩)⟩)⟩) ?_
            refine ih (t + Int32.ofInt 1) (t + 1) (wd + Int32.ofInt 1) (by omega) (by omega) (by omega) ?_ ?_ (fun i hi => ?_)
            · rw [en1]
              show ((t + 1)).toInt = ((if wsp t.toInt.toNat = true then t.toInt.toNat + 1 else wbg t.toInt.toNat : Nat) : Int)
              rw [if_pos (show wsp t.toInt.toNat = true from decide_eq_true (show wch t.toInt.toNat = 32 by omega))]
              have := inc32 (m := t) (by omega) (by omega)
              omega
            · rw [en1]
              show ((wd + Int32.ofInt 1)).toInt = 256 + ((if wsp t.toInt.toNat = true then wcn t.toInt.toNat + 1 else wcn t.toInt.toNat : Nat) : Int)
              rw [if_pos (show wsp t.toInt.toNat = true from decide_eq_true (show wch t.toInt.toNat = 32 by omega))]
              have := incO (m := wd) (by omega) (by omega)
              omega
            · by_cases z : i = t.toInt.toNat
              · rw [z]
                exact fun q => gQ4 (by rw [hbn]; exact q.2.2)
              · exact hno i (by omega)
          · skip
            refine XW.fam (S' := (54, [(5, .int t), (4, .int bg), (3, .int wd), (0, .ref 41), (1, .int st), (2, .int en)], [], (sh, I, L, R))) (M := mr_96) rfl (show mcode 96 51 = some (51, .ifCond .eq 5, 3, 56, 0, 0, _) from rfl) (Or.inr (Or.inl ⟨54, [], rfl, rfl⟩)) ?_
            refine XW.fam (S' := (55, [(5, .int t), (4, .int bg), (3, .int wd), (0, .ref 41), (1, .int st), (2, .int en)], [.int wd], (sh, I, L, R))) (M := mr_96) rfl (show mcode 96 54 = some (54, .iload_n 3, 1, 0, 0, 0, _) from rfl) (Or.inl ⟨.int wd, rfl, rfl⟩) ?_
            refine XW.ret (r := some (.int wd)) ⟨⟨.int, rfl, rfl⟩, by decide +kernel⟩ ?_
            refine ⟨⟨_, rfl, ?_⟩, rfl⟩
            have e2 := wMt_yes (b := (fun k => (I 42 k).toInt)) (st := st.toInt.toNat) (m := (en.toInt - st.toInt).toNat) (i := t.toInt.toNat) (by omega) (fun k hk => hlt k (by omega)) ⟨decide_eq_true (by omega), by omega, by rw [← hbn]; exact gQ4⟩
            rw [ee] at e2
            rw [e2, hwd]
theorem tc_word {d : Nat} {sh : List mE} {I : Nat → Nat → Int32} {L : Nat → Nat → Int64} {R : Nat → Nat → Option Nat} {st en : Int32} (hw : wOK (mkT vV []) (wE sh R) (sh, I, L, R)) (hs : 0 ≤ st.toInt ∧ st.toInt ≤ en.toInt ∧ en.toInt ≤ (I 41 0).toInt) (hlt : ∀ k : Nat, (k : Int) < en.toInt - st.toInt → 97 ≤ (I 42 (st.toInt.toNat + k)).toInt ∧ (I 42 (st.toInt.toNat + k)).toInt ≤ 122) : Tc 96 (d + 6) 0 0 [.ref 41, .int st, .int en] (sh, I, L, R) (fun r w' => (∃ y : Int32, r = some (.int y) ∧ y.toInt = wdK (fun k => (I 42 k).toInt) st.toInt.toNat en.toInt.toNat) ∧ w' = (sh, I, L, R)) := by
  have z0 : (0 : Int32).toInt = 0 := rfl
  have z256 : (256 : Int32).toInt = 256 := rfl
  refine Tc.of mr_96 rfl (show 3 ≤ mr_96.2.2.2.1 by decide) ?_
  refine XW.fam (S' := (3, [(0, .ref 41), (1, .int st), (2, .int en)], [.int 256], (sh, I, L, R))) (M := mr_96) rfl (show mcode 96 0 = some (0, .sipush 256, 3, 0, 0, 0, _) from rfl) (Or.inl ⟨.int 256, rfl, rfl⟩) ?_
  refine XW.fam (S' := (4, [(3, .int 256), (0, .ref 41), (1, .int st), (2, .int en)], [], (sh, I, L, R))) (M := mr_96) rfl (show mcode 96 3 = some (3, .istore_n 3, 1, 0, 0, 0, _) from rfl) (Or.inr (Or.inr (Or.inr (Or.inr (Or.inr (Or.inr (Or.inl ⟨_, [], _, rfl, rfl, rfl⟩))))))) ?_
  refine XW.fam (S' := (5, [(3, .int 256), (0, .ref 41), (1, .int st), (2, .int en)], [.int 0], (sh, I, L, R))) (M := mr_96) rfl (show mcode 96 4 = some (4, .iconst 0, 1, 0, 0, 0, _) from rfl) (Or.inl ⟨.int 0, rfl, rfl⟩) ?_
  refine XW.fam (S' := (7, [(4, .int 0), (3, .int 256), (0, .ref 41), (1, .int st), (2, .int en)], [], (sh, I, L, R))) (M := mr_96) rfl (show mcode 96 5 = some (5, .istore 4, 2, 0, 0, 0, _) from rfl) (Or.inr (Or.inr (Or.inr (Or.inr (Or.inr (Or.inr (Or.inl ⟨_, [], _, rfl, rfl, rfl⟩))))))) ?_
  refine XW.fam (S' := (8, [(4, .int 0), (3, .int 256), (0, .ref 41), (1, .int st), (2, .int en)], [.int 0], (sh, I, L, R))) (M := mr_96) rfl (show mcode 96 7 = some (7, .iconst 0, 1, 0, 0, 0, _) from rfl) (Or.inl ⟨.int 0, rfl, rfl⟩) ?_
  refine XW.fam (S' := (10, [(5, .int 0), (4, .int 0), (3, .int 256), (0, .ref 41), (1, .int st), (2, .int en)], [], (sh, I, L, R))) (M := mr_96) rfl (show mcode 96 8 = some (8, .istore 5, 2, 0, 0, 0, _) from rfl) (Or.inr (Or.inr (Or.inr (Or.inr (Or.inr (Or.inr (Or.inl ⟨_, [], _, rfl, rfl, rfl⟩))))))) ?_
  refine XW.sub (ls' := [(5, .int 0), (4, .int 0), (3, .int 256), (0, .ref 41), (1, .int st), (2, .int en)]) (List.forall_mem_cons.mpr ⟨List.mem_of_getElem? (i := 0) rfl, (List.forall_mem_cons.mpr ⟨List.mem_of_getElem? (i := 1) rfl, (List.forall_mem_cons.mpr ⟨List.mem_of_getElem? (i := 2) rfl, (List.forall_mem_cons.mpr ⟨List.mem_of_getElem? (i := 3) rfl, (List.forall_mem_cons.mpr ⟨List.mem_of_getElem? (i := 4) rfl, (List.forall_mem_cons.mpr ⟨List.mem_of_getElem? (i := 5) rfl, (fun _ h => absurd h List.not_mem_nil)⟩)⟩)⟩)⟩)⟩)⟩) ?_
  exact word_lp (d := d) hw hs hlt 98 0 0 256 (by decide) (by decide) (by decide) rfl rfl (fun i hi => absurd hi (Nat.not_lt_zero _))
def mdK : aM := [(41, some 5), (43, none), (44, none), (45, none)]
/-- the first m tokens stand in their rows -/
def tkR (J I : Nat → Nat → Int32) (m : Nat) : Prop := (I 41 5).toInt = (m : Int) ∧ ∀ t, t < m → (I 43 t).toInt = tK (fun k => (J 42 k).toInt) (J 41 0).toInt.toNat t ∧ (I 44 t).toInt = (tS (fun k => (J 42 k).toInt) (J 41 0).toInt.toNat t : Int)
theorem tc_addT {d m : Nat} {sh : List mE} {I : Nat → Nat → Int32} {L : Nat → Nat → Int64} {R : Nat → Nat → Option Nat} {J : Nat → Nat → Int32} {kd st nu : Int32} (hw : wOK (mkT vV []) (wE sh R) (sh, I, L, R)) (hf : fresh (sh, I, L, R)) (hk : ∀ q k, inm mdK q k = false → I q k = J q k) (htk : tkR J I m) (hm : m < 240) (hkd : kd.toInt = tK (fun k => (J 42 k).toInt) (J 41 0).toInt.toNat m) (hst : st.toInt = (tS (fun k => (J 42 k).toInt) (J 41 0).toInt.toNat m : Int)) (hs2 : st.toInt ≤ 240) (hn : nu.toInt ≤ 10000) : Tc 98 d 0 0 [.ref 41, .int kd, .int st, .int nu] (sh, I, L, R) (fun r w' => r = none ∧ fresh w' ∧ wOK (mkT vV []) (wE sh R) w' ∧ (∀ q k, inm mdK q k = false → w'.2.1 q k = J q k) ∧ tkR J w'.2.1 (m + 1)) := by
  have c41 : sh[41]? = some (.inr 5) := hw.1 41 _ rfl
  have c43 : sh[43]? = some (.inl (.int, 241)) := hw.1 43 _ rfl
  have c44 : sh[44]? = some (.inl (.int, 241)) := hw.1 44 _ rfl
  have c45 : sh[45]? = some (.inl (.int, 241)) := hw.1 45 _ rfl
  have r41_2 : R 41 2 = some 43 := hw.2.1 41 2 _ rfl
  have r41_3 : R 41 3 = some 44 := hw.2.1 41 3 _ rfl
  have r41_4 : R 41 4 = some 45 := hw.2.1 41 4 _ rfl
  have z1 : (1 : Int32).toInt = 1 := rfl
  have z240 : (240 : Int32).toInt = 240 := rfl
  obtain ⟨mv, emv⟩ : ∃ z : Int32, I 41 5 = z := ⟨_, rfl⟩
  have hmv : mv.toInt = (m : Int) := by rw [← emv]; exact htk.1
  have en : (mv).toNatClampNeg = m := by show mv.toInt.toNat = m; omega
  refine Tc.of mr_98 rfl (show 4 ≤ mr_98.2.2.2.1 by decide) ?_
  refine XW.fam (S' := (1, [(0, .ref 41), (1, .int kd), (2, .int st), (3, .int nu)], [.ref 41], (sh, I, L, R))) (M := mr_98) rfl (show mcode 98 0 = some (0, .aload_n 0, 1, 0, 0, 0, _) from rfl) (Or.inl ⟨.ref 41, rfl, rfl⟩) ?_
  refine XW.fam (S' := (4, [(0, .ref 41), (1, .int kd), (2, .int st), (3, .int nu)], [.int (I 41 5)], (sh, I, L, R))) (M := mr_98) rfl (show mcode 98 1 = some (1, .getfield 64, 3, 5, 5, 0, _) from rfl) (Or.inr (Or.inr (Or.inr (Or.inr (Or.inr (Or.inr (Or.inr (Or.inl ⟨_, _, rfl, fl_ldI c41 (by decide) (by decide), rfl⟩)))))))) ?_
  rw [emv]
  refine XW.fam (S' := (7, [(0, .ref 41), (1, .int kd), (2, .int st), (3, .int nu)], [.int 240, .int mv], (sh, I, L, R))) (M := mr_98) rfl (show mcode 98 4 = some (4, .sipush 240, 3, 0, 0, 0, _) from rfl) (Or.inl ⟨.int 240, rfl, rfl⟩) ?_
  have k1 : bcmp .ge mv 240 = false := bcF (c := .ge) (a := (mv).toInt) (b := 240) rfl (by decide) (by show ¬ (240 ≤ (mv).toInt); omega)
  refine XW.fam (S' := (10, [(0, .ref 41), (1, .int kd), (2, .int st), (3, .int nu)], [], (sh, I, L, R))) (M := mr_98) rfl (show mcode 98 7 = some (7, .if_icmp .ge 43, 3, 50, 0, 0, _) from rfl) (Or.inr (Or.inl ⟨10, [], by simp [brn, k1], rfl⟩)) ?_
  refine XW.fam (S' := (11, [(0, .ref 41), (1, .int kd), (2, .int st), (3, .int nu)], [.ref 41], (sh, I, L, R))) (M := mr_98) rfl (show mcode 98 10 = some (10, .aload_n 0, 1, 0, 0, 0, _) from rfl) (Or.inl ⟨.ref 41, rfl, rfl⟩) ?_
  refine XW.fam (S' := (14, [(0, .ref 41), (1, .int kd), (2, .int st), (3, .int nu)], [.ref 43], (sh, I, L, R))) (M := mr_98) rfl (show mcode 98 11 = some (11, .getfield 15, 3, 5, 2, 0, _) from rfl) (Or.inr (Or.inr (Or.inr (Or.inr (Or.inr (Or.inr (Or.inr (Or.inl ⟨_, _, rfl, fl_ld c41 r41_2 (by decide) (by decide), rfl⟩)))))))) ?_
  refine XW.fam (S' := (15, [(0, .ref 41), (1, .int kd), (2, .int st), (3, .int nu)], [.ref 41, .ref 43], (sh, I, L, R))) (M := mr_98) rfl (show mcode 98 14 = some (14, .aload_n 0, 1, 0, 0, 0, _) from rfl) (Or.inl ⟨.ref 41, rfl, rfl⟩) ?_
  refine XW.fam (S' := (18, [(0, .ref 41), (1, .int kd), (2, .int st), (3, .int nu)], [.int (I 41 5), .ref 43], (sh, I, L, R))) (M := mr_98) rfl (show mcode 98 15 = some (15, .getfield 64, 3, 5, 5, 0, _) from rfl) (Or.inr (Or.inr (Or.inr (Or.inr (Or.inr (Or.inr (Or.inr (Or.inl ⟨_, _, rfl, fl_ldI c41 (by decide) (by decide), rfl⟩)))))))) ?_
  rw [emv]
  refine XW.fam (S' := (19, [(0, .ref 41), (1, .int kd), (2, .int st), (3, .int nu)], [.int kd, .int mv, .ref 43], (sh, I, L, R))) (M := mr_98) rfl (show mcode 98 18 = some (18, .iload_n 1, 1, 0, 0, 0, _) from rfl) (Or.inl ⟨.int kd, rfl, rfl⟩) ?_
  have hin2 : inR mv 241 = true := inR_of (by omega) (by omega)
  obtain ⟨I3, eI3⟩ : ∃ X, X = up2 I 43 (mv).toNatClampNeg kd := ⟨_, rfl⟩
  refine XW.fam (S' := (20, [(0, .ref 41), (1, .int kd), (2, .int st), (3, .int nu)], [], (sh, I3, L, R))) (M := mr_98) rfl (show mcode 98 19 = some (19, .iastore, 1, 0, 0, 0, _) from rfl) (Or.inr (Or.inr (Or.inr (Or.inl ⟨_, _, by rw [eI3]; exact sta_i c43 hin2, rfl⟩)))) ?_
  have xb := i32b (kd)
  unfold lo32 hi32 at xb
  have hwI3 : wOK (mkT vV []) (wE sh R) (sh, I3, L, R) := by rw [eI3]; exact wOK_u2 (q := 43) (k := (mv).toNatClampNeg) (x := kd) wE_put hw rfl (by show ((-2147483648) : Int) ≤ _; omega) (by show _ ≤ (2147483647 : Int); omega)
  have hfI3 : fresh (sh, I3, L, R) := by rw [eI3]; exact fresh_I hf c43
  have v4 : I3 41 5 = mv := by rw [eI3, up2_ne (fun e => by cases e.1)]; exact emv
  have v5 : I3 43 (mv).toNatClampNeg = kd := by rw [eI3]; exact up2_eq
  refine XW.fam (S' := (21, [(0, .ref 41), (1, .int kd), (2, .int st), (3, .int nu)], [.ref 41], (sh, I3, L, R))) (M := mr_98) rfl (show mcode 98 20 = some (20, .aload_n 0, 1, 0, 0, 0, _) from rfl) (Or.inl ⟨.ref 41, rfl, rfl⟩) ?_
  refine XW.fam (S' := (24, [(0, .ref 41), (1, .int kd), (2, .int st), (3, .int nu)], [.ref 44], (sh, I3, L, R))) (M := mr_98) rfl (show mcode 98 21 = some (21, .getfield 19, 3, 5, 3, 0, _) from rfl) (Or.inr (Or.inr (Or.inr (Or.inr (Or.inr (Or.inr (Or.inr (Or.inl ⟨_, _, rfl, fl_ld c41 r41_3 (by decide) (by decide), rfl⟩)))))))) ?_
  refine XW.fam (S' := (25, [(0, .ref 41), (1, .int kd), (2, .int st), (3, .int nu)], [.ref 41, .ref 44], (sh, I3, L, R))) (M := mr_98) rfl (show mcode 98 24 = some (24, .aload_n 0, 1, 0, 0, 0, _) from rfl) (Or.inl ⟨.ref 41, rfl, rfl⟩) ?_
  refine XW.fam (S' := (28, [(0, .ref 41), (1, .int kd), (2, .int st), (3, .int nu)], [.int (I3 41 5), .ref 44], (sh, I3, L, R))) (M := mr_98) rfl (show mcode 98 25 = some (25, .getfield 64, 3, 5, 5, 0, _) from rfl) (Or.inr (Or.inr (Or.inr (Or.inr (Or.inr (Or.inr (Or.inr (Or.inl ⟨_, _, rfl, fl_ldI c41 (by decide) (by decide), rfl⟩)))))))) ?_
  rw [v4]
  refine XW.fam (S' := (29, [(0, .ref 41), (1, .int kd), (2, .int st), (3, .int nu)], [.int st, .int mv, .ref 44], (sh, I3, L, R))) (M := mr_98) rfl (show mcode 98 28 = some (28, .iload_n 2, 1, 0, 0, 0, _) from rfl) (Or.inl ⟨.int st, rfl, rfl⟩) ?_
  have hin6 : inR mv 241 = true := inR_of (by omega) (by omega)
  obtain ⟨I7, eI7⟩ : ∃ X, X = up2 I3 44 (mv).toNatClampNeg st := ⟨_, rfl⟩
  refine XW.fam (S' := (30, [(0, .ref 41), (1, .int kd), (2, .int st), (3, .int nu)], [], (sh, I7, L, R))) (M := mr_98) rfl (show mcode 98 29 = some (29, .iastore, 1, 0, 0, 0, _) from rfl) (Or.inr (Or.inr (Or.inr (Or.inl ⟨_, _, by rw [eI7]; exact sta_i c44 hin6, rfl⟩)))) ?_
  have hwI7 : wOK (mkT vV []) (wE sh R) (sh, I7, L, R) := by rw [eI7]; exact wOK_u2 (q := 44) (k := (mv).toNatClampNeg) (x := st) wE_put hwI3 rfl (by show (0 : Int) ≤ _; omega) (by show _ ≤ (240 : Int); omega)
  have hfI7 : fresh (sh, I7, L, R) := by rw [eI7]; exact fresh_I hfI3 c44
  have v8 : I7 41 5 = mv := by rw [eI7, up2_ne (fun e => by cases e.1)]; exact v4
  have v9 : I7 43 (mv).toNatClampNeg = kd := by rw [eI7, up2_ne (fun e => by cases e.1)]; exact v5
  have v10 : I7 44 (mv).toNatClampNeg = st := by rw [eI7]; exact up2_eq
  refine XW.fam (S' := (31, [(0, .ref 41), (1, .int kd), (2, .int st), (3, .int nu)], [.ref 41], (sh, I7, L, R))) (M := mr_98) rfl (show mcode 98 30 = some (30, .aload_n 0, 1, 0, 0, 0, _) from rfl) (Or.inl ⟨.ref 41, rfl, rfl⟩) ?_
  refine XW.fam (S' := (34, [(0, .ref 41), (1, .int kd), (2, .int st), (3, .int nu)], [.ref 45], (sh, I7, L, R))) (M := mr_98) rfl (show mcode 98 31 = some (31, .getfield 22, 3, 5, 4, 0, _) from rfl) (Or.inr (Or.inr (Or.inr (Or.inr (Or.inr (Or.inr (Or.inr (Or.inl ⟨_, _, rfl, fl_ld c41 r41_4 (by decide) (by decide), rfl⟩)))))))) ?_
  refine XW.fam (S' := (35, [(0, .ref 41), (1, .int kd), (2, .int st), (3, .int nu)], [.ref 41, .ref 45], (sh, I7, L, R))) (M := mr_98) rfl (show mcode 98 34 = some (34, .aload_n 0, 1, 0, 0, 0, _) from rfl) (Or.inl ⟨.ref 41, rfl, rfl⟩) ?_
  refine XW.fam (S' := (38, [(0, .ref 41), (1, .int kd), (2, .int st), (3, .int nu)], [.int (I7 41 5), .ref 45], (sh, I7, L, R))) (M := mr_98) rfl (show mcode 98 35 = some (35, .getfield 64, 3, 5, 5, 0, _) from rfl) (Or.inr (Or.inr (Or.inr (Or.inr (Or.inr (Or.inr (Or.inr (Or.inl ⟨_, _, rfl, fl_ldI c41 (by decide) (by decide), rfl⟩)))))))) ?_
  rw [v8]
  refine XW.fam (S' := (39, [(0, .ref 41), (1, .int kd), (2, .int st), (3, .int nu)], [.int nu, .int mv, .ref 45], (sh, I7, L, R))) (M := mr_98) rfl (show mcode 98 38 = some (38, .iload_n 3, 1, 0, 0, 0, _) from rfl) (Or.inl ⟨.int nu, rfl, rfl⟩) ?_
  have hin11 : inR mv 241 = true := inR_of (by omega) (by omega)
  obtain ⟨I12, eI12⟩ : ∃ X, X = up2 I7 45 (mv).toNatClampNeg nu := ⟨_, rfl⟩
  refine XW.fam (S' := (40, [(0, .ref 41), (1, .int kd), (2, .int st), (3, .int nu)], [], (sh, I12, L, R))) (M := mr_98) rfl (show mcode 98 39 = some (39, .iastore, 1, 0, 0, 0, _) from rfl) (Or.inr (Or.inr (Or.inr (Or.inl ⟨_, _, by rw [eI12]; exact sta_i c45 hin11, rfl⟩)))) ?_
  have xb := i32b (nu)
  unfold lo32 hi32 at xb
  have hwI12 : wOK (mkT vV []) (wE sh R) (sh, I12, L, R) := by rw [eI12]; exact wOK_u2 (q := 45) (k := (mv).toNatClampNeg) (x := nu) wE_put hwI7 rfl (by show ((-2147483648) : Int) ≤ _; omega) (by show _ ≤ (10000 : Int); omega)
  have hfI12 : fresh (sh, I12, L, R) := by rw [eI12]; exact fresh_I hfI7 c45
  have v13 : I12 41 5 = mv := by rw [eI12, up2_ne (fun e => by cases e.1)]; exact v8
  have v14 : I12 43 (mv).toNatClampNeg = kd := by rw [eI12, up2_ne (fun e => by cases e.1)]; exact v9
  have v15 : I12 44 (mv).toNatClampNeg = st := by rw [eI12, up2_ne (fun e => by cases e.1)]; exact v10
  have v16 : I12 45 (mv).toNatClampNeg = nu := by rw [eI12]; exact up2_eq
  refine XW.fam (S' := (41, [(0, .ref 41), (1, .int kd), (2, .int st), (3, .int nu)], [.ref 41], (sh, I12, L, R))) (M := mr_98) rfl (show mcode 98 40 = some (40, .aload_n 0, 1, 0, 0, 0, _) from rfl) (Or.inl ⟨.ref 41, rfl, rfl⟩) ?_
  refine XW.fam (S' := (42, [(0, .ref 41), (1, .int kd), (2, .int st), (3, .int nu)], [.ref 41, .ref 41], (sh, I12, L, R))) (M := mr_98) rfl (show mcode 98 41 = some (41, .dup, 1, 0, 0, 0, _) from rfl) (Or.inr (Or.inr (Or.inr (Or.inr (Or.inr (Or.inl ⟨_, rfl, rfl⟩)))))) ?_
  refine XW.fam (S' := (45, [(0, .ref 41), (1, .int kd), (2, .int st), (3, .int nu)], [.int (I12 41 5), .ref 41], (sh, I12, L, R))) (M := mr_98) rfl (show mcode 98 42 = some (42, .getfield 64, 3, 5, 5, 0, _) from rfl) (Or.inr (Or.inr (Or.inr (Or.inr (Or.inr (Or.inr (Or.inr (Or.inl ⟨_, _, rfl, fl_ldI c41 (by decide) (by decide), rfl⟩)))))))) ?_
  rw [v13]
  refine XW.fam (S' := (46, [(0, .ref 41), (1, .int kd), (2, .int st), (3, .int nu)], [.int 1, .int mv, .ref 41], (sh, I12, L, R))) (M := mr_98) rfl (show mcode 98 45 = some (45, .iconst 1, 1, 0, 0, 0, _) from rfl) (Or.inl ⟨.int 1, rfl, rfl⟩) ?_
  refine XW.fam (S' := (47, [(0, .ref 41), (1, .int kd), (2, .int st), (3, .int nu)], [.int (mv + 1), .ref 41], (sh, I12, L, R))) (M := mr_98) rfl (show mcode 98 46 = some (46, .iadd, 1, 0, 0, 0, _) from rfl) (Or.inr (Or.inr (Or.inr (Or.inr (Or.inr (Or.inl ⟨_, rfl, rfl⟩)))))) ?_
  obtain ⟨I17, eI17⟩ : ∃ X, X = up2 I12 41 5 (mv + 1) := ⟨_, rfl⟩
  refine XW.fam (S' := (50, [(0, .ref 41), (1, .int kd), (2, .int st), (3, .int nu)], [], (sh, I17, L, R))) (M := mr_98) rfl (show mcode 98 47 = some (47, .putfield 64, 3, 5, 5, 0, _) from rfl) (Or.inr (Or.inr (Or.inr (Or.inr (Or.inr (Or.inr (Or.inr (Or.inr (Or.inl ⟨_, _, _, rfl, by rw [eI17]; exact stf_I c41 (by decide) (by decide) (by decide), rfl⟩))))))))) ?_
  have xi := inc32 (m := mv) (by omega) (by omega)
  have hwI17 : wOK (mkT vV []) (wE sh R) (sh, I17, L, R) := by rw [eI17]; exact wOK_u2 (q := 41) (k := 5) (x := (mv + 1)) wE_put hwI12 rfl (by show (0 : Int) ≤ _; omega) (by show _ ≤ (240 : Int); omega)
  have hfI17 : fresh (sh, I17, L, R) := by rw [eI17]; exact fresh_I hfI12 c41
  have v19 : I17 43 (mv).toNatClampNeg = kd := by rw [eI17, up2_ne (fun e => by cases e.1)]; exact v14
  have v20 : I17 44 (mv).toNatClampNeg = st := by rw [eI17, up2_ne (fun e => by cases e.1)]; exact v15
  have v21 : I17 45 (mv).toNatClampNeg = nu := by rw [eI17, up2_ne (fun e => by cases e.1)]; exact v16
  have v22 : I17 41 5 = (mv + 1) := by rw [eI17]; exact up2_eq
  refine XW.ret (r := none) ⟨rfl, by decide +kernel⟩ ?_
  refine ⟨rfl, hfI17, hwI17, fun q k h => ?_, ?_, fun t ht => ?_⟩
  · show I17 q k = J q k
    rw [eI17, up2_ne (fun e => by rw [e.1, e.2] at h; cases h), eI12, up2_ne (fun e => by rw [e.1] at h; cases h), eI7, up2_ne (fun e => by rw [e.1] at h; cases h), eI3, up2_ne (fun e => by rw [e.1] at h; cases h)]
    exact hk q k h
  · show (I17 41 5).toInt = ((m + 1 : Nat) : Int)
    rw [v22]
    omega
  · show (I17 43 t).toInt = tK (fun k => (J 42 k).toInt) (J 41 0).toInt.toNat t ∧ (I17 44 t).toInt = (tS (fun k => (J 42 k).toInt) (J 41 0).toInt.toNat t : Int)
    have a1 : I17 43 t = I3 43 t := by rw [eI17, up2_ne (fun e => by cases e.1), eI12, up2_ne (fun e => by cases e.1), eI7, up2_ne (fun e => by cases e.1)]
    have a2 : I17 44 t = I7 44 t := by rw [eI17, up2_ne (fun e => by cases e.1), eI12, up2_ne (fun e => by cases e.1)]
    by_cases z : t = m
    · rw [a1, a2, z, ← en, eI3, up2_eq, eI7, up2_eq, en]
      exact ⟨hkd, hst⟩
    · rw [a1, a2, eI3, up2_ne (fun e => z (by rw [e.2, en])), eI7, up2_ne (fun e => z (by rw [e.2, en])), eI3, up2_ne (fun e => by cases e.1)]
      exact htk.2 t (by omega)
theorem let_lp {d : Nat} {sh : List mE} {I : Nat → Nat → Int32} {L : Nat → Nat → Int64} {R : Nat → Nat → Option Nat} {J : Nat → Nat → Int32} {st : Int32} {Q : Option Value → mW → Prop} (hw : wOK (mkT vV []) (wE sh R) (sh, I, L, R)) (hk42 : ∀ k, I 42 k = J 42 k) (hk0 : I 41 0 = J 41 0) (hst : 0 ≤ st.toInt) (K : ∀ p : Int32, p.toInt = (tE (cL (fun k => (J 42 k).toInt)) (J 41 0).toInt.toNat st.toInt.toNat : Int) → XW 93 mr_93 none (d + 7) 0 0 Q (57, [(1, .int p), (2, .int st), (0, .ref 41)], [], (sh, I, L, R))) : ∀ (z : Nat) (p : Int32), 0 ≤ p.toInt → p.toInt ≤ (J 41 0).toInt → (J 41 0).toInt - p.toInt < z → tE (cL (fun k => (J 42 k).toInt)) (J 41 0).toInt.toNat p.toInt.toNat = tE (cL (fun k => (J 42 k).toInt)) (J 41 0).toInt.toNat st.toInt.toNat → XW 93 mr_93 none (d + 7) 0 0 Q (35, [(1, .int p), (2, .int st), (0, .ref 41)], [], (sh, I, L, R)) := by
  have c41 : sh[41]? = some (.inr 5) := hw.1 41 _ rfl
  have hl0 : 0 ≤ (I 41 0).toInt ∧ (I 41 0).toInt ≤ 240 := hw.2.2.1 41 0
  rw [hk0] at hl0
  obtain ⟨ln, eln⟩ : ∃ z : Int32, I 41 0 = z := ⟨_, rfl⟩
  have hln : ln.toInt = (J 41 0).toInt := by rw [← eln, hk0]
  intro z
  induction z with
  | zero =>
    intro p h1 h2 hz
    exfalso
    omega
  | succ z ih =>
    intro p h1 h2 hz hq
    refine XW.fam (S' := (36, [(1, .int p), (2, .int st), (0, .ref 41)], [.int p], (sh, I, L, R))) (M := mr_93) rfl (show mcode 93 35 = some (35, .iload_n 1, 1, 0, 0, 0, _) from rfl) (Or.inl ⟨.int p, rfl, rfl⟩) ?_
    refine XW.fam (S' := (37, [(1, .int p), (2, .int st), (0, .ref 41)], [.ref 41, .int p], (sh, I, L, R))) (M := mr_93) rfl (show mcode 93 36 = some (36, .aload_n 0, 1, 0, 0, 0, _) from rfl) (Or.inl ⟨.ref 41, rfl, rfl⟩) ?_
    refine XW.fam (S' := (40, [(1, .int p), (2, .int st), (0, .ref 41)], [.int (I 41 0), .int p], (sh, I, L, R))) (M := mr_93) rfl (show mcode 93 37 = some (37, .getfield 28, 3, 5, 0, 0, _) from rfl) (Or.inr (Or.inr (Or.inr (Or.inr (Or.inr (Or.inr (Or.inr (Or.inl ⟨_, _, rfl, fl_ldI c41 (by decide) (by decide), rfl⟩)))))))) ?_
    rw [eln]
    cases k1 : bcmp .ge p ln with
    | true =>
      have gk1 : (ln).toInt ≤ (p).toInt := icT (c := .ge) (a := (p).toInt) (b := (ln).toInt) rfl rfl k1
      refine XW.fam (S' := (57, [(1, .int p), (2, .int st), (0, .ref 41)], [], (sh, I, L, R))) (M := mr_93) rfl (show mcode 93 40 = some (40, .if_icmp .ge 17, 3, 57, 0, 0, _) from rfl) (Or.inr (Or.inl ⟨57, [], by simp [brn, k1], rfl⟩)) ?_
      have ep : p.toInt.toNat = tE (cL (fun k => (J 42 k).toInt)) (J 41 0).toInt.toNat st.toInt.toNat := tE_same hq (fun q => by have q1 := q.1; omega)
      exact K p (by omega) 
    | false =>
      have gk1 : ¬ ((ln).toInt ≤ (p).toInt) := icF (c := .ge) (a := (p).toInt) (b := (ln).toInt) rfl rfl k1
      refine XW.fam (S' := (43, [(1, .int p), (2, .int st), (0, .ref 41)], [], (sh, I, L, R))) (M := mr_93) rfl (show mcode 93 40 = some (40, .if_icmp .ge 17, 3, 57, 0, 0, _) from rfl) (Or.inr (Or.inl ⟨43, [], by simp [brn, k1], rfl⟩)) ?_
      refine XW.fam (S' := (44, [(1, .int p), (2, .int st), (0, .ref 41)], [.ref 41], (sh, I, L, R))) (M := mr_93) rfl (show mcode 93 43 = some (43, .aload_n 0, 1, 0, 0, 0, _) from rfl) (Or.inl ⟨.ref 41, rfl, rfl⟩) ?_
      refine XW.fam (S' := (45, [(1, .int p), (2, .int st), (0, .ref 41)], [.int p, .ref 41], (sh, I, L, R))) (M := mr_93) rfl (show mcode 93 44 = some (44, .iload_n 1, 1, 0, 0, 0, _) from rfl) (Or.inl ⟨.int p, rfl, rfl⟩) ?_
      refine XW.call (d' := d + 1) (mc' := 0) (ms' := 0) (av := [.ref 41, .int p]) (rest := []) (M := mr_93) (Ma := mr_94) rfl (show mcode 93 45 = some (45, .invokevirtual 67, 3, 94, 0, 0, _) from rfl) rfl (by decide) (by decide) ⟨rfl, 41, _, rfl, c41⟩ rfl rfl (show 0 ≤ 8 by decide) (tc_let (d := d) hw (by rw [hk0]; omega)) (by omega) (Nat.zero_le _) (Nat.zero_le _) (fun rQ2 wQ2 Q2 => ?_)
      obtain ⟨hQ2, rfl⟩ := Q2
      rcases hQ2 with ⟨rfl, gQ2⟩ | ⟨rfl, gQ2⟩
      · skip
        refine XW.fam (S' := (57, [(1, .int p), (2, .int st), (0, .ref 41)], [], (sh, I, L, R))) (M := mr_93) rfl (show mcode 93 48 = some (48, .ifCond .eq 9, 3, 57, 0, 0, _) from rfl) (Or.inr (Or.inl ⟨57, [], rfl, rfl⟩)) ?_
        have ep : p.toInt.toNat = tE (cL (fun k => (J 42 k).toInt)) (J 41 0).toInt.toNat st.toInt.toNat := tE_same hq (fun q => gQ2 (by rw [hk42]; exact q.2))
        exact K p (by omega) 
      · skip
        refine XW.fam (S' := (51, [(1, .int p), (2, .int st), (0, .ref 41)], [], (sh, I, L, R))) (M := mr_93) rfl (show mcode 93 48 = some (48, .ifCond .eq 9, 3, 57, 0, 0, _) from rfl) (Or.inr (Or.inl ⟨51, [], rfl, rfl⟩)) ?_
        refine XW.fam (S' := (54, [(1, .int (p + Int32.ofInt 1)), (2, .int st), (0, .ref 41)], [], (sh, I, L, R))) (M := mr_93) rfl (show mcode 93 51 = some (51, .iinc 1 1, 3, 0, 0, 0, _) from rfl) (Or.inr (Or.inr (Or.inr (Or.inr (Or.inr (Or.inr (Or.inr (Or.inr (Or.inr ⟨1, 1, p, rfl, rfl, by decide, rfl⟩))))))))) ?_
        refine XW.fam (S' := (35, [(1, .int (p + Int32.ofInt 1)), (2, .int st), (0, .ref 41)], [], (sh, I, L, R))) (M := mr_93) rfl (show mcode 93 54 = some (54, .goto (-19), 3, 35, 0, 0, _) from rfl) (Or.inr (Or.inl ⟨35, [], rfl, rfl⟩)) ?_
        have eo := incO (m := p) (by omega) (by omega)
        have en1 : (p + Int32.ofInt 1).toInt.toNat = p.toInt.toNat + 1 := by omega
        have hyy : cL (fun k => (J 42 k).toInt) p.toInt.toNat = true := by show tL (J 42 (p).toNatClampNeg).toInt = true; rw [← hk42]; exact gQ2
        refine XW.sub (ls' := [(1, .int (p + Int32.ofInt 1)), (2, .int st), (0, .ref 41)]) (List.forall_mem_cons.mpr ⟨List.mem_of_getElem? (i := 0) rfl, (List.forall_mem_cons.mpr ⟨List.mem_of_getElem? (i := 1) rfl, (List.forall_mem_cons.mpr ⟨List.mem_of_getElem? (i := 2) rfl, (fun _ h => absurd h List.not_mem_nil)⟩)⟩)⟩) ?_
        refine ih (p + Int32.ofInt 1) (by omega) (by omega) (by omega) ?_
        rw [en1, ← tE_go (by omega) hyy]
        exact hq
theorem dig_lp {d : Nat} {sh : List mE} {I : Nat → Nat → Int32} {L : Nat → Nat → Int64} {R : Nat → Nat → Option Nat} {J : Nat → Nat → Int32} {st : Int32} {Q : Option Value → mW → Prop} (hw : wOK (mkT vV []) (wE sh R) (sh, I, L, R)) (hk42 : ∀ k, I 42 k = J 42 k) (hk0 : I 41 0 = J 41 0) (hst : 0 ≤ st.toInt) (K : ∀ p nu : Int32, p.toInt = (tE (cD (fun k => (J 42 k).toInt)) (J 41 0).toInt.toNat st.toInt.toNat : Int) → (0 ≤ nu.toInt ∧ nu.toInt ≤ 10000) → XW 93 mr_93 none (d + 7) 0 0 Q (124, [(3, .int nu), (1, .int p), (2, .int st), (0, .ref 41)], [], (sh, I, L, R))) : ∀ (z : Nat) (p nu : Int32), 0 ≤ p.toInt → p.toInt ≤ (J 41 0).toInt → (J 41 0).toInt - p.toInt < z → (0 ≤ nu.toInt ∧ nu.toInt ≤ 10000) → tE (cD (fun k => (J 42 k).toInt)) (J 41 0).toInt.toNat p.toInt.toNat = tE (cD (fun k => (J 42 k).toInt)) (J 41 0).toInt.toNat st.toInt.toNat → XW 93 mr_93 none (d + 7) 0 0 Q (82, [(3, .int nu), (1, .int p), (2, .int st), (0, .ref 41)], [], (sh, I, L, R)) := by
  have c41 : sh[41]? = some (.inr 5) := hw.1 41 _ rfl
  have z10 : (10 : Int32).toInt = 10 := rfl
  have z48 : (48 : Int32).toInt = 48 := rfl
  have z10000 : (10000 : Int32).toInt = 10000 := rfl
  have hl0 : 0 ≤ (I 41 0).toInt ∧ (I 41 0).toInt ≤ 240 := hw.2.2.1 41 0
  rw [hk0] at hl0
  obtain ⟨ln, eln⟩ : ∃ z : Int32, I 41 0 = z := ⟨_, rfl⟩
  have hln : ln.toInt = (J 41 0).toInt := by rw [← eln, hk0]
  intro z
  induction z with
  | zero =>
    intro p nu h1 h2 hz
    exfalso
    omega
  | succ z ih =>
    intro p nu h1 h2 hz hnu hq
    refine XW.fam (S' := (83, [(3, .int nu), (1, .int p), (2, .int st), (0, .ref 41)], [.int p], (sh, I, L, R))) (M := mr_93) rfl (show mcode 93 82 = some (82, .iload_n 1, 1, 0, 0, 0, _) from rfl) (Or.inl ⟨.int p, rfl, rfl⟩) ?_
    refine XW.fam (S' := (84, [(3, .int nu), (1, .int p), (2, .int st), (0, .ref 41)], [.ref 41, .int p], (sh, I, L, R))) (M := mr_93) rfl (show mcode 93 83 = some (83, .aload_n 0, 1, 0, 0, 0, _) from rfl) (Or.inl ⟨.ref 41, rfl, rfl⟩) ?_
    refine XW.fam (S' := (87, [(3, .int nu), (1, .int p), (2, .int st), (0, .ref 41)], [.int (I 41 0), .int p], (sh, I, L, R))) (M := mr_93) rfl (show mcode 93 84 = some (84, .getfield 28, 3, 5, 0, 0, _) from rfl) (Or.inr (Or.inr (Or.inr (Or.inr (Or.inr (Or.inr (Or.inr (Or.inl ⟨_, _, rfl, fl_ldI c41 (by decide) (by decide), rfl⟩)))))))) ?_
    rw [eln]
    cases k1 : bcmp .ge p ln with
    | true =>
      have gk1 : (ln).toInt ≤ (p).toInt := icT (c := .ge) (a := (p).toInt) (b := (ln).toInt) rfl rfl k1
      refine XW.fam (S' := (124, [(3, .int nu), (1, .int p), (2, .int st), (0, .ref 41)], [], (sh, I, L, R))) (M := mr_93) rfl (show mcode 93 87 = some (87, .if_icmp .ge 37, 3, 124, 0, 0, _) from rfl) (Or.inr (Or.inl ⟨124, [], by simp [brn, k1], rfl⟩)) ?_
      have ep : p.toInt.toNat = tE (cD (fun k => (J 42 k).toInt)) (J 41 0).toInt.toNat st.toInt.toNat := tE_same hq (fun q => by have q1 := q.1; omega)
      exact K p nu (by omega) hnu
    | false =>
      have gk1 : ¬ ((ln).toInt ≤ (p).toInt) := icF (c := .ge) (a := (p).toInt) (b := (ln).toInt) rfl rfl k1
      refine XW.fam (S' := (90, [(3, .int nu), (1, .int p), (2, .int st), (0, .ref 41)], [], (sh, I, L, R))) (M := mr_93) rfl (show mcode 93 87 = some (87, .if_icmp .ge 37, 3, 124, 0, 0, _) from rfl) (Or.inr (Or.inl ⟨90, [], by simp [brn, k1], rfl⟩)) ?_
      refine XW.fam (S' := (91, [(3, .int nu), (1, .int p), (2, .int st), (0, .ref 41)], [.ref 41], (sh, I, L, R))) (M := mr_93) rfl (show mcode 93 90 = some (90, .aload_n 0, 1, 0, 0, 0, _) from rfl) (Or.inl ⟨.ref 41, rfl, rfl⟩) ?_
      refine XW.fam (S' := (92, [(3, .int nu), (1, .int p), (2, .int st), (0, .ref 41)], [.int p, .ref 41], (sh, I, L, R))) (M := mr_93) rfl (show mcode 93 91 = some (91, .iload_n 1, 1, 0, 0, 0, _) from rfl) (Or.inl ⟨.int p, rfl, rfl⟩) ?_
      refine XW.call (d' := d + 1) (mc' := 0) (ms' := 0) (av := [.ref 41, .int p]) (rest := []) (M := mr_93) (Ma := mr_99) rfl (show mcode 93 92 = some (92, .invokevirtual 79, 3, 99, 0, 0, _) from rfl) rfl (by decide) (by decide) ⟨rfl, 41, _, rfl, c41⟩ rfl rfl (show 0 ≤ 8 by decide) (tc_dig (d := d) hw (by rw [hk0]; omega)) (by omega) (Nat.zero_le _) (Nat.zero_le _) (fun rQ2 wQ2 Q2 => ?_)
      obtain ⟨hQ2, rfl⟩ := Q2
      rcases hQ2 with ⟨rfl, gQ2⟩ | ⟨rfl, gQ2⟩
      · skip
        refine XW.fam (S' := (124, [(3, .int nu), (1, .int p), (2, .int st), (0, .ref 41)], [], (sh, I, L, R))) (M := mr_93) rfl (show mcode 93 95 = some (95, .ifCond .eq 29, 3, 124, 0, 0, _) from rfl) (Or.inr (Or.inl ⟨124, [], rfl, rfl⟩)) ?_
        have ep : p.toInt.toNat = tE (cD (fun k => (J 42 k).toInt)) (J 41 0).toInt.toNat st.toInt.toNat := tE_same hq (fun q => gQ2 (by rw [hk42]; exact q.2))
        exact K p nu (by omega) hnu
      · skip
        refine XW.fam (S' := (98, [(3, .int nu), (1, .int p), (2, .int st), (0, .ref 41)], [], (sh, I, L, R))) (M := mr_93) rfl (show mcode 93 95 = some (95, .ifCond .eq 29, 3, 124, 0, 0, _) from rfl) (Or.inr (Or.inl ⟨98, [], rfl, rfl⟩)) ?_
        refine XW.fam (S' := (101, [(3, .int nu), (1, .int p), (2, .int st), (0, .ref 41)], [.int 10000], (sh, I, L, R))) (M := mr_93) rfl (show mcode 93 98 = some (98, .sipush 10000, 3, 0, 0, 0, _) from rfl) (Or.inl ⟨.int 10000, rfl, rfl⟩) ?_
        refine XW.fam (S' := (102, [(3, .int nu), (1, .int p), (2, .int st), (0, .ref 41)], [.int nu, .int 10000], (sh, I, L, R))) (M := mr_93) rfl (show mcode 93 101 = some (101, .iload_n 3, 1, 0, 0, 0, _) from rfl) (Or.inl ⟨.int nu, rfl, rfl⟩) ?_
        refine XW.fam (S' := (104, [(3, .int nu), (1, .int p), (2, .int st), (0, .ref 41)], [.int 10, .int nu, .int 10000], (sh, I, L, R))) (M := mr_93) rfl (show mcode 93 102 = some (102, .bipush 10, 2, 0, 0, 0, _) from rfl) (Or.inl ⟨.int 10, rfl, rfl⟩) ?_
        refine XW.fam (S' := (105, [(3, .int nu), (1, .int p), (2, .int st), (0, .ref 41)], [.int (nu * 10), .int 10000], (sh, I, L, R))) (M := mr_93) rfl (show mcode 93 104 = some (104, .imul, 1, 0, 0, 0, _) from rfl) (Or.inr (Or.inr (Or.inr (Or.inr (Or.inr (Or.inl ⟨_, rfl, rfl⟩)))))) ?_
        refine XW.fam (S' := (106, [(3, .int nu), (1, .int p), (2, .int st), (0, .ref 41)], [.ref 41, .int (nu * 10), .int 10000], (sh, I, L, R))) (M := mr_93) rfl (show mcode 93 105 = some (105, .aload_n 0, 1, 0, 0, 0, _) from rfl) (Or.inl ⟨.ref 41, rfl, rfl⟩) ?_
        refine XW.fam (S' := (107, [(3, .int nu), (1, .int p), (2, .int st), (0, .ref 41)], [.int p, .ref 41, .int (nu * 10), .int 10000], (sh, I, L, R))) (M := mr_93) rfl (show mcode 93 106 = some (106, .iload_n 1, 1, 0, 0, 0, _) from rfl) (Or.inl ⟨.int p, rfl, rfl⟩) ?_
        refine XW.call (d' := d) (mc' := 0) (ms' := 0) (av := [.ref 41, .int p]) (rest := [.int (nu * 10), .int 10000]) (M := mr_93) (Ma := mr_95) rfl (show mcode 93 107 = some (107, .invokevirtual 56, 3, 95, 0, 0, _) from rfl) rfl (by decide) (by decide) ⟨rfl, 41, _, rfl, c41⟩ rfl rfl (show 2 ≤ 8 by decide) (tc_byte (d := d) hw (by rw [hk0]; omega)) (by omega) (Nat.zero_le _) (Nat.zero_le _) (fun rQ3 wQ3 Q3 => ?_)
        obtain ⟨⟨yQ3, rfl, hyQ3⟩, rfl⟩ := Q3
        have hyd := tD_iff.mp gQ2
        unfold ubt at hyQ3
        rw [if_neg (by omega)] at hyQ3
        have m10 : (nu * 10).toInt = nu.toInt * 10 := mul_i (b := 10) (by show lo32 ≤ nu.toInt * 10; unfold lo32; omega) (by show nu.toInt * 10 ≤ hi32; unfold hi32; omega)
        have m11 := sumS (a := nu * 10) (b := yQ3) (by omega) (by omega)
        have m12 := difS (a := nu * 10 + yQ3) (b := 48) (by omega) (by decide)
        have z48b : (48 : Int32).toInt = 48 := rfl
        refine XW.fam (S' := (111, [(3, .int nu), (1, .int p), (2, .int st), (0, .ref 41)], [.int ((nu * 10) + yQ3), .int 10000], (sh, I, L, R))) (M := mr_93) rfl (show mcode 93 110 = some (110, .iadd, 1, 0, 0, 0, _) from rfl) (Or.inr (Or.inr (Or.inr (Or.inr (Or.inr (Or.inl ⟨_, rfl, rfl⟩)))))) ?_
        refine XW.fam (S' := (113, [(3, .int nu), (1, .int p), (2, .int st), (0, .ref 41)], [.int 48, .int ((nu * 10) + yQ3), .int 10000], (sh, I, L, R))) (M := mr_93) rfl (show mcode 93 111 = some (111, .bipush 48, 2, 0, 0, 0, _) from rfl) (Or.inl ⟨.int 48, rfl, rfl⟩) ?_
        refine XW.fam (S' := (114, [(3, .int nu), (1, .int p), (2, .int st), (0, .ref 41)], [.int (((nu * 10) + yQ3) - 48), .int 10000], (sh, I, L, R))) (M := mr_93) rfl (show mcode 93 113 = some (113, .isub, 1, 0, 0, 0, _) from rfl) (Or.inr (Or.inr (Or.inr (Or.inr (Or.inr (Or.inl ⟨_, rfl, rfl⟩)))))) ?_
        refine XW.call (d' := d) (mc' := 0) (ms' := 0) (av := [.int 10000, .int (((nu * 10) + yQ3) - 48)]) (rest := []) (M := mr_93) (Ma := mr_21) rfl (show mcode 93 114 = some (114, .invokestatic 82, 3, 21, 0, 0, _) from rfl) rfl (by decide) (by decide) rfl rfl rfl (show 0 ≤ 8 by decide) (tc_min) (by omega) (Nat.zero_le _) (Nat.zero_le _) (fun rQ4 wQ4 Q4 => ?_)
        obtain ⟨rfl, rfl⟩ := Q4
        obtain ⟨mn, emn⟩ : ∃ z : Int32, z = (if (((nu * 10) + yQ3) - 48) < (10000 : Int32) then (((nu * 10) + yQ3) - 48) else 10000) := ⟨_, rfl⟩
        rw [← emn]
        have tmn := minI emn
        have zt : (10000 : Int32).toInt = 10000 := rfl
        have tm2 : mn.toInt ≤ 10000 ∧ 0 ≤ mn.toInt := by
          rw [tmn, zt]
          split <;> omega
        refine XW.fam (S' := (118, [(3, .int mn), (1, .int p), (2, .int st), (0, .ref 41)], [], (sh, I, L, R))) (M := mr_93) rfl (show mcode 93 117 = some (117, .istore_n 3, 1, 0, 0, 0, _) from rfl) (Or.inr (Or.inr (Or.inr (Or.inr (Or.inr (Or.inr (Or.inl ⟨_, [], _, rfl, rfl, rfl⟩))))))) ?_
        refine XW.fam (S' := (121, [(1, .int (p + Int32.ofInt 1)), (3, .int mn), (2, .int st), (0, .ref 41)], [], (sh, I, L, R))) (M := mr_93) rfl (show mcode 93 118 = some (118, .iinc 1 1, 3, 0, 0, 0, _) from rfl) (Or.inr (Or.inr (Or.inr (Or.inr (Or.inr (Or.inr (Or.inr (Or.inr (Or.inr ⟨1, 1, p, rfl, rfl, by decide, rfl⟩))))))))) ?_
        refine XW.fam (S' := (82, [(1, .int (p + Int32.ofInt 1)), (3, .int mn), (2, .int st), (0, .ref 41)], [], (sh, I, L, R))) (M := mr_93) rfl (show mcode 93 121 = some (121, .goto (-39), 3, 82, 0, 0, _) from rfl) (Or.inr (Or.inl ⟨82, [], rfl, rfl⟩)) ?_
        have eo := incO (m := p) (by omega) (by omega)
        have en1 : (p + Int32.ofInt 1).toInt.toNat = p.toInt.toNat + 1 := by omega
        have hyy : cD (fun k => (J 42 k).toInt) p.toInt.toNat = true := by show tD (J 42 (p).toNatClampNeg).toInt = true; rw [← hk42]; exact gQ2
        refine XW.sub (ls' := [(3, .int mn), (1, .int (p + Int32.ofInt 1)), (2, .int st), (0, .ref 41)]) (List.forall_mem_cons.mpr ⟨List.mem_of_getElem? (i := 1) rfl, (List.forall_mem_cons.mpr ⟨List.mem_of_getElem? (i := 0) rfl, (List.forall_mem_cons.mpr ⟨List.mem_of_getElem? (i := 2) rfl, (List.forall_mem_cons.mpr ⟨List.mem_of_getElem? (i := 3) rfl, (fun _ h => absurd h List.not_mem_nil)⟩)⟩)⟩)⟩) ?_
        refine ih (p + Int32.ofInt 1) mn (by omega) (by omega) (by omega) (by omega) ?_
        rw [en1, ← tE_go (by omega) hyy]
        exact hq
theorem split_lp {d : Nat} {sh : List mE} {J : Nat → Nat → Int32} {R : Nat → Nat → Option Nat} : ∀ (z : Nat) {I : Nat → Nat → Int32} {L : Nat → Nat → Int64} (p : Int32) (m : Nat), 0 ≤ p.toInt → p.toInt ≤ (J 41 0).toInt → (J 41 0).toInt - p.toInt < z → wOK (mkT vV []) (wE sh R) (sh, I, L, R) → fresh (sh, I, L, R) → (∀ q k, inm mdK q k = false → I q k = J q k) → tkR J I m → (m : Int) ≤ p.toInt → tS (fun k => (J 42 k).toInt) (J 41 0).toInt.toNat m = tE (cS (fun k => (J 42 k).toInt)) (J 41 0).toInt.toNat p.toInt.toNat → XW 93 mr_93 none (d + 7) 0 0 (fun r w' => r = none ∧ fresh w' ∧ wOK (mkT vV []) (wE sh R) w' ∧ (∀ q k, inm mdK q k = false → w'.2.1 q k = J q k) ∧ ∃ N, tvC w'.2.1 (tK (fun k => (J 42 k).toInt) (J 41 0).toInt.toNat) (tS (fun k => (J 42 k).toInt) (J 41 0).toInt.toNat) N) (7, [(1, .int p), (0, .ref 41)], [], (sh, I, L, R)) := by
  have z0 : (0 : Int32).toInt = 0 := rfl
  have z4 : (4 : Int32).toInt = 4 := rfl
  have z32 : (32 : Int32).toInt = 32 := rfl
  have z240 : (240 : Int32).toInt = 240 := rfl
  have z300 : (300 : Int32).toInt = 300 := rfl
  have z301 : (301 : Int32).toInt = 301 := rfl
  have z302 : (302 : Int32).toInt = 302 := rfl
  intro z
  induction z with
  | zero =>
    intro I L p m h1 h2 hz
    exfalso
    omega
  | succ z ih =>
    intro I L p m h1 h2 hz hw hf hk htk hmp hpos
    have hk0 : I 41 0 = J 41 0 := hk 41 0 rfl
    have hk42 : ∀ k, I 42 k = J 42 k := fun k => hk 42 k rfl
    have hl0 : 0 ≤ (I 41 0).toInt ∧ (I 41 0).toInt ≤ 240 := hw.2.2.1 41 0
    rw [hk0] at hl0
    obtain ⟨ln, eln⟩ : ∃ z : Int32, I 41 0 = z := ⟨_, rfl⟩
    have hln : ln.toInt = (J 41 0).toInt := by rw [← eln, hk0]
    obtain ⟨mv, emv⟩ : ∃ z : Int32, I 41 5 = z := ⟨_, rfl⟩
    have hmv : mv.toInt = (m : Int) := by rw [← emv]; exact htk.1
    have en : (mv).toNatClampNeg = m := by show mv.toInt.toNat = m; omega
    have c41 : sh[41]? = some (.inr 5) := hw.1 41 _ rfl
    have c43 : sh[43]? = some (.inl (.int, 241)) := hw.1 43 _ rfl
    have c44 : sh[44]? = some (.inl (.int, 241)) := hw.1 44 _ rfl
    have r41_2 : R 41 2 = some 43 := hw.2.1 41 2 _ rfl
    have r41_3 : R 41 3 = some 44 := hw.2.1 41 3 _ rfl
    refine XW.fam (S' := (8, [(1, .int p), (0, .ref 41)], [.int p], (sh, I, L, R))) (M := mr_93) rfl (show mcode 93 7 = some (7, .iload_n 1, 1, 0, 0, 0, _) from rfl) (Or.inl ⟨.int p, rfl, rfl⟩) ?_
    refine XW.fam (S' := (9, [(1, .int p), (0, .ref 41)], [.ref 41, .int p], (sh, I, L, R))) (M := mr_93) rfl (show mcode 93 8 = some (8, .aload_n 0, 1, 0, 0, 0, _) from rfl) (Or.inl ⟨.ref 41, rfl, rfl⟩) ?_
    refine XW.fam (S' := (12, [(1, .int p), (0, .ref 41)], [.int (I 41 0), .int p], (sh, I, L, R))) (M := mr_93) rfl (show mcode 93 9 = some (9, .getfield 28, 3, 5, 0, 0, _) from rfl) (Or.inr (Or.inr (Or.inr (Or.inr (Or.inr (Or.inr (Or.inr (Or.inl ⟨_, _, rfl, fl_ldI c41 (by decide) (by decide), rfl⟩)))))))) ?_
    rw [eln]
    cases k1 : bcmp .ge p ln with
    | true =>
      have gk1 : (ln).toInt ≤ (p).toInt := icT (c := .ge) (a := (p).toInt) (b := (ln).toInt) rfl rfl k1
      refine XW.fam (S' := (176, [(1, .int p), (0, .ref 41)], [], (sh, I, L, R))) (M := mr_93) rfl (show mcode 93 12 = some (12, .if_icmp .ge 164, 3, 176, 0, 0, _) from rfl) (Or.inr (Or.inl ⟨176, [], by simp [brn, k1], rfl⟩)) ?_
      refine XW.fam (S' := (177, [(1, .int p), (0, .ref 41)], [.ref 41], (sh, I, L, R))) (M := mr_93) rfl (show mcode 93 176 = some (176, .aload_n 0, 1, 0, 0, 0, _) from rfl) (Or.inl ⟨.ref 41, rfl, rfl⟩) ?_
      refine XW.fam (S' := (180, [(1, .int p), (0, .ref 41)], [.ref 43], (sh, I, L, R))) (M := mr_93) rfl (show mcode 93 177 = some (177, .getfield 15, 3, 5, 2, 0, _) from rfl) (Or.inr (Or.inr (Or.inr (Or.inr (Or.inr (Or.inr (Or.inr (Or.inl ⟨_, _, rfl, fl_ld c41 r41_2 (by decide) (by decide), rfl⟩)))))))) ?_
      refine XW.fam (S' := (181, [(1, .int p), (0, .ref 41)], [.ref 41, .ref 43], (sh, I, L, R))) (M := mr_93) rfl (show mcode 93 180 = some (180, .aload_n 0, 1, 0, 0, 0, _) from rfl) (Or.inl ⟨.ref 41, rfl, rfl⟩) ?_
      refine XW.fam (S' := (184, [(1, .int p), (0, .ref 41)], [.int (I 41 5), .ref 43], (sh, I, L, R))) (M := mr_93) rfl (show mcode 93 181 = some (181, .getfield 64, 3, 5, 5, 0, _) from rfl) (Or.inr (Or.inr (Or.inr (Or.inr (Or.inr (Or.inr (Or.inr (Or.inl ⟨_, _, rfl, fl_ldI c41 (by decide) (by decide), rfl⟩)))))))) ?_
      rw [emv]
      refine XW.fam (S' := (187, [(1, .int p), (0, .ref 41)], [.int 302, .int mv, .ref 43], (sh, I, L, R))) (M := mr_93) rfl (show mcode 93 184 = some (184, .sipush 302, 3, 0, 0, 0, _) from rfl) (Or.inl ⟨.int 302, rfl, rfl⟩) ?_
      have hin2 : inR mv 241 = true := inR_of (by omega) (by omega)
      obtain ⟨I3, eI3⟩ : ∃ X, X = up2 I 43 (mv).toNatClampNeg 302 := ⟨_, rfl⟩
      refine XW.fam (S' := (188, [(1, .int p), (0, .ref 41)], [], (sh, I3, L, R))) (M := mr_93) rfl (show mcode 93 187 = some (187, .iastore, 1, 0, 0, 0, _) from rfl) (Or.inr (Or.inr (Or.inr (Or.inl ⟨_, _, by rw [eI3]; exact sta_i c43 hin2, rfl⟩)))) ?_
      have xb := i32b (302)
      unfold lo32 hi32 at xb
      have hwI3 : wOK (mkT vV []) (wE sh R) (sh, I3, L, R) := by rw [eI3]; exact wOK_u2 (q := 43) (k := (mv).toNatClampNeg) (x := 302) wE_put hw rfl (by show ((-2147483648) : Int) ≤ _; omega) (by show _ ≤ (2147483647 : Int); omega)
      have hfI3 : fresh (sh, I3, L, R) := by rw [eI3]; exact fresh_I hf c43
      have v4 : I3 41 0 = ln := by rw [eI3, up2_ne (fun e => by cases e.1)]; exact eln
      have v5 : I3 41 5 = mv := by rw [eI3, up2_ne (fun e => by cases e.1)]; exact emv
      have v6 : I3 43 (mv).toNatClampNeg = 302 := by rw [eI3]; exact up2_eq
      refine XW.fam (S' := (189, [(1, .int p), (0, .ref 41)], [.ref 41], (sh, I3, L, R))) (M := mr_93) rfl (show mcode 93 188 = some (188, .aload_n 0, 1, 0, 0, 0, _) from rfl) (Or.inl ⟨.ref 41, rfl, rfl⟩) ?_
      refine XW.fam (S' := (192, [(1, .int p), (0, .ref 41)], [.ref 44], (sh, I3, L, R))) (M := mr_93) rfl (show mcode 93 189 = some (189, .getfield 19, 3, 5, 3, 0, _) from rfl) (Or.inr (Or.inr (Or.inr (Or.inr (Or.inr (Or.inr (Or.inr (Or.inl ⟨_, _, rfl, fl_ld c41 r41_3 (by decide) (by decide), rfl⟩)))))))) ?_
      refine XW.fam (S' := (193, [(1, .int p), (0, .ref 41)], [.ref 41, .ref 44], (sh, I3, L, R))) (M := mr_93) rfl (show mcode 93 192 = some (192, .aload_n 0, 1, 0, 0, 0, _) from rfl) (Or.inl ⟨.ref 41, rfl, rfl⟩) ?_
      refine XW.fam (S' := (196, [(1, .int p), (0, .ref 41)], [.int (I3 41 5), .ref 44], (sh, I3, L, R))) (M := mr_93) rfl (show mcode 93 193 = some (193, .getfield 64, 3, 5, 5, 0, _) from rfl) (Or.inr (Or.inr (Or.inr (Or.inr (Or.inr (Or.inr (Or.inr (Or.inl ⟨_, _, rfl, fl_ldI c41 (by decide) (by decide), rfl⟩)))))))) ?_
      rw [v5]
      refine XW.fam (S' := (197, [(1, .int p), (0, .ref 41)], [.ref 41, .int mv, .ref 44], (sh, I3, L, R))) (M := mr_93) rfl (show mcode 93 196 = some (196, .aload_n 0, 1, 0, 0, 0, _) from rfl) (Or.inl ⟨.ref 41, rfl, rfl⟩) ?_
      refine XW.fam (S' := (200, [(1, .int p), (0, .ref 41)], [.int (I3 41 0), .int mv, .ref 44], (sh, I3, L, R))) (M := mr_93) rfl (show mcode 93 197 = some (197, .getfield 28, 3, 5, 0, 0, _) from rfl) (Or.inr (Or.inr (Or.inr (Or.inr (Or.inr (Or.inr (Or.inr (Or.inl ⟨_, _, rfl, fl_ldI c41 (by decide) (by decide), rfl⟩)))))))) ?_
      rw [v4]
      have hin7 : inR mv 241 = true := inR_of (by omega) (by omega)
      obtain ⟨I8, eI8⟩ : ∃ X, X = up2 I3 44 (mv).toNatClampNeg ln := ⟨_, rfl⟩
      refine XW.fam (S' := (201, [(1, .int p), (0, .ref 41)], [], (sh, I8, L, R))) (M := mr_93) rfl (show mcode 93 200 = some (200, .iastore, 1, 0, 0, 0, _) from rfl) (Or.inr (Or.inr (Or.inr (Or.inl ⟨_, _, by rw [eI8]; exact sta_i c44 hin7, rfl⟩)))) ?_
      have hwI8 : wOK (mkT vV []) (wE sh R) (sh, I8, L, R) := by rw [eI8]; exact wOK_u2 (q := 44) (k := (mv).toNatClampNeg) (x := ln) wE_put hwI3 rfl (by show (0 : Int) ≤ _; omega) (by show _ ≤ (240 : Int); omega)
      have hfI8 : fresh (sh, I8, L, R) := by rw [eI8]; exact fresh_I hfI3 c44
      have v9 : I8 41 0 = ln := by rw [eI8, up2_ne (fun e => by cases e.1)]; exact v4
      have v10 : I8 41 5 = mv := by rw [eI8, up2_ne (fun e => by cases e.1)]; exact v5
      have v11 : I8 43 (mv).toNatClampNeg = 302 := by rw [eI8, up2_ne (fun e => by cases e.1)]; exact v6
      have v12 : I8 44 (mv).toNatClampNeg = ln := by rw [eI8]; exact up2_eq
      refine XW.ret (r := none) ⟨rfl, by decide +kernel⟩ ?_
      have eN : tS (fun k => (J 42 k).toInt) (J 41 0).toInt.toNat m = (J 41 0).toInt.toNat := by
        rw [hpos]
        have e9 := tE_rng (c := cS (fun k => (J 42 k).toInt)) (n := (J 41 0).toInt.toNat) (p := p.toInt.toNat)
        have e8 := e9.2 (by omega)
        omega
      have b8 : ∀ k, -128 ≤ ((fun k => (J 42 k).toInt)) k ∧ ((fun k => (J 42 k).toInt)) k ≤ 127 := fun k => by show -128 ≤ (J 42 k).toInt ∧ (J 42 k).toInt ≤ 127; rw [← hk42]; exact hw.2.2.1 42 k
      refine ⟨rfl, hfI8, hwI8, fun q k h => ?_, m, ⟨?_, by omega⟩, (tK_end b8).mpr eN, fun i hi => ?_⟩
      · show I8 q k = J q k
        rw [eI8, up2_ne (fun e => by rw [e.1] at h; cases h), eI3, up2_ne (fun e => by rw [e.1] at h; cases h)]
        exact hk q k h
      · show (I8 41 5).toInt = (m : Int)
        rw [eI8, up2_ne (fun e => by cases e.1), eI3, up2_ne (fun e => by cases e.1)]
        exact htk.1
      · show (I8 43 i).toInt = tK (fun k => (J 42 k).toInt) (J 41 0).toInt.toNat i ∧ (I8 44 i).toInt = (tS (fun k => (J 42 k).toInt) (J 41 0).toInt.toNat i : Int) ∧ tS (fun k => (J 42 k).toInt) (J 41 0).toInt.toNat i ≤ 240
        have sl := tS_le (b := (fun k => (J 42 k).toInt)) (n := (J 41 0).toInt.toNat) (i := i)
        have a1 : I8 43 i = I3 43 i := by rw [eI8, up2_ne (fun e => by cases e.1)]
        by_cases z : i = m
        · rw [a1, z, ← en, eI3, up2_eq, eI8, up2_eq, en, eN, (tK_end b8).mpr eN]
          exact ⟨rfl, by omega, by omega⟩
        · rw [a1, eI3, up2_ne (fun e => z (by rw [e.2, en])), eI8, up2_ne (fun e => z (by rw [e.2, en])), eI3, up2_ne (fun e => by cases e.1)]
          have q9 := htk.2 i (by omega)
          exact ⟨q9.1, q9.2, by omega⟩
    | false =>
      have gk1 : ¬ ((ln).toInt ≤ (p).toInt) := icF (c := .ge) (a := (p).toInt) (b := (ln).toInt) rfl rfl k1
      refine XW.fam (S' := (15, [(1, .int p), (0, .ref 41)], [], (sh, I, L, R))) (M := mr_93) rfl (show mcode 93 12 = some (12, .if_icmp .ge 164, 3, 176, 0, 0, _) from rfl) (Or.inr (Or.inl ⟨15, [], by simp [brn, k1], rfl⟩)) ?_
      refine XW.fam (S' := (16, [(1, .int p), (0, .ref 41)], [.ref 41], (sh, I, L, R))) (M := mr_93) rfl (show mcode 93 15 = some (15, .aload_n 0, 1, 0, 0, 0, _) from rfl) (Or.inl ⟨.ref 41, rfl, rfl⟩) ?_
      refine XW.fam (S' := (19, [(1, .int p), (0, .ref 41)], [.int (I 41 5)], (sh, I, L, R))) (M := mr_93) rfl (show mcode 93 16 = some (16, .getfield 64, 3, 5, 5, 0, _) from rfl) (Or.inr (Or.inr (Or.inr (Or.inr (Or.inr (Or.inr (Or.inr (Or.inl ⟨_, _, rfl, fl_ldI c41 (by decide) (by decide), rfl⟩)))))))) ?_
      rw [emv]
      refine XW.fam (S' := (22, [(1, .int p), (0, .ref 41)], [.int 240, .int mv], (sh, I, L, R))) (M := mr_93) rfl (show mcode 93 19 = some (19, .sipush 240, 3, 0, 0, 0, _) from rfl) (Or.inl ⟨.int 240, rfl, rfl⟩) ?_
      cases k13 : bcmp .ge mv 240 with
      | true =>
        have gk13 : 240 ≤ (mv).toInt := icT (c := .ge) (a := (mv).toInt) (b := 240) rfl (by decide) k13
        refine XW.fam (S' := (176, [(1, .int p), (0, .ref 41)], [], (sh, I, L, R))) (M := mr_93) rfl (show mcode 93 22 = some (22, .if_icmp .ge 154, 3, 176, 0, 0, _) from rfl) (Or.inr (Or.inl ⟨176, [], by simp [brn, k13], rfl⟩)) ?_
        refine XW.fam (S' := (177, [(1, .int p), (0, .ref 41)], [.ref 41], (sh, I, L, R))) (M := mr_93) rfl (show mcode 93 176 = some (176, .aload_n 0, 1, 0, 0, 0, _) from rfl) (Or.inl ⟨.ref 41, rfl, rfl⟩) ?_
        refine XW.fam (S' := (180, [(1, .int p), (0, .ref 41)], [.ref 43], (sh, I, L, R))) (M := mr_93) rfl (show mcode 93 177 = some (177, .getfield 15, 3, 5, 2, 0, _) from rfl) (Or.inr (Or.inr (Or.inr (Or.inr (Or.inr (Or.inr (Or.inr (Or.inl ⟨_, _, rfl, fl_ld c41 r41_2 (by decide) (by decide), rfl⟩)))))))) ?_
        refine XW.fam (S' := (181, [(1, .int p), (0, .ref 41)], [.ref 41, .ref 43], (sh, I, L, R))) (M := mr_93) rfl (show mcode 93 180 = some (180, .aload_n 0, 1, 0, 0, 0, _) from rfl) (Or.inl ⟨.ref 41, rfl, rfl⟩) ?_
        refine XW.fam (S' := (184, [(1, .int p), (0, .ref 41)], [.int (I 41 5), .ref 43], (sh, I, L, R))) (M := mr_93) rfl (show mcode 93 181 = some (181, .getfield 64, 3, 5, 5, 0, _) from rfl) (Or.inr (Or.inr (Or.inr (Or.inr (Or.inr (Or.inr (Or.inr (Or.inl ⟨_, _, rfl, fl_ldI c41 (by decide) (by decide), rfl⟩)))))))) ?_
        rw [emv]
        refine XW.fam (S' := (187, [(1, .int p), (0, .ref 41)], [.int 302, .int mv, .ref 43], (sh, I, L, R))) (M := mr_93) rfl (show mcode 93 184 = some (184, .sipush 302, 3, 0, 0, 0, _) from rfl) (Or.inl ⟨.int 302, rfl, rfl⟩) ?_
        have hin14 : inR mv 241 = true := inR_of (by omega) (by omega)
        obtain ⟨I15, eI15⟩ : ∃ X, X = up2 I 43 (mv).toNatClampNeg 302 := ⟨_, rfl⟩
        refine XW.fam (S' := (188, [(1, .int p), (0, .ref 41)], [], (sh, I15, L, R))) (M := mr_93) rfl (show mcode 93 187 = some (187, .iastore, 1, 0, 0, 0, _) from rfl) (Or.inr (Or.inr (Or.inr (Or.inl ⟨_, _, by rw [eI15]; exact sta_i c43 hin14, rfl⟩)))) ?_
        have xb := i32b (302)
        unfold lo32 hi32 at xb
        have hwI15 : wOK (mkT vV []) (wE sh R) (sh, I15, L, R) := by rw [eI15]; exact wOK_u2 (q := 43) (k := (mv).toNatClampNeg) (x := 302) wE_put hw rfl (by show ((-2147483648) : Int) ≤ _; omega) (by show _ ≤ (2147483647 : Int); omega)
        have hfI15 : fresh (sh, I15, L, R) := by rw [eI15]; exact fresh_I hf c43
        have v16 : I15 41 0 = ln := by rw [eI15, up2_ne (fun e => by cases e.1)]; exact eln
        have v17 : I15 41 5 = mv := by rw [eI15, up2_ne (fun e => by cases e.1)]; exact emv
        have v18 : I15 43 (mv).toNatClampNeg = 302 := by rw [eI15]; exact up2_eq
        refine XW.fam (S' := (189, [(1, .int p), (0, .ref 41)], [.ref 41], (sh, I15, L, R))) (M := mr_93) rfl (show mcode 93 188 = some (188, .aload_n 0, 1, 0, 0, 0, _) from rfl) (Or.inl ⟨.ref 41, rfl, rfl⟩) ?_
        refine XW.fam (S' := (192, [(1, .int p), (0, .ref 41)], [.ref 44], (sh, I15, L, R))) (M := mr_93) rfl (show mcode 93 189 = some (189, .getfield 19, 3, 5, 3, 0, _) from rfl) (Or.inr (Or.inr (Or.inr (Or.inr (Or.inr (Or.inr (Or.inr (Or.inl ⟨_, _, rfl, fl_ld c41 r41_3 (by decide) (by decide), rfl⟩)))))))) ?_
        refine XW.fam (S' := (193, [(1, .int p), (0, .ref 41)], [.ref 41, .ref 44], (sh, I15, L, R))) (M := mr_93) rfl (show mcode 93 192 = some (192, .aload_n 0, 1, 0, 0, 0, _) from rfl) (Or.inl ⟨.ref 41, rfl, rfl⟩) ?_
        refine XW.fam (S' := (196, [(1, .int p), (0, .ref 41)], [.int (I15 41 5), .ref 44], (sh, I15, L, R))) (M := mr_93) rfl (show mcode 93 193 = some (193, .getfield 64, 3, 5, 5, 0, _) from rfl) (Or.inr (Or.inr (Or.inr (Or.inr (Or.inr (Or.inr (Or.inr (Or.inl ⟨_, _, rfl, fl_ldI c41 (by decide) (by decide), rfl⟩)))))))) ?_
        rw [v17]
        refine XW.fam (S' := (197, [(1, .int p), (0, .ref 41)], [.ref 41, .int mv, .ref 44], (sh, I15, L, R))) (M := mr_93) rfl (show mcode 93 196 = some (196, .aload_n 0, 1, 0, 0, 0, _) from rfl) (Or.inl ⟨.ref 41, rfl, rfl⟩) ?_
        refine XW.fam (S' := (200, [(1, .int p), (0, .ref 41)], [.int (I15 41 0), .int mv, .ref 44], (sh, I15, L, R))) (M := mr_93) rfl (show mcode 93 197 = some (197, .getfield 28, 3, 5, 0, 0, _) from rfl) (Or.inr (Or.inr (Or.inr (Or.inr (Or.inr (Or.inr (Or.inr (Or.inl ⟨_, _, rfl, fl_ldI c41 (by decide) (by decide), rfl⟩)))))))) ?_
        rw [v16]
        have hin19 : inR mv 241 = true := inR_of (by omega) (by omega)
        obtain ⟨I20, eI20⟩ : ∃ X, X = up2 I15 44 (mv).toNatClampNeg ln := ⟨_, rfl⟩
        refine XW.fam (S' := (201, [(1, .int p), (0, .ref 41)], [], (sh, I20, L, R))) (M := mr_93) rfl (show mcode 93 200 = some (200, .iastore, 1, 0, 0, 0, _) from rfl) (Or.inr (Or.inr (Or.inr (Or.inl ⟨_, _, by rw [eI20]; exact sta_i c44 hin19, rfl⟩)))) ?_
        have hwI20 : wOK (mkT vV []) (wE sh R) (sh, I20, L, R) := by rw [eI20]; exact wOK_u2 (q := 44) (k := (mv).toNatClampNeg) (x := ln) wE_put hwI15 rfl (by show (0 : Int) ≤ _; omega) (by show _ ≤ (240 : Int); omega)
        have hfI20 : fresh (sh, I20, L, R) := by rw [eI20]; exact fresh_I hfI15 c44
        have v21 : I20 41 0 = ln := by rw [eI20, up2_ne (fun e => by cases e.1)]; exact v16
        have v22 : I20 41 5 = mv := by rw [eI20, up2_ne (fun e => by cases e.1)]; exact v17
        have v23 : I20 43 (mv).toNatClampNeg = 302 := by rw [eI20, up2_ne (fun e => by cases e.1)]; exact v18
        have v24 : I20 44 (mv).toNatClampNeg = ln := by rw [eI20]; exact up2_eq
        refine XW.ret (r := none) ⟨rfl, by decide +kernel⟩ ?_
        have eN : tS (fun k => (J 42 k).toInt) (J 41 0).toInt.toNat m = (J 41 0).toInt.toNat := by
          rw [hpos]
          have e9 := tE_rng (c := cS (fun k => (J 42 k).toInt)) (n := (J 41 0).toInt.toNat) (p := p.toInt.toNat)
          have e8 := e9.2 (by omega)
          omega
        have b8 : ∀ k, -128 ≤ ((fun k => (J 42 k).toInt)) k ∧ ((fun k => (J 42 k).toInt)) k ≤ 127 := fun k => by show -128 ≤ (J 42 k).toInt ∧ (J 42 k).toInt ≤ 127; rw [← hk42]; exact hw.2.2.1 42 k
        refine ⟨rfl, hfI20, hwI20, fun q k h => ?_, m, ⟨?_, by omega⟩, (tK_end b8).mpr eN, fun i hi => ?_⟩
        · show I20 q k = J q k
          rw [eI20, up2_ne (fun e => by rw [e.1] at h; cases h), eI15, up2_ne (fun e => by rw [e.1] at h; cases h)]
          exact hk q k h
        · show (I20 41 5).toInt = (m : Int)
          rw [eI20, up2_ne (fun e => by cases e.1), eI15, up2_ne (fun e => by cases e.1)]
          exact htk.1
        · show (I20 43 i).toInt = tK (fun k => (J 42 k).toInt) (J 41 0).toInt.toNat i ∧ (I20 44 i).toInt = (tS (fun k => (J 42 k).toInt) (J 41 0).toInt.toNat i : Int) ∧ tS (fun k => (J 42 k).toInt) (J 41 0).toInt.toNat i ≤ 240
          have sl := tS_le (b := (fun k => (J 42 k).toInt)) (n := (J 41 0).toInt.toNat) (i := i)
          have a1 : I20 43 i = I15 43 i := by rw [eI20, up2_ne (fun e => by cases e.1)]
          by_cases z : i = m
          · rw [a1, z, ← en, eI15, up2_eq, eI20, up2_eq, en, eN, (tK_end b8).mpr eN]
            exact ⟨rfl, by omega, by omega⟩
          · rw [a1, eI15, up2_ne (fun e => z (by rw [e.2, en])), eI20, up2_ne (fun e => z (by rw [e.2, en])), eI15, up2_ne (fun e => by cases e.1)]
            have q9 := htk.2 i (by omega)
            exact ⟨q9.1, q9.2, by omega⟩
      | false =>
        have gk13 : ¬ (240 ≤ (mv).toInt) := icF (c := .ge) (a := (mv).toInt) (b := 240) rfl (by decide) k13
        refine XW.fam (S' := (25, [(1, .int p), (0, .ref 41)], [], (sh, I, L, R))) (M := mr_93) rfl (show mcode 93 22 = some (22, .if_icmp .ge 154, 3, 176, 0, 0, _) from rfl) (Or.inr (Or.inl ⟨25, [], by simp [brn, k13], rfl⟩)) ?_
        refine XW.fam (S' := (26, [(1, .int p), (0, .ref 41)], [.int p], (sh, I, L, R))) (M := mr_93) rfl (show mcode 93 25 = some (25, .iload_n 1, 1, 0, 0, 0, _) from rfl) (Or.inl ⟨.int p, rfl, rfl⟩) ?_
        refine XW.fam (S' := (27, [(2, .int p), (1, .int p), (0, .ref 41)], [], (sh, I, L, R))) (M := mr_93) rfl (show mcode 93 26 = some (26, .istore_n 2, 1, 0, 0, 0, _) from rfl) (Or.inr (Or.inr (Or.inr (Or.inr (Or.inr (Or.inr (Or.inl ⟨_, [], _, rfl, rfl, rfl⟩))))))) ?_
        refine XW.fam (S' := (28, [(2, .int p), (1, .int p), (0, .ref 41)], [.ref 41], (sh, I, L, R))) (M := mr_93) rfl (show mcode 93 27 = some (27, .aload_n 0, 1, 0, 0, 0, _) from rfl) (Or.inl ⟨.ref 41, rfl, rfl⟩) ?_
        refine XW.fam (S' := (29, [(2, .int p), (1, .int p), (0, .ref 41)], [.int p, .ref 41], (sh, I, L, R))) (M := mr_93) rfl (show mcode 93 28 = some (28, .iload_n 1, 1, 0, 0, 0, _) from rfl) (Or.inl ⟨.int p, rfl, rfl⟩) ?_
        refine XW.call (d' := d + 1) (mc' := 0) (ms' := 0) (av := [.ref 41, .int p]) (rest := []) (M := mr_93) (Ma := mr_94) rfl (show mcode 93 29 = some (29, .invokevirtual 67, 3, 94, 0, 0, _) from rfl) rfl (by decide) (by decide) ⟨rfl, 41, _, rfl, c41⟩ rfl rfl (show 0 ≤ 8 by decide) (tc_let (d := d) hw (by rw [hk0]; omega)) (by omega) (Nat.zero_le _) (Nat.zero_le _) (fun rQ25 wQ25 Q25 => ?_)
        obtain ⟨hQ25, rfl⟩ := Q25
        rcases hQ25 with ⟨rfl, gQ25⟩ | ⟨rfl, gQ25⟩
        · skip
          have nL : ¬ tL (J 42 p.toInt.toNat).toInt = true := by have q9 := gQ25; rw [hk42] at q9; exact q9
          refine XW.fam (S' := (72, [(2, .int p), (1, .int p), (0, .ref 41)], [], (sh, I, L, R))) (M := mr_93) rfl (show mcode 93 32 = some (32, .ifCond .eq 40, 3, 72, 0, 0, _) from rfl) (Or.inr (Or.inl ⟨72, [], rfl, rfl⟩)) ?_
          refine XW.fam (S' := (73, [(2, .int p), (1, .int p), (0, .ref 41)], [.ref 41], (sh, I, L, R))) (M := mr_93) rfl (show mcode 93 72 = some (72, .aload_n 0, 1, 0, 0, 0, _) from rfl) (Or.inl ⟨.ref 41, rfl, rfl⟩) ?_
          refine XW.fam (S' := (74, [(2, .int p), (1, .int p), (0, .ref 41)], [.int p, .ref 41], (sh, I, L, R))) (M := mr_93) rfl (show mcode 93 73 = some (73, .iload_n 1, 1, 0, 0, 0, _) from rfl) (Or.inl ⟨.int p, rfl, rfl⟩) ?_
          refine XW.call (d' := d + 1) (mc' := 0) (ms' := 0) (av := [.ref 41, .int p]) (rest := []) (M := mr_93) (Ma := mr_99) rfl (show mcode 93 74 = some (74, .invokevirtual 79, 3, 99, 0, 0, _) from rfl) rfl (by decide) (by decide) ⟨rfl, 41, _, rfl, c41⟩ rfl rfl (show 0 ≤ 8 by decide) (tc_dig (d := d) hw (by rw [hk0]; omega)) (by omega) (Nat.zero_le _) (Nat.zero_le _) (fun rQ26 wQ26 Q26 => ?_)
          obtain ⟨hQ26, rfl⟩ := Q26
          rcases hQ26 with ⟨rfl, gQ26⟩ | ⟨rfl, gQ26⟩
          · skip
            have nD : ¬ tD (J 42 p.toInt.toNat).toInt = true := by have q9 := gQ26; rw [hk42] at q9; exact q9
            refine XW.fam (S' := (149, [(2, .int p), (1, .int p), (0, .ref 41)], [], (sh, I, L, R))) (M := mr_93) rfl (show mcode 93 77 = some (77, .ifCond .eq 72, 3, 149, 0, 0, _) from rfl) (Or.inr (Or.inl ⟨149, [], rfl, rfl⟩)) ?_
            refine XW.fam (S' := (150, [(2, .int p), (1, .int p), (0, .ref 41)], [.ref 41], (sh, I, L, R))) (M := mr_93) rfl (show mcode 93 149 = some (149, .aload_n 0, 1, 0, 0, 0, _) from rfl) (Or.inl ⟨.ref 41, rfl, rfl⟩) ?_
            refine XW.fam (S' := (151, [(2, .int p), (1, .int p), (0, .ref 41)], [.int p, .ref 41], (sh, I, L, R))) (M := mr_93) rfl (show mcode 93 150 = some (150, .iload_n 1, 1, 0, 0, 0, _) from rfl) (Or.inl ⟨.int p, rfl, rfl⟩) ?_
            refine XW.call (d' := d) (mc' := 0) (ms' := 0) (av := [.ref 41, .int p]) (rest := []) (M := mr_93) (Ma := mr_95) rfl (show mcode 93 151 = some (151, .invokevirtual 56, 3, 95, 0, 0, _) from rfl) rfl (by decide) (by decide) ⟨rfl, 41, _, rfl, c41⟩ rfl rfl (show 0 ≤ 8 by decide) (tc_byte (d := d) hw (by rw [hk0]; omega)) (by omega) (Nat.zero_le _) (Nat.zero_le _) (fun rQ27 wQ27 Q27 => ?_)
            obtain ⟨⟨yQ27, rfl, hyQ27⟩, rfl⟩ := Q27
            rw [hk42] at hyQ27
            have hyQ27 : yQ27.toInt = ubt (J 42 p.toInt.toNat).toInt := hyQ27
            refine XW.fam (S' := (156, [(2, .int p), (1, .int p), (0, .ref 41)], [.int 32, .int yQ27], (sh, I, L, R))) (M := mr_93) rfl (show mcode 93 154 = some (154, .bipush 32, 2, 0, 0, 0, _) from rfl) (Or.inl ⟨.int 32, rfl, rfl⟩) ?_
            cases k28 : bcmp .eq yQ27 32 with
            | true =>
              have gk28 : (yQ27).toInt = 32 := icT (c := .eq) (a := (yQ27).toInt) (b := 32) rfl (by decide) k28
              refine XW.fam (S' := (170, [(2, .int p), (1, .int p), (0, .ref 41)], [], (sh, I, L, R))) (M := mr_93) rfl (show mcode 93 156 = some (156, .if_icmp .eq 14, 3, 170, 0, 0, _) from rfl) (Or.inr (Or.inl ⟨170, [], by simp [brn, k28], rfl⟩)) ?_
              refine XW.fam (S' := (173, [(1, .int (p + Int32.ofInt 1)), (2, .int p), (0, .ref 41)], [], (sh, I, L, R))) (M := mr_93) rfl (show mcode 93 170 = some (170, .iinc 1 1, 3, 0, 0, 0, _) from rfl) (Or.inr (Or.inr (Or.inr (Or.inr (Or.inr (Or.inr (Or.inr (Or.inr (Or.inr ⟨1, 1, p, rfl, rfl, by decide, rfl⟩))))))))) ?_
              refine XW.fam (S' := (7, [(1, .int (p + Int32.ofInt 1)), (2, .int p), (0, .ref 41)], [], (sh, I, L, R))) (M := mr_93) rfl (show mcode 93 173 = some (173, .goto (-166), 3, 7, 0, 0, _) from rfl) (Or.inr (Or.inl ⟨7, [], rfl, rfl⟩)) ?_
              refine XW.sub (ls' := [(1, .int (p + Int32.ofInt 1)), (0, .ref 41)]) (List.forall_mem_cons.mpr ⟨List.mem_of_getElem? (i := 0) rfl, (List.forall_mem_cons.mpr ⟨List.mem_of_getElem? (i := 2) rfl, (fun _ h => absurd h List.not_mem_nil)⟩)⟩) ?_
              have eo := incO (m := p) (by omega) (by omega)
              refine ih (p + Int32.ofInt 1) m (by omega) (by omega) (by omega) hw hf hk htk (by omega) ?_
              have e9 : ((p + Int32.ofInt 1)).toInt.toNat = p.toInt.toNat + 1 := by omega
              have q5 : -128 ≤ (I 42 p.toInt.toNat).toInt ∧ (I 42 p.toInt.toNat).toInt ≤ 127 := hw.2.2.1 42 p.toInt.toNat
              rw [hk42] at q5
              have q7 : (J 42 p.toInt.toNat).toInt = 32 := by
                have q8 := hyQ27
                unfold ubt at q8
                split at q8 <;> omega
              rw [e9, hpos, tE_go (by omega) (show cS (fun k => (J 42 k).toInt) p.toInt.toNat = true from decide_eq_true q7)]
            | false =>
              have gk28 : ¬ ((yQ27).toInt = 32) := icF (c := .eq) (a := (yQ27).toInt) (b := 32) rfl (by decide) k28
              refine XW.fam (S' := (159, [(2, .int p), (1, .int p), (0, .ref 41)], [], (sh, I, L, R))) (M := mr_93) rfl (show mcode 93 156 = some (156, .if_icmp .eq 14, 3, 170, 0, 0, _) from rfl) (Or.inr (Or.inl ⟨159, [], by simp [brn, k28], rfl⟩)) ?_
              have nS : ¬ (J 42 p.toInt.toNat).toInt = 32 := fun q9 => by have q8 := hyQ27; unfold ubt at q8; rw [if_neg (by omega)] at q8; omega
              have hqe : tkE (fun k => (J 42 k).toInt) (J 41 0).toInt.toNat p.toInt.toNat = p.toInt.toNat + 1 := by
                show (if p.toInt.toNat < (J 41 0).toInt.toNat then (if tL (J 42 p.toInt.toNat).toInt = true then _ else if tD (J 42 p.toInt.toNat).toInt = true then _ else p.toInt.toNat + 1) else _) = _
                rw [if_pos (by omega), if_neg nL, if_neg nD]
              refine XW.fam (S' := (160, [(2, .int p), (1, .int p), (0, .ref 41)], [.ref 41], (sh, I, L, R))) (M := mr_93) rfl (show mcode 93 159 = some (159, .aload_n 0, 1, 0, 0, 0, _) from rfl) (Or.inl ⟨.ref 41, rfl, rfl⟩) ?_
              refine XW.fam (S' := (161, [(2, .int p), (1, .int p), (0, .ref 41)], [.ref 41, .ref 41], (sh, I, L, R))) (M := mr_93) rfl (show mcode 93 160 = some (160, .aload_n 0, 1, 0, 0, 0, _) from rfl) (Or.inl ⟨.ref 41, rfl, rfl⟩) ?_
              refine XW.fam (S' := (162, [(2, .int p), (1, .int p), (0, .ref 41)], [.int p, .ref 41, .ref 41], (sh, I, L, R))) (M := mr_93) rfl (show mcode 93 161 = some (161, .iload_n 1, 1, 0, 0, 0, _) from rfl) (Or.inl ⟨.int p, rfl, rfl⟩) ?_
              refine XW.call (d' := d) (mc' := 0) (ms' := 0) (av := [.ref 41, .int p]) (rest := [.ref 41]) (M := mr_93) (Ma := mr_95) rfl (show mcode 93 162 = some (162, .invokevirtual 56, 3, 95, 0, 0, _) from rfl) rfl (by decide) (by decide) ⟨rfl, 41, _, rfl, c41⟩ rfl rfl (show 1 ≤ 8 by decide) (tc_byte (d := d) hw (by rw [hk0]; omega)) (by omega) (Nat.zero_le _) (Nat.zero_le _) (fun rQ29 wQ29 Q29 => ?_)
              obtain ⟨⟨yQ29, rfl, hyQ29⟩, rfl⟩ := Q29
              rw [hk42] at hyQ29
              have hyQ29 : yQ29.toInt = ubt (J 42 p.toInt.toNat).toInt := hyQ29
              refine XW.fam (S' := (166, [(2, .int p), (1, .int p), (0, .ref 41)], [.int p, .int yQ29, .ref 41], (sh, I, L, R))) (M := mr_93) rfl (show mcode 93 165 = some (165, .iload_n 2, 1, 0, 0, 0, _) from rfl) (Or.inl ⟨.int p, rfl, rfl⟩) ?_
              refine XW.fam (S' := (167, [(2, .int p), (1, .int p), (0, .ref 41)], [.int 0, .int p, .int yQ29, .ref 41], (sh, I, L, R))) (M := mr_93) rfl (show mcode 93 166 = some (166, .iconst 0, 1, 0, 0, 0, _) from rfl) (Or.inl ⟨.int 0, rfl, rfl⟩) ?_
              have eS : tS (fun k => (J 42 k).toInt) (J 41 0).toInt.toNat m = p.toInt.toNat := by rw [hpos]; exact tE_stop (fun q => by have q1 : (J 42 p.toInt.toNat).toInt = 32 := of_decide_eq_true q.2; omega)
              have hkd : (yQ29 : Int32).toInt = tK (fun k => (J 42 k).toInt) (J 41 0).toInt.toNat m := by
                show _ = tkK (fun k => (J 42 k).toInt) (J 41 0).toInt.toNat (tS (fun k => (J 42 k).toInt) (J 41 0).toInt.toNat m)
                rw [eS]
                rw [hyQ29]
                show _ = (if p.toInt.toNat < (J 41 0).toInt.toNat then (if tL (J 42 p.toInt.toNat).toInt = true then _ else if tD (J 42 p.toInt.toNat).toInt = true then _ else (if (J 42 p.toInt.toNat).toInt < 0 then (J 42 p.toInt.toNat).toInt + 256 else (J 42 p.toInt.toNat).toInt)) else _)
                rw [if_pos (by omega), if_neg nL, if_neg nD]
                rfl
              refine XW.call (d' := d) (mc' := 0) (ms' := 0) (av := [.ref 41, .int yQ29, .int p, .int 0]) (rest := []) (M := mr_93) (Ma := mr_98) rfl (show mcode 93 167 = some (167, .invokevirtual 75, 3, 98, 0, 0, _) from rfl) rfl (by decide) (by decide) ⟨rfl, 41, _, rfl, c41⟩ rfl rfl (show 0 ≤ 8 by decide) (tc_addT (d := d) (J := J) (m := m) hw hf hk htk (by omega) hkd (by rw [eS]; omega) (by omega) (by decide)) (by omega) (Nat.zero_le _) (Nat.zero_le _) (fun rQ30 wQ30 Q30 => ?_)
              obtain ⟨hrQ30, hfQ30, hwQ30, hkQ30, htQ30⟩ := Q30
              subst hrQ30
              obtain ⟨shQ30, IQ30, LQ30, RQ30⟩ := wQ30
              obtain rfl : sh = shQ30 := hwQ30.2.2.2.1.symm
              obtain rfl : R = RQ30 := hwQ30.2.2.2.2.1.symm
              have hkQ30 : ∀ q k, inm mdK q k = false → IQ30 q k = J q k := hkQ30
              refine XW.fam (S' := (173, [(1, .int (p + Int32.ofInt 1)), (2, .int p), (0, .ref 41)], [], (sh, IQ30, LQ30, R))) (M := mr_93) rfl (show mcode 93 170 = some (170, .iinc 1 1, 3, 0, 0, 0, _) from rfl) (Or.inr (Or.inr (Or.inr (Or.inr (Or.inr (Or.inr (Or.inr (Or.inr (Or.inr ⟨1, 1, p, rfl, rfl, by decide, rfl⟩))))))))) ?_
              refine XW.fam (S' := (7, [(1, .int (p + Int32.ofInt 1)), (2, .int p), (0, .ref 41)], [], (sh, IQ30, LQ30, R))) (M := mr_93) rfl (show mcode 93 173 = some (173, .goto (-166), 3, 7, 0, 0, _) from rfl) (Or.inr (Or.inl ⟨7, [], rfl, rfl⟩)) ?_
              refine XW.sub (ls' := [(1, .int (p + Int32.ofInt 1)), (0, .ref 41)]) (List.forall_mem_cons.mpr ⟨List.mem_of_getElem? (i := 0) rfl, (List.forall_mem_cons.mpr ⟨List.mem_of_getElem? (i := 2) rfl, (fun _ h => absurd h List.not_mem_nil)⟩)⟩) ?_
              have eo := incO (m := p) (by omega) (by omega)
              refine ih (p + Int32.ofInt 1) (m + 1) (by omega) (by omega) (by omega) hwQ30 hfQ30 hkQ30 htQ30 (by omega) ?_
              show tE (cS (fun k => (J 42 k).toInt)) (J 41 0).toInt.toNat (tkE (fun k => (J 42 k).toInt) (J 41 0).toInt.toNat (tS (fun k => (J 42 k).toInt) (J 41 0).toInt.toNat m)) = _
              rw [eS, hqe]
              have e9 : ((p + Int32.ofInt 1)).toInt.toNat = p.toInt.toNat + 1 := by omega
              rw [e9]
          · skip
            have yD : tD (J 42 p.toInt.toNat).toInt = true := by have q9 := gQ26; rw [hk42] at q9; exact q9
            refine XW.fam (S' := (80, [(2, .int p), (1, .int p), (0, .ref 41)], [], (sh, I, L, R))) (M := mr_93) rfl (show mcode 93 77 = some (77, .ifCond .eq 72, 3, 149, 0, 0, _) from rfl) (Or.inr (Or.inl ⟨80, [], rfl, rfl⟩)) ?_
            refine XW.fam (S' := (81, [(2, .int p), (1, .int p), (0, .ref 41)], [.int 0], (sh, I, L, R))) (M := mr_93) rfl (show mcode 93 80 = some (80, .iconst 0, 1, 0, 0, 0, _) from rfl) (Or.inl ⟨.int 0, rfl, rfl⟩) ?_
            refine XW.fam (S' := (82, [(3, .int 0), (2, .int p), (1, .int p), (0, .ref 41)], [], (sh, I, L, R))) (M := mr_93) rfl (show mcode 93 81 = some (81, .istore_n 3, 1, 0, 0, 0, _) from rfl) (Or.inr (Or.inr (Or.inr (Or.inr (Or.inr (Or.inr (Or.inl ⟨_, [], _, rfl, rfl, rfl⟩))))))) ?_
            refine XW.sub (ls' := [(3, .int 0), (1, .int p), (2, .int p), (0, .ref 41)]) (List.forall_mem_cons.mpr ⟨List.mem_of_getElem? (i := 0) rfl, (List.forall_mem_cons.mpr ⟨List.mem_of_getElem? (i := 2) rfl, (List.forall_mem_cons.mpr ⟨List.mem_of_getElem? (i := 1) rfl, (List.forall_mem_cons.mpr ⟨List.mem_of_getElem? (i := 3) rfl, (fun _ h => absurd h List.not_mem_nil)⟩)⟩)⟩)⟩) ?_
            refine dig_lp (d := d) (J := J) (st := p) hw hk42 hk0 (by omega) (fun q nu hq hnu => ?_) 300 p 0 (by omega) (by omega) (by omega) ⟨by decide, by decide⟩ rfl
            have hqn : q.toInt.toNat = tE (cD (fun k => (J 42 k).toInt)) (J 41 0).toInt.toNat p.toInt.toNat := by omega
            have hqr := tkE_rng (b := (fun k => (J 42 k).toInt)) (n := (J 41 0).toInt.toNat) (p := p.toInt.toNat)
            have hqe : tkE (fun k => (J 42 k).toInt) (J 41 0).toInt.toNat p.toInt.toNat = q.toInt.toNat := by
              show (if p.toInt.toNat < (J 41 0).toInt.toNat then (if tL (J 42 p.toInt.toNat).toInt = true then _ else if tD (J 42 p.toInt.toNat).toInt = true then tE (cD (fun k => (J 42 k).toInt)) (J 41 0).toInt.toNat p.toInt.toNat else _) else _) = _
              rw [if_pos (by omega), if_neg nL, if_pos yD, hqn]
            have hq1 := hqr.1 (by omega)
            rw [hqe] at hq1
            have hqd := difS (a := q) (b := p) (by omega) (by omega)
            refine XW.fam (S' := (125, [(3, .int nu), (1, .int q), (2, .int p), (0, .ref 41)], [.ref 41], (sh, I, L, R))) (M := mr_93) rfl (show mcode 93 124 = some (124, .aload_n 0, 1, 0, 0, 0, _) from rfl) (Or.inl ⟨.ref 41, rfl, rfl⟩) ?_
            refine XW.fam (S' := (126, [(3, .int nu), (1, .int q), (2, .int p), (0, .ref 41)], [.int q, .ref 41], (sh, I, L, R))) (M := mr_93) rfl (show mcode 93 125 = some (125, .iload_n 1, 1, 0, 0, 0, _) from rfl) (Or.inl ⟨.int q, rfl, rfl⟩) ?_
            refine XW.fam (S' := (127, [(3, .int nu), (1, .int q), (2, .int p), (0, .ref 41)], [.int p, .int q, .ref 41], (sh, I, L, R))) (M := mr_93) rfl (show mcode 93 126 = some (126, .iload_n 2, 1, 0, 0, 0, _) from rfl) (Or.inl ⟨.int p, rfl, rfl⟩) ?_
            refine XW.fam (S' := (128, [(3, .int nu), (1, .int q), (2, .int p), (0, .ref 41)], [.int (q - p), .ref 41], (sh, I, L, R))) (M := mr_93) rfl (show mcode 93 127 = some (127, .isub, 1, 0, 0, 0, _) from rfl) (Or.inr (Or.inr (Or.inr (Or.inr (Or.inr (Or.inl ⟨_, rfl, rfl⟩)))))) ?_
            refine XW.fam (S' := (129, [(3, .int nu), (1, .int q), (2, .int p), (0, .ref 41)], [.int 4, .int (q - p), .ref 41], (sh, I, L, R))) (M := mr_93) rfl (show mcode 93 128 = some (128, .iconst 4, 1, 0, 0, 0, _) from rfl) (Or.inl ⟨.int 4, rfl, rfl⟩) ?_
            cases k31 : bcmp .le (q - p) 4 with
            | true =>
              have gk31 : ((q - p)).toInt ≤ 4 := icT (c := .le) (a := ((q - p)).toInt) (b := 4) rfl (by decide) k31
              refine XW.fam (S' := (138, [(3, .int nu), (1, .int q), (2, .int p), (0, .ref 41)], [.ref 41], (sh, I, L, R))) (M := mr_93) rfl (show mcode 93 129 = some (129, .if_icmp .le 9, 3, 138, 0, 0, _) from rfl) (Or.inr (Or.inl ⟨138, [.ref 41], by simp [brn, k31], rfl⟩)) ?_
              refine XW.fam (S' := (141, [(3, .int nu), (1, .int q), (2, .int p), (0, .ref 41)], [.int 300, .ref 41], (sh, I, L, R))) (M := mr_93) rfl (show mcode 93 138 = some (138, .sipush 300, 3, 0, 0, 0, _) from rfl) (Or.inl ⟨.int 300, rfl, rfl⟩) ?_
              refine XW.fam (S' := (142, [(3, .int nu), (1, .int q), (2, .int p), (0, .ref 41)], [.int p, .int 300, .ref 41], (sh, I, L, R))) (M := mr_93) rfl (show mcode 93 141 = some (141, .iload_n 2, 1, 0, 0, 0, _) from rfl) (Or.inl ⟨.int p, rfl, rfl⟩) ?_
              refine XW.fam (S' := (143, [(3, .int nu), (1, .int q), (2, .int p), (0, .ref 41)], [.int nu, .int p, .int 300, .ref 41], (sh, I, L, R))) (M := mr_93) rfl (show mcode 93 142 = some (142, .iload_n 3, 1, 0, 0, 0, _) from rfl) (Or.inl ⟨.int nu, rfl, rfl⟩) ?_
              have eS : tS (fun k => (J 42 k).toInt) (J 41 0).toInt.toNat m = p.toInt.toNat := by rw [hpos]; exact tE_stop (fun q => by have q1 : (J 42 p.toInt.toNat).toInt = 32 := of_decide_eq_true q.2; have q2 := tD_iff.mp yD; omega)
              have hkd : (300 : Int32).toInt = tK (fun k => (J 42 k).toInt) (J 41 0).toInt.toNat m := by
                show _ = tkK (fun k => (J 42 k).toInt) (J 41 0).toInt.toNat (tS (fun k => (J 42 k).toInt) (J 41 0).toInt.toNat m)
                rw [eS]
                show _ = (if p.toInt.toNat < (J 41 0).toInt.toNat then (if tL (J 42 p.toInt.toNat).toInt = true then _ else if tD (J 42 p.toInt.toNat).toInt = true then (if 4 < tE (cD (fun k => (J 42 k).toInt)) (J 41 0).toInt.toNat p.toInt.toNat - p.toInt.toNat then 301 else 300) else _) else _)
                rw [if_pos (by omega), if_neg nL, if_pos yD, ← hqn, if_neg (by omega)]
                rfl
              refine XW.call (d' := d) (mc' := 0) (ms' := 0) (av := [.ref 41, .int 300, .int p, .int nu]) (rest := []) (M := mr_93) (Ma := mr_98) rfl (show mcode 93 143 = some (143, .invokevirtual 75, 3, 98, 0, 0, _) from rfl) rfl (by decide) (by decide) ⟨rfl, 41, _, rfl, c41⟩ rfl rfl (show 0 ≤ 8 by decide) (tc_addT (d := d) (J := J) (m := m) hw hf hk htk (by omega) hkd (by rw [eS]; omega) (by omega) (by omega)) (by omega) (Nat.zero_le _) (Nat.zero_le _) (fun rQ32 wQ32 Q32 => ?_)
              obtain ⟨hrQ32, hfQ32, hwQ32, hkQ32, htQ32⟩ := Q32
              subst hrQ32
              obtain ⟨shQ32, IQ32, LQ32, RQ32⟩ := wQ32
              obtain rfl : sh = shQ32 := hwQ32.2.2.2.1.symm
              obtain rfl : R = RQ32 := hwQ32.2.2.2.2.1.symm
              have hkQ32 : ∀ q k, inm mdK q k = false → IQ32 q k = J q k := hkQ32
              refine XW.fam (S' := (173, [(3, .int nu), (1, .int q), (2, .int p), (0, .ref 41)], [], (sh, IQ32, LQ32, R))) (M := mr_93) rfl (show mcode 93 146 = some (146, .goto 27, 3, 173, 0, 0, _) from rfl) (Or.inr (Or.inl ⟨173, [], rfl, rfl⟩)) ?_
              refine XW.fam (S' := (7, [(3, .int nu), (1, .int q), (2, .int p), (0, .ref 41)], [], (sh, IQ32, LQ32, R))) (M := mr_93) rfl (show mcode 93 173 = some (173, .goto (-166), 3, 7, 0, 0, _) from rfl) (Or.inr (Or.inl ⟨7, [], rfl, rfl⟩)) ?_
              refine XW.sub (ls' := [(1, .int q), (0, .ref 41)]) (List.forall_mem_cons.mpr ⟨List.mem_of_getElem? (i := 1) rfl, (List.forall_mem_cons.mpr ⟨List.mem_of_getElem? (i := 3) rfl, (fun _ h => absurd h List.not_mem_nil)⟩)⟩) ?_
              refine ih q (m + 1) (by omega) (by omega) (by omega) hwQ32 hfQ32 hkQ32 htQ32 (by omega) ?_
              show tE (cS (fun k => (J 42 k).toInt)) (J 41 0).toInt.toNat (tkE (fun k => (J 42 k).toInt) (J 41 0).toInt.toNat (tS (fun k => (J 42 k).toInt) (J 41 0).toInt.toNat m)) = _
              rw [eS, hqe]
            | false =>
              have gk31 : ¬ (((q - p)).toInt ≤ 4) := icF (c := .le) (a := ((q - p)).toInt) (b := 4) rfl (by decide) k31
              refine XW.fam (S' := (132, [(3, .int nu), (1, .int q), (2, .int p), (0, .ref 41)], [.ref 41], (sh, I, L, R))) (M := mr_93) rfl (show mcode 93 129 = some (129, .if_icmp .le 9, 3, 138, 0, 0, _) from rfl) (Or.inr (Or.inl ⟨132, [.ref 41], by simp [brn, k31], rfl⟩)) ?_
              refine XW.fam (S' := (135, [(3, .int nu), (1, .int q), (2, .int p), (0, .ref 41)], [.int 301, .ref 41], (sh, I, L, R))) (M := mr_93) rfl (show mcode 93 132 = some (132, .sipush 301, 3, 0, 0, 0, _) from rfl) (Or.inl ⟨.int 301, rfl, rfl⟩) ?_
              refine XW.fam (S' := (141, [(3, .int nu), (1, .int q), (2, .int p), (0, .ref 41)], [.int 301, .ref 41], (sh, I, L, R))) (M := mr_93) rfl (show mcode 93 135 = some (135, .goto 6, 3, 141, 0, 0, _) from rfl) (Or.inr (Or.inl ⟨141, [.int 301, .ref 41], rfl, rfl⟩)) ?_
              refine XW.fam (S' := (142, [(3, .int nu), (1, .int q), (2, .int p), (0, .ref 41)], [.int p, .int 301, .ref 41], (sh, I, L, R))) (M := mr_93) rfl (show mcode 93 141 = some (141, .iload_n 2, 1, 0, 0, 0, _) from rfl) (Or.inl ⟨.int p, rfl, rfl⟩) ?_
              refine XW.fam (S' := (143, [(3, .int nu), (1, .int q), (2, .int p), (0, .ref 41)], [.int nu, .int p, .int 301, .ref 41], (sh, I, L, R))) (M := mr_93) rfl (show mcode 93 142 = some (142, .iload_n 3, 1, 0, 0, 0, _) from rfl) (Or.inl ⟨.int nu, rfl, rfl⟩) ?_
              have eS : tS (fun k => (J 42 k).toInt) (J 41 0).toInt.toNat m = p.toInt.toNat := by rw [hpos]; exact tE_stop (fun q => by have q1 : (J 42 p.toInt.toNat).toInt = 32 := of_decide_eq_true q.2; have q2 := tD_iff.mp yD; omega)
              have hkd : (301 : Int32).toInt = tK (fun k => (J 42 k).toInt) (J 41 0).toInt.toNat m := by
                show _ = tkK (fun k => (J 42 k).toInt) (J 41 0).toInt.toNat (tS (fun k => (J 42 k).toInt) (J 41 0).toInt.toNat m)
                rw [eS]
                show _ = (if p.toInt.toNat < (J 41 0).toInt.toNat then (if tL (J 42 p.toInt.toNat).toInt = true then _ else if tD (J 42 p.toInt.toNat).toInt = true then (if 4 < tE (cD (fun k => (J 42 k).toInt)) (J 41 0).toInt.toNat p.toInt.toNat - p.toInt.toNat then 301 else 300) else _) else _)
                rw [if_pos (by omega), if_neg nL, if_pos yD, ← hqn, if_pos (by omega)]
                rfl
              refine XW.call (d' := d) (mc' := 0) (ms' := 0) (av := [.ref 41, .int 301, .int p, .int nu]) (rest := []) (M := mr_93) (Ma := mr_98) rfl (show mcode 93 143 = some (143, .invokevirtual 75, 3, 98, 0, 0, _) from rfl) rfl (by decide) (by decide) ⟨rfl, 41, _, rfl, c41⟩ rfl rfl (show 0 ≤ 8 by decide) (tc_addT (d := d) (J := J) (m := m) hw hf hk htk (by omega) hkd (by rw [eS]; omega) (by omega) (by omega)) (by omega) (Nat.zero_le _) (Nat.zero_le _) (fun rQ33 wQ33 Q33 => ?_)
              obtain ⟨hrQ33, hfQ33, hwQ33, hkQ33, htQ33⟩ := Q33
              subst hrQ33
              obtain ⟨shQ33, IQ33, LQ33, RQ33⟩ := wQ33
              obtain rfl : sh = shQ33 := hwQ33.2.2.2.1.symm
              obtain rfl : R = RQ33 := hwQ33.2.2.2.2.1.symm
              have hkQ33 : ∀ q k, inm mdK q k = false → IQ33 q k = J q k := hkQ33
              refine XW.fam (S' := (173, [(3, .int nu), (1, .int q), (2, .int p), (0, .ref 41)], [], (sh, IQ33, LQ33, R))) (M := mr_93) rfl (show mcode 93 146 = some (146, .goto 27, 3, 173, 0, 0, _) from rfl) (Or.inr (Or.inl ⟨173, [], rfl, rfl⟩)) ?_
              refine XW.fam (S' := (7, [(3, .int nu), (1, .int q), (2, .int p), (0, .ref 41)], [], (sh, IQ33, LQ33, R))) (M := mr_93) rfl (show mcode 93 173 = some (173, .goto (-166), 3, 7, 0, 0, _) from rfl) (Or.inr (Or.inl ⟨7, [], rfl, rfl⟩)) ?_
              refine XW.sub (ls' := [(1, .int q), (0, .ref 41)]) (List.forall_mem_cons.mpr ⟨List.mem_of_getElem? (i := 1) rfl, (List.forall_mem_cons.mpr ⟨List.mem_of_getElem? (i := 3) rfl, (fun _ h => absurd h List.not_mem_nil)⟩)⟩) ?_
              refine ih q (m + 1) (by omega) (by omega) (by omega) hwQ33 hfQ33 hkQ33 htQ33 (by omega) ?_
              show tE (cS (fun k => (J 42 k).toInt)) (J 41 0).toInt.toNat (tkE (fun k => (J 42 k).toInt) (J 41 0).toInt.toNat (tS (fun k => (J 42 k).toInt) (J 41 0).toInt.toNat m)) = _
              rw [eS, hqe]
        · skip
          have yL : tL (J 42 p.toInt.toNat).toInt = true := by have q9 := gQ25; rw [hk42] at q9; exact q9
          refine XW.fam (S' := (35, [(2, .int p), (1, .int p), (0, .ref 41)], [], (sh, I, L, R))) (M := mr_93) rfl (show mcode 93 32 = some (32, .ifCond .eq 40, 3, 72, 0, 0, _) from rfl) (Or.inr (Or.inl ⟨35, [], rfl, rfl⟩)) ?_
          refine XW.sub (ls' := [(1, .int p), (2, .int p), (0, .ref 41)]) (List.forall_mem_cons.mpr ⟨List.mem_of_getElem? (i := 1) rfl, (List.forall_mem_cons.mpr ⟨List.mem_of_getElem? (i := 0) rfl, (List.forall_mem_cons.mpr ⟨List.mem_of_getElem? (i := 2) rfl, (fun _ h => absurd h List.not_mem_nil)⟩)⟩)⟩) ?_
          refine let_lp (d := d) (J := J) (st := p) hw hk42 hk0 (by omega) (fun q hq => ?_) 300 p (by omega) (by omega) (by omega) rfl
          have hqn : q.toInt.toNat = tE (cL (fun k => (J 42 k).toInt)) (J 41 0).toInt.toNat p.toInt.toNat := by omega
          have hqr := tkE_rng (b := (fun k => (J 42 k).toInt)) (n := (J 41 0).toInt.toNat) (p := p.toInt.toNat)
          have hqe : tkE (fun k => (J 42 k).toInt) (J 41 0).toInt.toNat p.toInt.toNat = q.toInt.toNat := by
            show (if p.toInt.toNat < (J 41 0).toInt.toNat then (if tL (J 42 p.toInt.toNat).toInt = true then tE (cL (fun k => (J 42 k).toInt)) (J 41 0).toInt.toNat p.toInt.toNat else _) else _) = _
            rw [if_pos (by omega), if_pos yL, hqn]
          have hq1 := hqr.1 (by omega)
          rw [hqe] at hq1
          refine XW.fam (S' := (58, [(1, .int q), (2, .int p), (0, .ref 41)], [.ref 41], (sh, I, L, R))) (M := mr_93) rfl (show mcode 93 57 = some (57, .aload_n 0, 1, 0, 0, 0, _) from rfl) (Or.inl ⟨.ref 41, rfl, rfl⟩) ?_
          refine XW.fam (S' := (59, [(1, .int q), (2, .int p), (0, .ref 41)], [.ref 41, .ref 41], (sh, I, L, R))) (M := mr_93) rfl (show mcode 93 58 = some (58, .aload_n 0, 1, 0, 0, 0, _) from rfl) (Or.inl ⟨.ref 41, rfl, rfl⟩) ?_
          refine XW.fam (S' := (60, [(1, .int q), (2, .int p), (0, .ref 41)], [.int p, .ref 41, .ref 41], (sh, I, L, R))) (M := mr_93) rfl (show mcode 93 59 = some (59, .iload_n 2, 1, 0, 0, 0, _) from rfl) (Or.inl ⟨.int p, rfl, rfl⟩) ?_
          refine XW.fam (S' := (61, [(1, .int q), (2, .int p), (0, .ref 41)], [.int q, .int p, .ref 41, .ref 41], (sh, I, L, R))) (M := mr_93) rfl (show mcode 93 60 = some (60, .iload_n 1, 1, 0, 0, 0, _) from rfl) (Or.inl ⟨.int q, rfl, rfl⟩) ?_
          have hlt : ∀ k : Nat, (k : Int) < q.toInt - p.toInt → 97 ≤ (I 42 (p.toInt.toNat + k)).toInt ∧ (I 42 (p.toInt.toNat + k)).toInt ≤ 122 := by
            intro k hk1
            have q9 := (tE_in (c := cL (fun k => (J 42 k).toInt)) (n := (J 41 0).toInt.toNat) 300 p.toInt.toNat (p.toInt.toNat + k) (by omega) (by omega) (by omega)).2
            rw [hk42]
            exact tL_iff.mp q9
          refine XW.call (d' := d + 6) (mc' := 0) (ms' := 0) (av := [.ref 41, .int p, .int q]) (rest := [.ref 41]) (M := mr_93) (Ma := mr_96) rfl (show mcode 93 61 = some (61, .invokevirtual 71, 3, 96, 0, 0, _) from rfl) rfl (by decide) (by decide) ⟨rfl, 41, _, rfl, c41⟩ rfl rfl (show 1 ≤ 8 by decide) (tc_word (d := d) hw (by rw [hk0]; omega) hlt) (by omega) (Nat.zero_le _) (Nat.zero_le _) (fun rQ34 wQ34 Q34 => ?_)
          obtain ⟨⟨yQ34, rfl, hyQ34⟩, rfl⟩ := Q34
          have eB : (fun k => (I 42 k).toInt) = (fun k => (J 42 k).toInt) := funext (fun k => by rw [hk42])
          rw [eB] at hyQ34
          refine XW.fam (S' := (65, [(1, .int q), (2, .int p), (0, .ref 41)], [.int p, .int yQ34, .ref 41], (sh, I, L, R))) (M := mr_93) rfl (show mcode 93 64 = some (64, .iload_n 2, 1, 0, 0, 0, _) from rfl) (Or.inl ⟨.int p, rfl, rfl⟩) ?_
          refine XW.fam (S' := (66, [(1, .int q), (2, .int p), (0, .ref 41)], [.int 0, .int p, .int yQ34, .ref 41], (sh, I, L, R))) (M := mr_93) rfl (show mcode 93 65 = some (65, .iconst 0, 1, 0, 0, 0, _) from rfl) (Or.inl ⟨.int 0, rfl, rfl⟩) ?_
          have eS : tS (fun k => (J 42 k).toInt) (J 41 0).toInt.toNat m = p.toInt.toNat := by rw [hpos]; exact tE_stop (fun q => by have q1 : (J 42 p.toInt.toNat).toInt = 32 := of_decide_eq_true q.2; have q2 := tL_iff.mp yL; omega)
          have hkd : (yQ34 : Int32).toInt = tK (fun k => (J 42 k).toInt) (J 41 0).toInt.toNat m := by
            show _ = tkK (fun k => (J 42 k).toInt) (J 41 0).toInt.toNat (tS (fun k => (J 42 k).toInt) (J 41 0).toInt.toNat m)
            rw [eS]
            rw [hyQ34]
            show _ = (if p.toInt.toNat < (J 41 0).toInt.toNat then (if tL (J 42 p.toInt.toNat).toInt = true then wdK (fun k => (J 42 k).toInt) p.toInt.toNat (tE (cL (fun k => (J 42 k).toInt)) (J 41 0).toInt.toNat p.toInt.toNat) else _) else _)
            rw [if_pos (by omega), if_pos yL, ← hqn]
          refine XW.call (d' := d) (mc' := 0) (ms' := 0) (av := [.ref 41, .int yQ34, .int p, .int 0]) (rest := []) (M := mr_93) (Ma := mr_98) rfl (show mcode 93 66 = some (66, .invokevirtual 75, 3, 98, 0, 0, _) from rfl) rfl (by decide) (by decide) ⟨rfl, 41, _, rfl, c41⟩ rfl rfl (show 0 ≤ 8 by decide) (tc_addT (d := d) (J := J) (m := m) hw hf hk htk (by omega) hkd (by rw [eS]; omega) (by omega) (by decide)) (by omega) (Nat.zero_le _) (Nat.zero_le _) (fun rQ35 wQ35 Q35 => ?_)
          obtain ⟨hrQ35, hfQ35, hwQ35, hkQ35, htQ35⟩ := Q35
          subst hrQ35
          obtain ⟨shQ35, IQ35, LQ35, RQ35⟩ := wQ35
          obtain rfl : sh = shQ35 := hwQ35.2.2.2.1.symm
          obtain rfl : R = RQ35 := hwQ35.2.2.2.2.1.symm
          have hkQ35 : ∀ q k, inm mdK q k = false → IQ35 q k = J q k := hkQ35
          refine XW.fam (S' := (173, [(1, .int q), (2, .int p), (0, .ref 41)], [], (sh, IQ35, LQ35, R))) (M := mr_93) rfl (show mcode 93 69 = some (69, .goto 104, 3, 173, 0, 0, _) from rfl) (Or.inr (Or.inl ⟨173, [], rfl, rfl⟩)) ?_
          refine XW.fam (S' := (7, [(1, .int q), (2, .int p), (0, .ref 41)], [], (sh, IQ35, LQ35, R))) (M := mr_93) rfl (show mcode 93 173 = some (173, .goto (-166), 3, 7, 0, 0, _) from rfl) (Or.inr (Or.inl ⟨7, [], rfl, rfl⟩)) ?_
          refine XW.sub (ls' := [(1, .int q), (0, .ref 41)]) (List.forall_mem_cons.mpr ⟨List.mem_of_getElem? (i := 0) rfl, (List.forall_mem_cons.mpr ⟨List.mem_of_getElem? (i := 2) rfl, (fun _ h => absurd h List.not_mem_nil)⟩)⟩) ?_
          refine ih q (m + 1) (by omega) (by omega) (by omega) hwQ35 hfQ35 hkQ35 htQ35 (by omega) ?_
          show tE (cS (fun k => (J 42 k).toInt)) (J 41 0).toInt.toNat (tkE (fun k => (J 42 k).toInt) (J 41 0).toInt.toNat (tS (fun k => (J 42 k).toInt) (J 41 0).toInt.toNat m)) = _
          rw [eS, hqe]
theorem tc_split {d : Nat} {sh : List mE} {I : Nat → Nat → Int32} {L : Nat → Nat → Int64} {R : Nat → Nat → Option Nat} (hw : wOK (mkT vV []) (wE sh R) (sh, I, L, R)) (hf : fresh (sh, I, L, R)) : Tc 93 (d + 7) 0 0 [.ref 41] (sh, I, L, R) (fun r w' => r = none ∧ fresh w' ∧ wOK (mkT vV []) (wE sh R) w' ∧ (∀ q k, inm mdK q k = false → w'.2.1 q k = I q k) ∧ ∃ N, tvC w'.2.1 (tK (fun k => (I 42 k).toInt) (I 41 0).toInt.toNat) (tS (fun k => (I 42 k).toInt) (I 41 0).toInt.toNat) N) := by
  have c41 : sh[41]? = some (.inr 5) := hw.1 41 _ rfl
  have z0 : (0 : Int32).toInt = 0 := rfl
  have hl0 : 0 ≤ (I 41 0).toInt ∧ (I 41 0).toInt ≤ 240 := hw.2.2.1 41 0
  refine Tc.of mr_93 rfl (show 1 ≤ mr_93.2.2.2.1 by decide) ?_
  refine XW.fam (S' := (1, [(0, .ref 41)], [.ref 41], (sh, I, L, R))) (M := mr_93) rfl (show mcode 93 0 = some (0, .aload_n 0, 1, 0, 0, 0, _) from rfl) (Or.inl ⟨.ref 41, rfl, rfl⟩) ?_
  refine XW.fam (S' := (2, [(0, .ref 41)], [.int 0, .ref 41], (sh, I, L, R))) (M := mr_93) rfl (show mcode 93 1 = some (1, .iconst 0, 1, 0, 0, 0, _) from rfl) (Or.inl ⟨.int 0, rfl, rfl⟩) ?_
  obtain ⟨I1, eI1⟩ : ∃ X, X = up2 I 41 5 0 := ⟨_, rfl⟩
  refine XW.fam (S' := (5, [(0, .ref 41)], [], (sh, I1, L, R))) (M := mr_93) rfl (show mcode 93 2 = some (2, .putfield 64, 3, 5, 5, 0, _) from rfl) (Or.inr (Or.inr (Or.inr (Or.inr (Or.inr (Or.inr (Or.inr (Or.inr (Or.inl ⟨_, _, _, rfl, by rw [eI1]; exact stf_I c41 (by decide) (by decide) (by decide), rfl⟩))))))))) ?_
  have hwI1 : wOK (mkT vV []) (wE sh R) (sh, I1, L, R) := by rw [eI1]; exact wOK_u2 (q := 41) (k := 5) (x := 0) wE_put hw rfl (by show (0 : Int) ≤ _; omega) (by show _ ≤ (240 : Int); omega)
  have hfI1 : fresh (sh, I1, L, R) := by rw [eI1]; exact fresh_I hf c41
  have v2 : I1 41 5 = 0 := by rw [eI1]; exact up2_eq
  refine XW.fam (S' := (6, [(0, .ref 41)], [.int 0], (sh, I1, L, R))) (M := mr_93) rfl (show mcode 93 5 = some (5, .iconst 0, 1, 0, 0, 0, _) from rfl) (Or.inl ⟨.int 0, rfl, rfl⟩) ?_
  refine XW.fam (S' := (7, [(1, .int 0), (0, .ref 41)], [], (sh, I1, L, R))) (M := mr_93) rfl (show mcode 93 6 = some (6, .istore_n 1, 1, 0, 0, 0, _) from rfl) (Or.inr (Or.inr (Or.inr (Or.inr (Or.inr (Or.inr (Or.inl ⟨_, [], _, rfl, rfl, rfl⟩))))))) ?_
  refine XW.sub (ls' := [(1, .int 0), (0, .ref 41)]) (List.forall_mem_cons.mpr ⟨List.mem_of_getElem? (i := 0) rfl, (List.forall_mem_cons.mpr ⟨List.mem_of_getElem? (i := 1) rfl, (fun _ h => absurd h List.not_mem_nil)⟩)⟩) ?_
  exact split_lp (d := d) (J := I) 300 0 0 (by decide) (by omega) (by omega) hwI1 hfI1 (fun q k h => by rw [eI1, up2_ne (fun e => by rw [e.1, e.2] at h; cases h)]) ⟨by rw [eI1, up2_eq]; rfl, fun t ht => absurd ht (Nat.not_lt_zero _)⟩ (by decide) rfl
