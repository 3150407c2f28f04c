/-! ===== rule of our side (wip/genrulec.py) ===== -/
def QnA (I : Nat → Nat → Int32) (day : Int32) (sh : List mE) (L : Nat → Nat → Int64) (R : Nat → Nat → Option Nat) (r : Option Value) (w' : mW) : Prop := Qn (sh, I, L, R) r w' ∧ (∃ y : Int32, r = some (.int y) ∧ y.toInt = (I 47 3).toInt) ∧ (w'.2.1 47 3).toInt = (I 47 3).toInt + 1 ∧ (∀ k, w'.2.1 48 k = up2 I 48 (I 47 3).toNatClampNeg (I 1 0) 48 k) ∧ (∀ k, w'.2.1 49 k = up2 I 49 (I 47 3).toNatClampNeg day 49 k) ∧ w'.2.1 41 0 = I 41 0
theorem tc_addQ {d : Nat} {sh : List mE} {I : Nat → Nat → Int32} {L : Nat → Nat → Int64} {R : Nat → Nat → Option Nat} {day : Int32} (hw : wOK (mkT vV []) (wE sh R) (sh, I, L, R)) (hf : fresh (sh, I, L, R)) (hd0 : 0 ≤ day.toInt) (hd1 : day.toInt ≤ 700) (hl20 : (I 47 3).toInt < 20) : Tc 112 (d + 2) 1 240 [.ref 47, .int day, .ref 41] (sh, I, L, R) (QnA I day sh L R) := by
  have c47 : sh[47]? = some (.inr 6) := hw.1 47 _ rfl
  have c1 : sh[1]? = some (.inr 1) := hw.1 1 _ rfl
  have c41 : sh[41]? = some (.inr 5) := hw.1 41 _ rfl
  have c48 : sh[48]? = some (.inl (.int, 20)) := hw.1 48 _ rfl
  have c49 : sh[49]? = some (.inl (.int, 20)) := hw.1 49 _ rfl
  have c50 : sh[50]? = some (.inl (.array .int, 20)) := hw.1 50 _ rfl
  have c46 : sh[46]? = some (.inl (.int, 240)) := hw.1 46 _ rfl
  have r4 : R 47 4 = some 48 := hw.2.1 47 4 _ rfl
  have r5 : R 47 5 = some 49 := hw.2.1 47 5 _ rfl
  have r6 : R 47 6 = some 50 := hw.2.1 47 6 _ rfl
  have r0 : R 47 0 = some 1 := hw.2.1 47 0 _ rfl
  have r9 : R 41 9 = some 46 := hw.2.1 41 9 _ rfl
  have hm : 0 ≤ (I 47 3).toInt ∧ (I 47 3).toInt ≤ 20 := hw.2.2.1 47 3
  have ht : 0 ≤ (I 1 0).toInt ∧ (I 1 0).toInt ≤ 700 := hw.2.2.1 1 0
  have hs : 0 ≤ (I 41 10).toInt ∧ (I 41 10).toInt ≤ 240 := hw.2.2.1 41 10
  have hl := sh_len hw
  refine Tc.of mr_112 rfl (show 3 ≤ mr_112.2.2.2.1 by decide) ?_
  refine XW.fam (S' := (1, [(0, .ref 47), (1, .int day), (2, .ref 41)], [.ref 47], (sh, I, L, R))) (M := mr_112) rfl (show mcode 112 0 = some (0, .aload_n 0, 1, 0, 0, 0, _) from rfl) (Or.inl ⟨.ref 47, rfl, rfl⟩) ?_
  refine XW.fam (S' := (4, [(0, .ref 47), (1, .int day), (2, .ref 41)], [.int (I 47 3)], (sh, I, L, R))) (M := mr_112) rfl (show mcode 112 1 = some (1, .getfield 41, 3, 6, 3, 0, _) from rfl) (Or.inr (Or.inr (Or.inr (Or.inr (Or.inr (Or.inr (Or.inr (Or.inl ⟨_, _, rfl, fl_ldI c47 (by decide) (by decide), rfl⟩)))))))) ?_
  refine XW.fam (S' := (6, [(0, .ref 47), (1, .int day), (2, .ref 41)], [.int 20, .int (I 47 3)], (sh, I, L, R))) (M := mr_112) rfl (show mcode 112 4 = some (4, .bipush 20, 2, 0, 0, 0, _) from rfl) (Or.inl ⟨.int 20, rfl, rfl⟩) ?_
  by_cases c : bcmp .lt (I 47 3) 20 = false
  · skip
    refine XW.fam (S' := (9, [(0, .ref 47), (1, .int day), (2, .ref 41)], [], (sh, I, L, R))) (M := mr_112) rfl (show mcode 112 6 = some (6, .if_icmp .lt 6, 3, 12, 0, 0, _) from rfl) (Or.inr (Or.inl ⟨9, [], by simp [brn, c], rfl⟩)) ?_
    refine XW.fam (S' := (11, [(0, .ref 47), (1, .int day), (2, .ref 41)], [.int (-3)], (sh, I, L, R))) (M := mr_112) rfl (show mcode 112 9 = some (9, .bipush (-3), 2, 0, 0, 0, _) from rfl) (Or.inl ⟨.int (-3), rfl, rfl⟩) ?_
    exact absurd hl20 (icF (c := .lt) (a := (I 47 3).toInt) (b := 20) rfl (by decide) c)
  replace c : bcmp .lt (I 47 3) 20 = true := by cases h : bcmp .lt (I 47 3) 20 with | true => rfl | false => exact absurd h c
  have hlt : (I 47 3).toInt < 20 := by
    simp only [bcmp, decide_eq_true_eq, Int32.lt_iff_toInt_lt] at c
    exact c
  have hin : inR (I 47 3) 20 = true := inR_of hm.1 (by omega)
  have hcl : (I 47 3).toNatClampNeg = (I 47 3).toInt.toNat := rfl
  have hw1 := wOK_u2 (q := 48) (k := (I 47 3).toNatClampNeg) (x := I 1 0) wE_put hw rfl ht.1 ht.2
  have hw2 := wOK_u2 (q := 49) (k := (I 47 3).toNatClampNeg) (x := day) wE_put hw1 rfl hd0 hd1
  refine XW.fam (S' := (12, [(0, .ref 47), (1, .int day), (2, .ref 41)], [], (sh, I, L, R))) (M := mr_112) rfl (show mcode 112 6 = some (6, .if_icmp .lt 6, 3, 12, 0, 0, _) from rfl) (Or.inr (Or.inl ⟨12, [], by simp [brn, c], rfl⟩)) ?_
  refine XW.fam (S' := (13, [(0, .ref 47), (1, .int day), (2, .ref 41)], [.ref 47], (sh, I, L, R))) (M := mr_112) rfl (show mcode 112 12 = some (12, .aload_n 0, 1, 0, 0, 0, _) from rfl) (Or.inl ⟨.ref 47, rfl, rfl⟩) ?_
  refine XW.fam (S' := (16, [(0, .ref 47), (1, .int day), (2, .ref 41)], [.ref 48], (sh, I, L, R))) (M := mr_112) rfl (show mcode 112 13 = some (13, .getfield 9, 3, 6, 4, 0, _) from rfl) (Or.inr (Or.inr (Or.inr (Or.inr (Or.inr (Or.inr (Or.inr (Or.inl ⟨_, _, rfl, fl_ld c47 r4 (by decide) (by decide), rfl⟩)))))))) ?_
  refine XW.fam (S' := (17, [(0, .ref 47), (1, .int day), (2, .ref 41)], [.ref 47, .ref 48], (sh, I, L, R))) (M := mr_112) rfl (show mcode 112 16 = some (16, .aload_n 0, 1, 0, 0, 0, _) from rfl) (Or.inl ⟨.ref 47, rfl, rfl⟩) ?_
  refine XW.fam (S' := (20, [(0, .ref 47), (1, .int day), (2, .ref 41)], [.int (I 47 3), .ref 48], (sh, I, L, R))) (M := mr_112) rfl (show mcode 112 17 = some (17, .getfield 41, 3, 6, 3, 0, _) from rfl) (Or.inr (Or.inr (Or.inr (Or.inr (Or.inr (Or.inr (Or.inr (Or.inl ⟨_, _, rfl, fl_ldI c47 (by decide) (by decide), rfl⟩)))))))) ?_
  refine XW.fam (S' := (21, [(0, .ref 47), (1, .int day), (2, .ref 41)], [.ref 47, .int (I 47 3), .ref 48], (sh, I, L, R))) (M := mr_112) rfl (show mcode 112 20 = some (20, .aload_n 0, 1, 0, 0, 0, _) from rfl) (Or.inl ⟨.ref 47, rfl, rfl⟩) ?_
  refine XW.fam (S' := (24, [(0, .ref 47), (1, .int day), (2, .ref 41)], [.ref 1, .int (I 47 3), .ref 48], (sh, I, L, R))) (M := mr_112) rfl (show mcode 112 21 = some (21, .getfield 29, 3, 6, 0, 0, _) from rfl) (Or.inr (Or.inr (Or.inr (Or.inr (Or.inr (Or.inr (Or.inr (Or.inl ⟨_, _, rfl, fl_ld c47 r0 (by decide) (by decide), rfl⟩)))))))) ?_
  refine XW.fam (S' := (27, [(0, .ref 47), (1, .int day), (2, .ref 41)], [.int (I 1 0), .int (I 47 3), .ref 48], (sh, I, L, R))) (M := mr_112) rfl (show mcode 112 24 = some (24, .getfield 45, 3, 1, 0, 0, _) from rfl) (Or.inr (Or.inr (Or.inr (Or.inr (Or.inr (Or.inr (Or.inr (Or.inl ⟨_, _, rfl, fl_ldI c1 (by decide) (by decide), rfl⟩)))))))) ?_
  refine XW.fam (S' := (28, [(0, .ref 47), (1, .int day), (2, .ref 41)], [], (sh, up2 I 48 (I 47 3).toNatClampNeg (I 1 0), L, R))) (M := mr_112) rfl (show mcode 112 27 = some (27, .iastore, 1, 0, 0, 0, _) from rfl) (Or.inr (Or.inr (Or.inr (Or.inl ⟨_, _, by simp [sta, c48, aok, hin], rfl⟩)))) ?_
  generalize eI1 : up2 I 48 (I 47 3).toNatClampNeg (I 1 0) = I1 at hw1 hw2
  have m1 : I1 47 3 = I 47 3 := by rw [← eI1]; exact up2_ne (fun e => by cases e.1)
  have s1 : I1 41 10 = I 41 10 := by rw [← eI1]; exact up2_ne (fun e => by cases e.1)
  refine XW.fam (S' := (29, [(0, .ref 47), (1, .int day), (2, .ref 41)], [.ref 47], (sh, I1, L, R))) (M := mr_112) rfl (show mcode 112 28 = some (28, .aload_n 0, 1, 0, 0, 0, _) from rfl) (Or.inl ⟨.ref 47, rfl, rfl⟩) ?_
  refine XW.fam (S' := (32, [(0, .ref 47), (1, .int day), (2, .ref 41)], [.ref 49], (sh, I1, L, R))) (M := mr_112) rfl (show mcode 112 29 = some (29, .getfield 15, 3, 6, 5, 0, _) from rfl) (Or.inr (Or.inr (Or.inr (Or.inr (Or.inr (Or.inr (Or.inr (Or.inl ⟨_, _, rfl, fl_ld c47 r5 (by decide) (by decide), rfl⟩)))))))) ?_
  refine XW.fam (S' := (33, [(0, .ref 47), (1, .int day), (2, .ref 41)], [.ref 47, .ref 49], (sh, I1, L, R))) (M := mr_112) rfl (show mcode 112 32 = some (32, .aload_n 0, 1, 0, 0, 0, _) from rfl) (Or.inl ⟨.ref 47, rfl, rfl⟩) ?_
  refine XW.fam (S' := (36, [(0, .ref 47), (1, .int day), (2, .ref 41)], [.int (I1 47 3), .ref 49], (sh, I1, L, R))) (M := mr_112) rfl (show mcode 112 33 = some (33, .getfield 41, 3, 6, 3, 0, _) from rfl) (Or.inr (Or.inr (Or.inr (Or.inr (Or.inr (Or.inr (Or.inr (Or.inl ⟨_, _, rfl, fl_ldI c47 (by decide) (by decide), rfl⟩)))))))) ?_
  rw [m1]
  refine XW.fam (S' := (37, [(0, .ref 47), (1, .int day), (2, .ref 41)], [.int day, .int (I 47 3), .ref 49], (sh, I1, L, R))) (M := mr_112) rfl (show mcode 112 36 = some (36, .iload_n 1, 1, 0, 0, 0, _) from rfl) (Or.inl ⟨.int day, rfl, rfl⟩) ?_
  refine XW.fam (S' := (38, [(0, .ref 47), (1, .int day), (2, .ref 41)], [], (sh, up2 I1 49 (I 47 3).toNatClampNeg day, L, R))) (M := mr_112) rfl (show mcode 112 37 = some (37, .iastore, 1, 0, 0, 0, _) from rfl) (Or.inr (Or.inr (Or.inr (Or.inl ⟨_, _, by simp [sta, c49, aok, hin], rfl⟩)))) ?_
  generalize eI2 : up2 I1 49 (I 47 3).toNatClampNeg day = I2 at hw2
  have m2 : I2 47 3 = I 47 3 := by rw [← eI2]; exact (up2_ne (fun e => by cases e.1)).trans m1
  have s2 : I2 41 10 = I 41 10 := by rw [← eI2]; exact (up2_ne (fun e => by cases e.1)).trans s1
  have hf2 : fresh (sh, I2, L, R) := by
    intro a ha k
    have := hf a ha k
    refine ⟨?_, this.2⟩
    show I2 a k = 0
    have ha : sh.length ≤ a := ha
    rw [← eI2, up2_ne (fun e => by have := e.1; omega), ← eI1, up2_ne (fun e => by have := e.1; omega)]
    exact this.1
  refine XW.fam (S' := (39, [(0, .ref 47), (1, .int day), (2, .ref 41)], [.ref 47], (sh, I2, L, R))) (M := mr_112) rfl (show mcode 112 38 = some (38, .aload_n 0, 1, 0, 0, 0, _) from rfl) (Or.inl ⟨.ref 47, rfl, rfl⟩) ?_
  refine XW.fam (S' := (42, [(0, .ref 47), (1, .int day), (2, .ref 41)], [.ref 50], (sh, I2, L, R))) (M := mr_112) rfl (show mcode 112 39 = some (39, .getfield 19, 3, 6, 6, 0, _) from rfl) (Or.inr (Or.inr (Or.inr (Or.inr (Or.inr (Or.inr (Or.inr (Or.inl ⟨_, _, rfl, fl_ld c47 r6 (by decide) (by decide), rfl⟩)))))))) ?_
  refine XW.fam (S' := (43, [(0, .ref 47), (1, .int day), (2, .ref 41)], [.ref 47, .ref 50], (sh, I2, L, R))) (M := mr_112) rfl (show mcode 112 42 = some (42, .aload_n 0, 1, 0, 0, 0, _) from rfl) (Or.inl ⟨.ref 47, rfl, rfl⟩) ?_
  refine XW.fam (S' := (46, [(0, .ref 47), (1, .int day), (2, .ref 41)], [.int (I2 47 3), .ref 50], (sh, I2, L, R))) (M := mr_112) rfl (show mcode 112 43 = some (43, .getfield 41, 3, 6, 3, 0, _) from rfl) (Or.inr (Or.inr (Or.inr (Or.inr (Or.inr (Or.inr (Or.inr (Or.inl ⟨_, _, rfl, fl_ldI c47 (by decide) (by decide), rfl⟩)))))))) ?_
  rw [m2]
  refine XW.fam (S' := (47, [(0, .ref 47), (1, .int day), (2, .ref 41)], [.ref 41, .int (I 47 3), .ref 50], (sh, I2, L, R))) (M := mr_112) rfl (show mcode 112 46 = some (46, .aload_n 2, 1, 0, 0, 0, _) from rfl) (Or.inl ⟨.ref 41, rfl, rfl⟩) ?_
  refine XW.fam (S' := (50, [(0, .ref 47), (1, .int day), (2, .ref 41)], [.ref 46, .int (I 47 3), .ref 50], (sh, I2, L, R))) (M := mr_112) rfl (show mcode 112 47 = some (47, .getfield 50, 3, 5, 9, 0, _) from rfl) (Or.inr (Or.inr (Or.inr (Or.inr (Or.inr (Or.inr (Or.inr (Or.inl ⟨_, _, rfl, fl_ld c41 r9 (by decide) (by decide), rfl⟩)))))))) ?_
  refine XW.fam (S' := (51, [(0, .ref 47), (1, .int day), (2, .ref 41)], [.int 0, .ref 46, .int (I 47 3), .ref 50], (sh, I2, L, R))) (M := mr_112) rfl (show mcode 112 50 = some (50, .iconst 0, 1, 0, 0, 0, _) from rfl) (Or.inl ⟨.int 0, rfl, rfl⟩) ?_
  refine XW.fam (S' := (52, [(0, .ref 47), (1, .int day), (2, .ref 41)], [.ref 41, .int 0, .ref 46, .int (I 47 3), .ref 50], (sh, I2, L, R))) (M := mr_112) rfl (show mcode 112 51 = some (51, .aload_n 2, 1, 0, 0, 0, _) from rfl) (Or.inl ⟨.ref 41, rfl, rfl⟩) ?_
  refine XW.fam (S' := (55, [(0, .ref 47), (1, .int day), (2, .ref 41)], [.int (I2 41 10), .int 0, .ref 46, .int (I 47 3), .ref 50], (sh, I2, L, R))) (M := mr_112) rfl (show mcode 112 52 = some (52, .getfield 54, 3, 5, 10, 0, _) from rfl) (Or.inr (Or.inr (Or.inr (Or.inr (Or.inr (Or.inr (Or.inr (Or.inl ⟨_, _, rfl, fl_ldI c41 (by decide) (by decide), rfl⟩)))))))) ?_
  rw [s2]
  refine XW.call (d' := d) (mc' := 0) (ms' := 0) (av := [.int 0, .int (I 41 10)]) (rest := [.ref 46, .int (I 47 3), .ref 50]) (M := mr_112) (Ma := mr_22) rfl (show mcode 112 55 = some (55, .invokestatic 57, 3, 22, 0, 0, _) from rfl) rfl (by decide) (by decide) rfl rfl rfl (show 3 ≤ 8 by decide) tc_max (by omega) (Nat.zero_le _) (Nat.zero_le _) (fun r w' hQ => ?_)
  obtain ⟨rfl, rfl⟩ := hQ
  generalize en : (if (0 : Int32) < I 41 10 then I 41 10 else 0) = n
  have hn : 0 ≤ n.toInt ∧ n.toInt ≤ 240 := by
    rw [← en]
    split
    · exact hs
    · decide
  refine XW.call (d' := d + 1) (mc' := 1) (ms' := 240) (av := [.ref 46, .int n]) (rest := [.int (I 47 3), .ref 50]) (M := mr_112) (Ma := mr_113) rfl (show mcode 112 58 = some (58, .invokestatic 63, 3, 113, 0, 0, _) from rfl) rfl (by decide) (by decide) rfl rfl rfl (show 2 ≤ 8 by decide) (tc_copy c46 hf2 hn.1 hn.2) (by omega) (Nat.le_refl _) (Nat.le_refl _) (fun r w' hQ => ?_)
  obtain ⟨rfl, mm, I3, hmm, rfl, hI3⟩ := hQ
  refine XW.aas (n := 20) (nz := mm) (by rw [List.getElem?_append_left (by omega)]; exact c50) (by rw [List.getElem?_append_right (Nat.le_refl _), Nat.sub_self]; rfl) hin ?_
  have hw3 := wE_new (k0 := (I 47 3).toNatClampNeg) hw2 hmm hI3
  have c47' : (sh ++ [.inl (.int, mm)])[47]? = some (.inr 6) := by rw [List.getElem?_append_left (by omega)]; exact c47
  have m3 : I3 47 3 = I 47 3 := (hI3 47 3 (by omega)).trans m2
  generalize eR : up2 R 50 (I 47 3).toNatClampNeg (some sh.length) = R3 at hw3
  refine XW.fam (S' := (63, [(0, .ref 47), (1, .int day), (2, .ref 41)], [.ref 47], (sh ++ [.inl (.int, mm)], I3, L, R3))) (M := mr_112) rfl (show mcode 112 62 = some (62, .aload_n 0, 1, 0, 0, 0, _) from rfl) (Or.inl ⟨.ref 47, rfl, rfl⟩) ?_
  refine XW.fam (S' := (64, [(0, .ref 47), (1, .int day), (2, .ref 41)], [.ref 47, .ref 47], (sh ++ [.inl (.int, mm)], I3, L, R3))) (M := mr_112) rfl (show mcode 112 63 = some (63, .dup, 1, 0, 0, 0, _) from rfl) (Or.inr (Or.inr (Or.inr (Or.inr (Or.inr (Or.inl ⟨_, rfl, rfl⟩)))))) ?_
  refine XW.fam (S' := (67, [(0, .ref 47), (1, .int day), (2, .ref 41)], [.int (I3 47 3), .ref 47], (sh ++ [.inl (.int, mm)], I3, L, R3))) (M := mr_112) rfl (show mcode 112 64 = some (64, .getfield 41, 3, 6, 3, 0, _) from rfl) (Or.inr (Or.inr (Or.inr (Or.inr (Or.inr (Or.inr (Or.inr (Or.inl ⟨_, _, rfl, fl_ldI c47' (by decide) (by decide), rfl⟩)))))))) ?_
  rw [m3]
  refine XW.fam (S' := (68, [(0, .ref 47), (1, .int day), (2, .ref 41)], [.int 1, .int (I 47 3), .ref 47], (sh ++ [.inl (.int, mm)], I3, L, R3))) (M := mr_112) rfl (show mcode 112 67 = some (67, .iconst 1, 1, 0, 0, 0, _) from rfl) (Or.inl ⟨.int 1, rfl, rfl⟩) ?_
  refine XW.fam (S' := (69, [(0, .ref 47), (1, .int day), (2, .ref 41)], [.int (I 47 3 + 1), .ref 47], (sh ++ [.inl (.int, mm)], I3, L, R3))) (M := mr_112) rfl (show mcode 112 68 = some (68, .iadd, 1, 0, 0, 0, _) from rfl) (Or.inr (Or.inr (Or.inr (Or.inr (Or.inr (Or.inl ⟨_, rfl, rfl⟩)))))) ?_
  refine XW.fam (S' := (72, [(0, .ref 47), (1, .int day), (2, .ref 41)], [], (sh ++ [.inl (.int, mm)], up2 I3 47 3 (I 47 3 + 1), L, R3))) (M := mr_112) rfl (show mcode 112 69 = some (69, .putfield 41, 3, 6, 3, 0, _) from rfl) (Or.inr (Or.inr (Or.inr (Or.inr (Or.inr (Or.inr (Or.inr (Or.inr (Or.inl ⟨_, _, _, rfl, stf_I c47' (by decide) (by decide) (by decide), rfl⟩))))))))) ?_
  have ea : (I 47 3 + 1).toInt = (I 47 3).toInt + 1 := by
    rw [Int32.toInt_add]
    have e : (1 : Int32).toInt = 1 := rfl
    rw [e]
    exact bm32 (by unfold lo32; omega) (by unfold hi32; omega)
  have hw4 := wOK_u2 (q := 47) (k := 3) (x := I 47 3 + 1) wE_put hw3 rfl (by show (0 : Int) ≤ _; omega) (by show _ ≤ (20 : Int); omega)
  have hf4 : fresh (sh ++ [.inl (.int, mm)], up2 I3 47 3 (I 47 3 + 1), L, R3) := by
    intro a ha k
    have ha : (sh ++ [(.inl (.int, mm) : mE)]).length ≤ a := ha
    rw [List.length_append, List.length_singleton] at ha
    have h2 := hf2 a (by show sh.length ≤ a; omega) k
    refine ⟨?_, h2.2.1, ?_⟩
    · show up2 I3 47 3 (I 47 3 + 1) a k = 0
      rw [up2_ne (fun e => by have := e.1; omega), hI3 a k (by omega)]
      exact h2.1
    · show R3 a k = none
      rw [← eR]
      unfold up2
      rw [if_neg (by omega)]
      exact h2.2.2
  have hk4 : ∀ q k, q < 170 → inm mdR q k = false → up2 I3 47 3 (I 47 3 + 1) q k = I q k := by
    intro q k hq hm
    obtain ⟨n1, n2, n3, -⟩ := mdR_ne hm
    rw [up2_ne n3, hI3 q k (by omega), ← eI2, up2_ne (fun e => n2 e.1), ← eI1, up2_ne (fun e => n1 e.1)]
  have q1 : up2 I3 47 3 (I 47 3 + 1) 47 3 = I 47 3 + 1 := up2_eq
  have q2 : ∀ k, up2 I3 47 3 (I 47 3 + 1) 48 k = up2 I 48 (I 47 3).toNatClampNeg (I 1 0) 48 k := fun k => by rw [up2_ne (fun e => by cases e.1), hI3 48 k (by omega), ← eI2, up2_ne (fun e => by cases e.1), ← eI1]
  have q3 : ∀ k, up2 I3 47 3 (I 47 3 + 1) 49 k = up2 I 49 (I 47 3).toNatClampNeg day 49 k := fun k => by rw [up2_ne (fun e => by cases e.1), hI3 49 k (by omega), ← eI2, up2_if, up2_if, ← eI1, up2_ne (fun e => by cases e.1)]
  have q4 : up2 I3 47 3 (I 47 3 + 1) 41 0 = I 41 0 := by rw [up2_ne (fun e => by cases e.1), hI3 41 0 (by omega), ← eI2, up2_ne (fun e => by cases e.1), ← eI1, up2_ne (fun e => by cases e.1)]
  generalize up2 I3 47 3 (I 47 3 + 1) = I4 at hw4 hf4 hk4 q1 q2 q3 q4
  refine XW.fam (S' := (73, [(0, .ref 47), (1, .int day), (2, .ref 41)], [.ref 47], (sh ++ [.inl (.int, mm)], I4, L, R3))) (M := mr_112) rfl (show mcode 112 72 = some (72, .aload_n 0, 1, 0, 0, 0, _) from rfl) (Or.inl ⟨.ref 47, rfl, rfl⟩) ?_
  refine XW.fam (S' := (76, [(0, .ref 47), (1, .int day), (2, .ref 41)], [.int (I4 47 3)], (sh ++ [.inl (.int, mm)], I4, L, R3))) (M := mr_112) rfl (show mcode 112 73 = some (73, .getfield 41, 3, 6, 3, 0, _) from rfl) (Or.inr (Or.inr (Or.inr (Or.inr (Or.inr (Or.inr (Or.inr (Or.inl ⟨_, _, rfl, fl_ldI c47' (by decide) (by decide), rfl⟩)))))))) ?_
  refine XW.fam (S' := (77, [(0, .ref 47), (1, .int day), (2, .ref 41)], [.int 1, .int (I4 47 3)], (sh ++ [.inl (.int, mm)], I4, L, R3))) (M := mr_112) rfl (show mcode 112 76 = some (76, .iconst 1, 1, 0, 0, 0, _) from rfl) (Or.inl ⟨.int 1, rfl, rfl⟩) ?_
  refine XW.fam (S' := (78, [(0, .ref 47), (1, .int day), (2, .ref 41)], [.int (I4 47 3 - 1)], (sh ++ [.inl (.int, mm)], I4, L, R3))) (M := mr_112) rfl (show mcode 112 77 = some (77, .isub, 1, 0, 0, 0, _) from rfl) (Or.inr (Or.inr (Or.inr (Or.inr (Or.inr (Or.inl ⟨_, rfl, rfl⟩)))))) ?_
  have xd : (I4 47 3 - 1).toInt = (I 47 3).toInt := by
    rw [q1]
    have z1 : (1 : Int32).toInt = 1 := rfl
    have xs := difS (a := I 47 3 + 1) (b := 1) (by omega) (by omega)
    omega
  exact XW.ret (r := some (.int (I4 47 3 - 1))) ⟨⟨.int, rfl, rfl⟩, by decide +kernel⟩ ⟨⟨hf4, ⟨_, rfl⟩, ⟨_, _, hw4⟩, hk4⟩, ⟨_, rfl, xd⟩, by show (I4 47 3).toInt = _; rw [q1]; exact ea, q2, q3, q4⟩
def RUC (I : Nat → Nat → Int32) (x : Int32) (c : Nat) (fl : Int) (r : Option Value) (I' : Nat → Nat → Int32) : Prop := (∃ y : Int32, r = some (.int y) ∧ y.toInt = ruY c (I 47 3).toInt fl) ∧ (∀ q k, q < 170 → inm mdR q k = false → I' q k = I q k) ∧ (I' 41 0).toInt = ruL c (I 41 0).toInt ∧ (I' 47 3).toInt = ruR c (I 47 3).toInt ∧ (∀ k, (I' 48 k).toInt = ruW c (I 47 3).toInt (I 1 0).toInt (fun k => (I 48 k).toInt) k) ∧ ∀ k, (I' 49 k).toInt = ruW c (I 47 3).toInt x.toInt (fun k => (I 49 k).toInt) k
theorem RUC_same {I : Nat → Nat → Int32} {x y : Int32} {c : Nat} {fl : Int} (hc : c < 2) (hy : y.toInt = ruY c (I 47 3).toInt fl) : RUC I x c fl (some (.int y)) I := ⟨⟨y, rfl, hy⟩, fun _ _ _ _ => rfl, (if_pos hc).symm, (if_neg (by omega)).symm, fun k => (ruW_n (c := c) (k := k) (f := fun k => (I 48 k).toInt) (by omega)).symm, fun k => (ruW_n (c := c) (k := k) (f := fun k => (I 49 k).toInt) (by omega)).symm⟩
theorem inm_Tl {q k : Nat} (hq : inm mdR q k = false) : inm mdTl q k = false := by
  have h41 : ¬ q = 41 := (mdR_ne hq).2.2.2
  have h43 : ¬ q = 43 := fun e => by rw [e] at hq; cases hq
  have h44 : ¬ q = 44 := fun e => by rw [e] at hq; cases hq
  have h45 : ¬ q = 45 := fun e => by rw [e] at hq; cases hq
  have h46 : ¬ q = 46 := fun e => by rw [e] at hq; cases hq
  unfold inm
  rw [List.any_eq_false]
  intro e he
  have h1 : e.1 = 41 ∨ e.1 = 43 ∨ e.1 = 44 ∨ e.1 = 45 ∨ e.1 = 46 := by
    unfold mdTl at he
    simp only [List.mem_cons, List.mem_nil_iff, or_false] at he
    rcases he with rfl | rfl | rfl | rfl | rfl | rfl | rfl | rfl | rfl <;> decide
  have h2 : Nat.beq e.1 q = false := by
    rw [← Bool.not_eq_true]
    intro z
    have := Nat.eq_of_beq_eq_true z
    omega
  rw [h2]
  exact Bool.false_ne_true
theorem gFl_rng {b : Nat → Int} {n : Nat} (hn : n ≤ 240) : -1 ≤ gFl b n ∧ gFl b n ≤ 240 := by
  unfold gFl
  have h := tS_le (b := b) (n := n) (i := (gLs (tK b n) 3000 300 0).2)
  split
  · exact ⟨by decide, by decide⟩
  · exact ⟨by omega, by omega⟩
theorem tc_ruleC {d : Nat} {sh : List mE} {I : Nat → Nat → Int32} {L : Nat → Nat → Int64} {R : Nat → Nat → Option Nat} {xv : Int32} (hw : wOK (mkT vV []) (wE sh R) (sh, I, L, R)) (hf : fresh (sh, I, L, R)) : Tc 91 (d + 2 + (6 * (8 - 0) + 9)) 1 240 [.ref 0, .int xv] (sh, I, L, R) (fun r w' => RUC I xv (ruC (I 1 0).toInt xv.toInt (I 47 3).toInt (gFl (fun k => (I 42 k).toInt) (I 41 0).toInt.toNat)) (gFl (fun k => (I 42 k).toInt) (I 41 0).toInt.toNat) r w'.2.1 ∧ fresh w' ∧ ∃ sh' R', wOK (mkT vV []) (wE sh' R') w') := by
  have c0 : sh[0]? = some (.inr 0) := hw.1 0 _ rfl
  have c1 : sh[1]? = some (.inr 1) := hw.1 1 _ rfl
  have c41 : sh[41]? = some (.inr 5) := hw.1 41 _ rfl
  have c47 : sh[47]? = some (.inr 6) := hw.1 47 _ rfl
  have r0_0 : R 0 0 = some 1 := hw.2.1 0 0 _ rfl
  have r0_4 : R 0 4 = some 41 := hw.2.1 0 4 _ rfl
  have r0_5 : R 0 5 = some 47 := hw.2.1 0 5 _ rfl
  have zm100 : ((-100) : Int32).toInt = (-100) := rfl
  have zm3 : ((-3) : Int32).toInt = (-3) := rfl
  have zm1 : ((-1) : Int32).toInt = (-1) := rfl
  have z0 : (0 : Int32).toInt = 0 := rfl
  have z1 : (1 : Int32).toInt = 1 := rfl
  have z20 : (20 : Int32).toInt = 20 := rfl
  have z700 : (700 : Int32).toInt = 700 := rfl
  have r35 : 0 ≤ (I 47 3).toInt ∧ (I 47 3).toInt ≤ 20 := hw.2.2.1 47 3
  have r10 : 0 ≤ (I 1 0).toInt ∧ (I 1 0).toInt ≤ 700 := hw.2.2.1 1 0
  obtain ⟨td, etd⟩ : ∃ z : Int32, I 1 0 = z := ⟨_, rfl⟩
  obtain ⟨rv, erv⟩ : ∃ z : Int32, I 47 3 = z := ⟨_, rfl⟩
  rw [etd, erv]
  rw [etd] at r10
  rw [erv] at r35
  refine Tc.of mr_91 rfl (show 2 ≤ mr_91.2.2.2.1 by decide) ?_
  refine XW.fam (S' := (1, [(0, .ref 0), (1, .int xv)], [.int xv], (sh, I, L, R))) (M := mr_91) rfl (show mcode 91 0 = some (0, .iload_n 1, 1, 0, 0, 0, _) from rfl) (Or.inl ⟨.int xv, rfl, rfl⟩) ?_
  refine XW.fam (S' := (2, [(0, .ref 0), (1, .int xv)], [.ref 0, .int xv], (sh, I, L, R))) (M := mr_91) rfl (show mcode 91 1 = some (1, .aload_n 0, 1, 0, 0, 0, _) from rfl) (Or.inl ⟨.ref 0, rfl, rfl⟩) ?_
  refine XW.fam (S' := (5, [(0, .ref 0), (1, .int xv)], [.ref 1, .int xv], (sh, I, L, R))) (M := mr_91) rfl (show mcode 91 2 = some (2, .getfield 10, 3, 0, 0, 0, _) from rfl) (Or.inr (Or.inr (Or.inr (Or.inr (Or.inr (Or.inr (Or.inr (Or.inl ⟨_, _, rfl, fl_ld c0 r0_0 (by decide) (by decide), rfl⟩)))))))) ?_
  refine XW.fam (S' := (8, [(0, .ref 0), (1, .int xv)], [.int (I 1 0), .int xv], (sh, I, L, R))) (M := mr_91) rfl (show mcode 91 5 = some (5, .getfield 116, 3, 1, 0, 0, _) from rfl) (Or.inr (Or.inr (Or.inr (Or.inr (Or.inr (Or.inr (Or.inr (Or.inl ⟨_, _, rfl, fl_ldI c1 (by decide) (by decide), rfl⟩)))))))) ?_
  rw [etd]
  refine XW.fam (S' := (11, [(0, .ref 0), (1, .int xv)], [.int 700, .int td, .int xv], (sh, I, L, R))) (M := mr_91) rfl (show mcode 91 8 = some (8, .sipush 700, 3, 0, 0, 0, _) from rfl) (Or.inl ⟨.int 700, rfl, rfl⟩) ?_
  refine XW.call (d' := d) (mc' := 0) (ms' := 0) (av := [.int xv, .int td, .int 700]) (rest := []) (M := mr_91) (Ma := mr_15) rfl (show mcode 91 11 = some (11, .invokestatic 112, 3, 15, 0, 0, _) from rfl) rfl (by decide) (by decide) rfl rfl rfl (show 0 ≤ 8 by decide) (tc_inC) (by omega) (Nat.zero_le _) (Nat.zero_le _) (fun rQ1 wQ1 Q1 => ?_)
  obtain ⟨hQ1, rfl⟩ := Q1
  rcases hQ1 with ⟨rfl, gQ1⟩ | ⟨rfl, gQ1⟩
  · skip
    refine XW.fam (S' := (17, [(0, .ref 0), (1, .int xv)], [], (sh, I, L, R))) (M := mr_91) rfl (show mcode 91 14 = some (14, .ifCond .ne 5, 3, 19, 0, 0, _) from rfl) (Or.inr (Or.inl ⟨17, [], rfl, rfl⟩)) ?_
    refine XW.fam (S' := (18, [(0, .ref 0), (1, .int xv)], [.int (-1)], (sh, I, L, R))) (M := mr_91) rfl (show mcode 91 17 = some (17, .iconst (-1), 1, 0, 0, 0, _) from rfl) (Or.inl ⟨.int (-1), rfl, rfl⟩) ?_
    refine XW.ret (r := some (.int (-1))) ⟨⟨.int, rfl, rfl⟩, by decide +kernel⟩ ?_
    first
      | (have ec : (ruC td.toInt xv.toInt rv.toInt (gFl (fun k => (I 42 k).toInt) (I 41 0).toInt.toNat)) = 0 := if_neg (by omega)
         rw [ec]
         exact ⟨RUC_same (by decide) rfl, hf, sh, R, hw⟩)
      | (have ec : (ruC td.toInt xv.toInt rv.toInt (gFl (fun k => (I 42 k).toInt) (I 41 0).toInt.toNat)) = 1 := by
           unfold ruC
           rw [if_pos (by omega), if_pos (by omega)]
         rw [ec]
         exact ⟨RUC_same (by decide) rfl, hf, sh, R, hw⟩)
  · skip
    refine XW.fam (S' := (19, [(0, .ref 0), (1, .int xv)], [], (sh, I, L, R))) (M := mr_91) rfl (show mcode 91 14 = some (14, .ifCond .ne 5, 3, 19, 0, 0, _) from rfl) (Or.inr (Or.inl ⟨19, [], rfl, rfl⟩)) ?_
    refine XW.fam (S' := (20, [(0, .ref 0), (1, .int xv)], [.ref 0], (sh, I, L, R))) (M := mr_91) rfl (show mcode 91 19 = some (19, .aload_n 0, 1, 0, 0, 0, _) from rfl) (Or.inl ⟨.ref 0, rfl, rfl⟩) ?_
    refine XW.fam (S' := (23, [(0, .ref 0), (1, .int xv)], [.ref 47], (sh, I, L, R))) (M := mr_91) rfl (show mcode 91 20 = some (20, .getfield 53, 3, 0, 5, 0, _) from rfl) (Or.inr (Or.inr (Or.inr (Or.inr (Or.inr (Or.inr (Or.inr (Or.inl ⟨_, _, rfl, fl_ld c0 r0_5 (by decide) (by decide), rfl⟩)))))))) ?_
    refine XW.fam (S' := (26, [(0, .ref 0), (1, .int xv)], [.int (I 47 3)], (sh, I, L, R))) (M := mr_91) rfl (show mcode 91 23 = some (23, .getfield 217, 3, 6, 3, 0, _) from rfl) (Or.inr (Or.inr (Or.inr (Or.inr (Or.inr (Or.inr (Or.inr (Or.inl ⟨_, _, rfl, fl_ldI c47 (by decide) (by decide), rfl⟩)))))))) ?_
    rw [erv]
    refine XW.fam (S' := (28, [(0, .ref 0), (1, .int xv)], [.int 20, .int rv], (sh, I, L, R))) (M := mr_91) rfl (show mcode 91 26 = some (26, .bipush 20, 2, 0, 0, 0, _) from rfl) (Or.inl ⟨.int 20, rfl, rfl⟩) ?_
    cases k2 : bcmp .lt rv 20 with
    | true =>
      have gk2 : (rv).toInt < 20 := icT (c := .lt) (a := (rv).toInt) (b := 20) rfl (by decide) k2
      refine XW.fam (S' := (34, [(0, .ref 0), (1, .int xv)], [], (sh, I, L, R))) (M := mr_91) rfl (show mcode 91 28 = some (28, .if_icmp .lt 6, 3, 34, 0, 0, _) from rfl) (Or.inr (Or.inl ⟨34, [], by simp [brn, k2], rfl⟩)) ?_
      refine XW.fam (S' := (35, [(0, .ref 0), (1, .int xv)], [.ref 0], (sh, I, L, R))) (M := mr_91) rfl (show mcode 91 34 = some (34, .aload_n 0, 1, 0, 0, 0, _) from rfl) (Or.inl ⟨.ref 0, rfl, rfl⟩) ?_
      refine XW.fam (S' := (38, [(0, .ref 0), (1, .int xv)], [.ref 41], (sh, I, L, R))) (M := mr_91) rfl (show mcode 91 35 = some (35, .getfield 44, 3, 0, 4, 0, _) from rfl) (Or.inr (Or.inr (Or.inr (Or.inr (Or.inr (Or.inr (Or.inr (Or.inl ⟨_, _, rfl, fl_ld c0 r0_4 (by decide) (by decide), rfl⟩)))))))) ?_
      refine XW.call (d' := (d + 2 + (6 * (8 - 0) + 8))) (mc' := 0) (ms' := 0) (av := [.ref 41]) (rest := []) (M := mr_91) (Ma := mr_92) rfl (show mcode 91 38 = some (38, .invokevirtual 220, 3, 92, 0, 0, _) from rfl) rfl (by decide) (by decide) ⟨rfl, 41, _, rfl, c41⟩ rfl rfl (show 0 ≤ 8 by decide) (tc_trans (d := d) hw hf) (by omega) (Nat.zero_le _) (Nat.zero_le _) (fun rQ3 wQ3 Q3 => ?_)
      obtain ⟨⟨yQ3, hrQ3, hyQ3⟩, hfQ3, hwQ3, hkQ3⟩ := Q3
      subst hrQ3
      obtain ⟨shQ3, IQ3, LQ3, RQ3⟩ := wQ3
      obtain rfl : sh = shQ3 := hwQ3.2.2.2.1.symm
      obtain rfl : R = RQ3 := hwQ3.2.2.2.2.1.symm
      have hkQ3 : ∀ q k, inm mdTl q k = false → IQ3 q k = I q k := hkQ3
      have k1 : IQ3 1 0 = td := (hkQ3 1 0 rfl).trans etd
      have k3 : IQ3 47 3 = rv := (hkQ3 47 3 rfl).trans erv
      have hfb : -1 ≤ gFl (fun k => (I 42 k).toInt) (I 41 0).toInt.toNat ∧ gFl (fun k => (I 42 k).toInt) (I 41 0).toInt.toNat ≤ 240 := gFl_rng (by have z : 0 ≤ (I 41 0).toInt ∧ (I 41 0).toInt ≤ 240 := hw.2.2.1 41 0; omega)
      refine XW.fam (S' := (42, [(2, .int yQ3), (0, .ref 0), (1, .int xv)], [], (sh, IQ3, LQ3, R))) (M := mr_91) rfl (show mcode 91 41 = some (41, .istore_n 2, 1, 0, 0, 0, _) from rfl) (Or.inr (Or.inr (Or.inr (Or.inr (Or.inr (Or.inr (Or.inl ⟨_, [], _, rfl, rfl, rfl⟩))))))) ?_
      refine XW.fam (S' := (43, [(2, .int yQ3), (0, .ref 0), (1, .int xv)], [.ref 0], (sh, IQ3, LQ3, R))) (M := mr_91) rfl (show mcode 91 42 = some (42, .aload_n 0, 1, 0, 0, 0, _) from rfl) (Or.inl ⟨.ref 0, rfl, rfl⟩) ?_
      refine XW.fam (S' := (46, [(2, .int yQ3), (0, .ref 0), (1, .int xv)], [.ref 41], (sh, IQ3, LQ3, R))) (M := mr_91) rfl (show mcode 91 43 = some (43, .getfield 44, 3, 0, 4, 0, _) from rfl) (Or.inr (Or.inr (Or.inr (Or.inr (Or.inr (Or.inr (Or.inr (Or.inl ⟨_, _, rfl, fl_ld c0 r0_4 (by decide) (by decide), rfl⟩)))))))) ?_
      refine XW.fam (S' := (47, [(2, .int yQ3), (0, .ref 0), (1, .int xv)], [.int 0, .ref 41], (sh, IQ3, LQ3, R))) (M := mr_91) rfl (show mcode 91 46 = some (46, .iconst 0, 1, 0, 0, 0, _) from rfl) (Or.inl ⟨.int 0, rfl, rfl⟩) ?_
      obtain ⟨I4, eI4⟩ : ∃ X, X = up2 IQ3 41 0 0 := ⟨_, rfl⟩
      refine XW.fam (S' := (50, [(2, .int yQ3), (0, .ref 0), (1, .int xv)], [], (sh, I4, LQ3, R))) (M := mr_91) rfl (show mcode 91 47 = some (47, .putfield 210, 3, 5, 0, 0, _) from rfl) (Or.inr (Or.inr (Or.inr (Or.inr (Or.inr (Or.inr (Or.inr (Or.inr (Or.inl ⟨_, _, _, rfl, by rw [eI4]; exact stf_I c41 (by decide) (by decide) (by decide), rfl⟩))))))))) ?_
      have hwI4 : wOK (mkT vV []) (wE sh R) (sh, I4, LQ3, R) := by rw [eI4]; exact wOK_u2 (q := 41) (k := 0) (x := 0) wE_put hwQ3 rfl (by show (0 : Int) ≤ _; omega) (by show _ ≤ (240 : Int); omega)
      have hfI4 : fresh (sh, I4, LQ3, R) := by rw [eI4]; exact fresh_I hfQ3 c41
      have v5 : I4 1 0 = td := by rw [eI4, up2_ne (fun e => by cases e.1)]; exact k1
      have v6 : I4 47 3 = rv := by rw [eI4, up2_ne (fun e => by cases e.1)]; exact k3
      have v7 : I4 41 0 = 0 := by rw [eI4]; exact up2_eq
      refine XW.fam (S' := (51, [(2, .int yQ3), (0, .ref 0), (1, .int xv)], [.int yQ3], (sh, I4, LQ3, R))) (M := mr_91) rfl (show mcode 91 50 = some (50, .iload_n 2, 1, 0, 0, 0, _) from rfl) (Or.inl ⟨.int yQ3, rfl, rfl⟩) ?_
      cases k8 : bcmp .lt yQ3 0 with
      | true =>
        have gk8 : (yQ3).toInt < 0 := icT (c := .lt) (a := (yQ3).toInt) (b := 0) rfl (by decide) k8
        refine XW.fam (S' := (61, [(2, .int yQ3), (0, .ref 0), (1, .int xv)], [], (sh, I4, LQ3, R))) (M := mr_91) rfl (show mcode 91 51 = some (51, .ifCond .lt 10, 3, 61, 0, 0, _) from rfl) (Or.inr (Or.inl ⟨61, [], by simp [brn, k8], rfl⟩)) ?_
        refine XW.fam (S' := (62, [(2, .int yQ3), (0, .ref 0), (1, .int xv)], [.ref 0], (sh, I4, LQ3, R))) (M := mr_91) rfl (show mcode 91 61 = some (61, .aload_n 0, 1, 0, 0, 0, _) from rfl) (Or.inl ⟨.ref 0, rfl, rfl⟩) ?_
        refine XW.fam (S' := (65, [(2, .int yQ3), (0, .ref 0), (1, .int xv)], [.ref 47], (sh, I4, LQ3, R))) (M := mr_91) rfl (show mcode 91 62 = some (62, .getfield 53, 3, 0, 5, 0, _) from rfl) (Or.inr (Or.inr (Or.inr (Or.inr (Or.inr (Or.inr (Or.inr (Or.inl ⟨_, _, rfl, fl_ld c0 r0_5 (by decide) (by decide), rfl⟩)))))))) ?_
        refine XW.fam (S' := (66, [(2, .int yQ3), (0, .ref 0), (1, .int xv)], [.int xv, .ref 47], (sh, I4, LQ3, R))) (M := mr_91) rfl (show mcode 91 65 = some (65, .iload_n 1, 1, 0, 0, 0, _) from rfl) (Or.inl ⟨.int xv, rfl, rfl⟩) ?_
        refine XW.fam (S' := (67, [(2, .int yQ3), (0, .ref 0), (1, .int xv)], [.ref 0, .int xv, .ref 47], (sh, I4, LQ3, R))) (M := mr_91) rfl (show mcode 91 66 = some (66, .aload_n 0, 1, 0, 0, 0, _) from rfl) (Or.inl ⟨.ref 0, rfl, rfl⟩) ?_
        refine XW.fam (S' := (70, [(2, .int yQ3), (0, .ref 0), (1, .int xv)], [.ref 41, .int xv, .ref 47], (sh, I4, LQ3, R))) (M := mr_91) rfl (show mcode 91 67 = some (67, .getfield 44, 3, 0, 4, 0, _) from rfl) (Or.inr (Or.inr (Or.inr (Or.inr (Or.inr (Or.inr (Or.inr (Or.inl ⟨_, _, rfl, fl_ld c0 r0_4 (by decide) (by decide), rfl⟩)))))))) ?_
        refine XW.call (d' := d + 2) (mc' := 1) (ms' := 240) (av := [.ref 47, .int xv, .ref 41]) (rest := []) (M := mr_91) (Ma := mr_112) rfl (show mcode 91 70 = some (70, .invokevirtual 224, 3, 112, 0, 0, _) from rfl) rfl (by decide) (by decide) ⟨rfl, 47, _, rfl, c47⟩ rfl rfl (show 0 ≤ 8 by decide) (tc_addQ (d := d) (day := xv) hwI4 hfI4 (by omega) (by omega) (by rw [v6]; omega)) (by omega) (Nat.le_refl _) (Nat.le_refl _) (fun rQ9 wQ9 Q9 => ?_)
        obtain ⟨hqQ9, ⟨yQ9, hrQ9, hyQ9⟩, h47Q9, h48Q9, h49Q9, h41Q9⟩ := Q9
        subst hrQ9
        refine XW.ret (r := some (.int yQ9)) ⟨⟨.int, rfl, rfl⟩, by decide +kernel⟩ ?_
        have ec : (ruC td.toInt xv.toInt rv.toInt (gFl (fun k => (I 42 k).toInt) (I 41 0).toInt.toNat)) = 3 := by
          unfold ruC
          rw [if_pos (by omega), if_neg (by omega), if_pos (by omega)]
        rw [ec]
        have r3 : I4 47 3 = rv := v6
        have r1 : I4 1 0 = td := v5
        rw [r3] at hyQ9 h47Q9
        refine ⟨⟨⟨_, rfl, ?_⟩, fun q k hq z => ?_, ?_, ?_, fun k => ?_, fun k => ?_⟩, hqQ9.1, hqQ9.2.2.1⟩
        · show _ = (I 47 3).toInt
          rw [erv]
          exact hyQ9
        · have z1 : wQ9.2.1 q k = I4 q k := hqQ9.2.2.2 q k hq z
          rw [z1, eI4, up2_ne (fun e => (mdR_ne z).2.2.2 e.1)]
          exact hkQ3 q k (inm_Tl z)
        · have z1 : wQ9.2.1 41 0 = 0 := by rw [h41Q9, eI4]; exact up2_eq
          exact congrArg Int32.toInt z1
        · show (wQ9.2.1 47 3).toInt = (I 47 3).toInt + 1
          rw [erv]
          exact h47Q9
        · show (wQ9.2.1 48 k).toInt = ruW 3 (I 47 3).toInt (I 1 0).toInt (fun k => (I 48 k).toInt) k
          rw [h48Q9 k, up2_if, r3]
          by_cases a : k = (rv).toNatClampNeg
          · rw [if_pos a, ruW_y (by rw [erv, a]; have z : (((rv).toNatClampNeg : Nat) : Int) = rv.toInt := Int.toNat_of_nonneg (by omega); exact z), r1, etd]
          · rw [if_neg a, ruW_k (fun z => a (by rw [erv] at z; show k = rv.toInt.toNat; omega)), eI4, up2_ne (fun e => by cases e.1), hkQ3 48 k rfl]
        · show (wQ9.2.1 49 k).toInt = ruW 3 (I 47 3).toInt xv.toInt (fun k => (I 49 k).toInt) k
          rw [h49Q9 k, up2_if, r3]
          by_cases a : k = (rv).toNatClampNeg
          · rw [if_pos a, ruW_y (by rw [erv, a]; have z : (((rv).toNatClampNeg : Nat) : Int) = rv.toInt := Int.toNat_of_nonneg (by omega); exact z)]
          · rw [if_neg a, ruW_k (fun z => a (by rw [erv] at z; show k = rv.toInt.toNat; omega)), eI4, up2_ne (fun e => by cases e.1), hkQ3 49 k rfl]
      | false =>
        have gk8 : ¬ ((yQ3).toInt < 0) := icF (c := .lt) (a := (yQ3).toInt) (b := 0) rfl (by decide) k8
        refine XW.fam (S' := (54, [(2, .int yQ3), (0, .ref 0), (1, .int xv)], [], (sh, I4, LQ3, R))) (M := mr_91) rfl (show mcode 91 51 = some (51, .ifCond .lt 10, 3, 61, 0, 0, _) from rfl) (Or.inr (Or.inl ⟨54, [], by simp [brn, k8], rfl⟩)) ?_
        refine XW.fam (S' := (56, [(2, .int yQ3), (0, .ref 0), (1, .int xv)], [.int (-100)], (sh, I4, LQ3, R))) (M := mr_91) rfl (show mcode 91 54 = some (54, .bipush (-100), 2, 0, 0, 0, _) from rfl) (Or.inl ⟨.int (-100), rfl, rfl⟩) ?_
        refine XW.fam (S' := (57, [(2, .int yQ3), (0, .ref 0), (1, .int xv)], [.int yQ3, .int (-100)], (sh, I4, LQ3, R))) (M := mr_91) rfl (show mcode 91 56 = some (56, .iload_n 2, 1, 0, 0, 0, _) from rfl) (Or.inl ⟨.int yQ3, rfl, rfl⟩) ?_
        refine XW.fam (S' := (58, [(2, .int yQ3), (0, .ref 0), (1, .int xv)], [.int ((-100) - yQ3)], (sh, I4, LQ3, R))) (M := mr_91) rfl (show mcode 91 57 = some (57, .isub, 1, 0, 0, 0, _) from rfl) (Or.inr (Or.inr (Or.inr (Or.inr (Or.inr (Or.inl ⟨_, rfl, rfl⟩)))))) ?_
        refine XW.fam (S' := (73, [(2, .int yQ3), (0, .ref 0), (1, .int xv)], [.int ((-100) - yQ3)], (sh, I4, LQ3, R))) (M := mr_91) rfl (show mcode 91 58 = some (58, .goto 15, 3, 73, 0, 0, _) from rfl) (Or.inr (Or.inl ⟨73, [.int ((-100) - yQ3)], rfl, rfl⟩)) ?_
        refine XW.ret (r := some (.int ((-100) - yQ3))) ⟨⟨.int, rfl, rfl⟩, by decide +kernel⟩ ?_
        have ec : (ruC td.toInt xv.toInt rv.toInt (gFl (fun k => (I 42 k).toInt) (I 41 0).toInt.toNat)) = 2 := by
          unfold ruC
          rw [if_pos (by omega), if_neg (by omega), if_neg (by omega)]
        rw [ec]
        refine ⟨⟨⟨_, rfl, ?_⟩, fun q k hq z => ?_, ?_, ?_, fun k => ?_, fun k => ?_⟩, hfI4, sh, R, hwI4⟩
        · show ((-100 : Int32) - yQ3).toInt = -100 - gFl (fun k => (I 42 k).toInt) (I 41 0).toInt.toNat
          rw [sub100 (fl := yQ3) (by omega) (by omega), hyQ3]
        · show I4 q k = I q k
          rw [eI4, up2_ne (fun e => (mdR_ne z).2.2.2 e.1)]
          exact hkQ3 q k (inm_Tl z)
        · exact congrArg Int32.toInt (show I4 41 0 = 0 by rw [eI4]; exact up2_eq)
        · show (I4 47 3).toInt = (I 47 3).toInt
          rw [v6, erv]
        · rw [ruW_n (by decide)]
          show (I4 48 k).toInt = (I 48 k).toInt
          rw [eI4, up2_ne (fun e => by cases e.1), hkQ3 48 k rfl]
        · rw [ruW_n (by decide)]
          show (I4 49 k).toInt = (I 49 k).toInt
          rw [eI4, up2_ne (fun e => by cases e.1), hkQ3 49 k rfl]
    | false =>
      have gk2 : ¬ ((rv).toInt < 20) := icF (c := .lt) (a := (rv).toInt) (b := 20) rfl (by decide) k2
      refine XW.fam (S' := (31, [(0, .ref 0), (1, .int xv)], [], (sh, I, L, R))) (M := mr_91) rfl (show mcode 91 28 = some (28, .if_icmp .lt 6, 3, 34, 0, 0, _) from rfl) (Or.inr (Or.inl ⟨31, [], by simp [brn, k2], rfl⟩)) ?_
      refine XW.fam (S' := (33, [(0, .ref 0), (1, .int xv)], [.int (-3)], (sh, I, L, R))) (M := mr_91) rfl (show mcode 91 31 = some (31, .bipush (-3), 2, 0, 0, 0, _) from rfl) (Or.inl ⟨.int (-3), rfl, rfl⟩) ?_
      refine XW.ret (r := some (.int (-3))) ⟨⟨.int, rfl, rfl⟩, by decide +kernel⟩ ?_
      first
        | (have ec : (ruC td.toInt xv.toInt rv.toInt (gFl (fun k => (I 42 k).toInt) (I 41 0).toInt.toNat)) = 0 := if_neg (by omega)
           rw [ec]
           exact ⟨RUC_same (by decide) rfl, hf, sh, R, hw⟩)
        | (have ec : (ruC td.toInt xv.toInt rv.toInt (gFl (fun k => (I 42 k).toInt) (I 41 0).toInt.toNat)) = 1 := by
             unfold ruC
             rw [if_pos (by omega), if_pos (by omega)]
           rw [ec]
           exact ⟨RUC_same (by decide) rfl, hf, sh, R, hw⟩)
