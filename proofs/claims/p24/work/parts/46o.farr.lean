/-! ===== rail with the ways; far alike (wip/genfar3.py) ===== -/
/-- our ways behind a rail: as they were, or through it -/
def R8r (a b dd : Int32) (w w' : mW) : Prop := (¬ dd.toInt < rwT w.2.1 8 a.toInt.toNat b.toInt.toNat ∧ ∀ k, w'.2.1 8 k = w.2.1 8 k) ∨ (dd.toInt < rwT w.2.1 8 a.toInt.toNat b.toInt.toNat ∧ (∀ x y : Nat, x < (w.2.1 1 1).toInt.toNat → y < (w.2.1 1 1).toInt.toNat → rwT w'.2.1 8 x y = shF (rwT w.2.1 8) a.toInt.toNat b.toInt.toNat dd.toInt x y) ∧ ∀ x y : Nat, x < 20 → y < 20 → ¬ (x < (w.2.1 1 1).toInt.toNat ∧ y < (w.2.1 1 1).toInt.toNat) → rwT w'.2.1 8 x y = rwT w.2.1 8 x y)
theorem tc_lay8 {d : Nat} {sh : List mE} {I : Nat → Nat → Int32} {L : Nat → Nat → Int64} {R : Nat → Nat → Option Nat} {a b dd e : Int32} (hw : wOK (mkT vV []) (wE sh R) (sh, I, L, R)) (hf : fresh (sh, I, L, R)) {rr : Nat → Nat → Int} (hM : Mtrc (I 1 1).toInt.toNat 1000000 rr (rwT I 8)) : Tc 18 (d + 2) 0 0 [.ref 1, .int a, .int b, .int dd, .int e] (sh, I, L, R) (fun r w' => Qrail 5 (okR (I 1 1).toInt a b dd e) (spI a b).toNat (spI a b).toNat dd mdRC (sh, I, L, R) r w' ∧ (okR (I 1 1).toInt a b dd e → R8r a b dd (sh, I, L, R) w')) := by
  have c1 : sh[1]? = some (.inr 1) := hw.1 1 _ rfl
  have c5 : sh[5]? = some (.inl (.int, 400)) := hw.1 5 _ rfl
  have c6 : sh[6]? = some (.inl (.int, 400)) := hw.1 6 _ rfl
  have c8 : sh[8]? = some (.inl (.int, 400)) := hw.1 8 _ rfl
  have r1_5 : R 1 5 = some 5 := hw.2.1 1 5 _ rfl
  have r1_6 : R 1 6 = some 6 := hw.2.1 1 6 _ rfl
  have r1_8 : R 1 8 = some 8 := hw.2.1 1 8 _ rfl
  have zm1 : ((-1) : Int32).toInt = (-1) := rfl
  have z0 : (0 : Int32).toInt = 0 := rfl
  have z1 : (1 : Int32).toInt = 1 := rfl
  have z9 : (9 : Int32).toInt = 9 := rfl
  have z99 : (99 : Int32).toInt = 99 := rfl
  have hm : 0 ≤ (I 1 1).toInt ∧ (I 1 1).toInt ≤ 20 := hw.2.2.1 1 1
  refine Tc.of mr_18 rfl (show 5 ≤ mr_18.2.2.2.1 by decide) ?_
  refine XW.fam (S' := (1, [(0, .ref 1), (1, .int a), (2, .int b), (3, .int dd), (4, .int e)], [.ref 1], (sh, I, L, R))) (M := mr_18) rfl (show mcode 18 0 = some (0, .aload_n 0, 1, 0, 0, 0, _) from rfl) (Or.inl ⟨.ref 1, rfl, rfl⟩) ?_
  refine XW.fam (S' := (2, [(0, .ref 1), (1, .int a), (2, .int b), (3, .int dd), (4, .int e)], [.int a, .ref 1], (sh, I, L, R))) (M := mr_18) rfl (show mcode 18 1 = some (1, .iload_n 1, 1, 0, 0, 0, _) from rfl) (Or.inl ⟨.int a, rfl, rfl⟩) ?_
  refine XW.call (d' := d) (mc' := 0) (ms' := 0) (av := [.ref 1, .int a]) (rest := []) (M := mr_18) (Ma := mr_19) rfl (show mcode 18 2 = some (2, .invokevirtual 37, 3, 19, 0, 0, _) from rfl) rfl (by decide) (by decide) ⟨rfl, 1, _, rfl, c1⟩ rfl rfl (show 0 ≤ 8 by decide) (tc_isPlC (d := d) hw) (by omega) (Nat.zero_le _) (Nat.zero_le _) (fun rQ1 wQ1 Q1 => ?_)
  obtain ⟨hQ1, rfl⟩ := Q1
  rcases hQ1 with ⟨rfl, gQ1⟩ | ⟨rfl, gQ1⟩
  · skip
    refine XW.fam (S' := (42, [(0, .ref 1), (1, .int a), (2, .int b), (3, .int dd), (4, .int e)], [], (sh, I, L, R))) (M := mr_18) rfl (show mcode 18 5 = some (5, .ifCond .eq 37, 3, 42, 0, 0, _) from rfl) (Or.inr (Or.inl ⟨42, [], rfl, rfl⟩)) ?_
    refine XW.fam (S' := (43, [(0, .ref 1), (1, .int a), (2, .int b), (3, .int dd), (4, .int e)], [.int (-1)], (sh, I, L, R))) (M := mr_18) rfl (show mcode 18 42 = some (42, .iconst (-1), 1, 0, 0, 0, _) from rfl) (Or.inl ⟨.int (-1), rfl, rfl⟩) ?_
    refine XW.ret (r := some (.int (-1))) ⟨⟨.int, rfl, rfl⟩, by decide +kernel⟩ ?_
    refine ⟨?_, fun q => ?_⟩
    · exact ⟨hf, ⟨sh, R, hw⟩, Or.inl ⟨fun q => by have q1 : okR (I 1 1).toInt a b dd e := q; unfold okR at q1; omega, rfl, rfl⟩⟩
    · exfalso
      have q1 : okR (I 1 1).toInt a b dd e := q
      unfold okR at q1
      omega
  · skip
    refine XW.fam (S' := (8, [(0, .ref 1), (1, .int a), (2, .int b), (3, .int dd), (4, .int e)], [], (sh, I, L, R))) (M := mr_18) rfl (show mcode 18 5 = some (5, .ifCond .eq 37, 3, 42, 0, 0, _) from rfl) (Or.inr (Or.inl ⟨8, [], rfl, rfl⟩)) ?_
    refine XW.fam (S' := (9, [(0, .ref 1), (1, .int a), (2, .int b), (3, .int dd), (4, .int e)], [.ref 1], (sh, I, L, R))) (M := mr_18) rfl (show mcode 18 8 = some (8, .aload_n 0, 1, 0, 0, 0, _) from rfl) (Or.inl ⟨.ref 1, rfl, rfl⟩) ?_
    refine XW.fam (S' := (10, [(0, .ref 1), (1, .int a), (2, .int b), (3, .int dd), (4, .int e)], [.int b, .ref 1], (sh, I, L, R))) (M := mr_18) rfl (show mcode 18 9 = some (9, .iload_n 2, 1, 0, 0, 0, _) from rfl) (Or.inl ⟨.int b, rfl, rfl⟩) ?_
    refine XW.call (d' := d) (mc' := 0) (ms' := 0) (av := [.ref 1, .int b]) (rest := []) (M := mr_18) (Ma := mr_19) rfl (show mcode 18 10 = some (10, .invokevirtual 37, 3, 19, 0, 0, _) from rfl) rfl (by decide) (by decide) ⟨rfl, 1, _, rfl, c1⟩ rfl rfl (show 0 ≤ 8 by decide) (tc_isPlC (d := d) hw) (by omega) (Nat.zero_le _) (Nat.zero_le _) (fun rQ2 wQ2 Q2 => ?_)
    obtain ⟨hQ2, rfl⟩ := Q2
    rcases hQ2 with ⟨rfl, gQ2⟩ | ⟨rfl, gQ2⟩
    · skip
      refine XW.fam (S' := (42, [(0, .ref 1), (1, .int a), (2, .int b), (3, .int dd), (4, .int e)], [], (sh, I, L, R))) (M := mr_18) rfl (show mcode 18 13 = some (13, .ifCond .eq 29, 3, 42, 0, 0, _) from rfl) (Or.inr (Or.inl ⟨42, [], rfl, rfl⟩)) ?_
      refine XW.fam (S' := (43, [(0, .ref 1), (1, .int a), (2, .int b), (3, .int dd), (4, .int e)], [.int (-1)], (sh, I, L, R))) (M := mr_18) rfl (show mcode 18 42 = some (42, .iconst (-1), 1, 0, 0, 0, _) from rfl) (Or.inl ⟨.int (-1), rfl, rfl⟩) ?_
      refine XW.ret (r := some (.int (-1))) ⟨⟨.int, rfl, rfl⟩, by decide +kernel⟩ ?_
      refine ⟨?_, fun q => ?_⟩
      · exact ⟨hf, ⟨sh, R, hw⟩, Or.inl ⟨fun q => by have q1 : okR (I 1 1).toInt a b dd e := q; unfold okR at q1; omega, rfl, rfl⟩⟩
      · exfalso
        have q1 : okR (I 1 1).toInt a b dd e := q
        unfold okR at q1
        omega
    · skip
      refine XW.fam (S' := (16, [(0, .ref 1), (1, .int a), (2, .int b), (3, .int dd), (4, .int e)], [], (sh, I, L, R))) (M := mr_18) rfl (show mcode 18 13 = some (13, .ifCond .eq 29, 3, 42, 0, 0, _) from rfl) (Or.inr (Or.inl ⟨16, [], rfl, rfl⟩)) ?_
      refine XW.fam (S' := (17, [(0, .ref 1), (1, .int a), (2, .int b), (3, .int dd), (4, .int e)], [.int a], (sh, I, L, R))) (M := mr_18) rfl (show mcode 18 16 = some (16, .iload_n 1, 1, 0, 0, 0, _) from rfl) (Or.inl ⟨.int a, rfl, rfl⟩) ?_
      refine XW.fam (S' := (18, [(0, .ref 1), (1, .int a), (2, .int b), (3, .int dd), (4, .int e)], [.int b, .int a], (sh, I, L, R))) (M := mr_18) rfl (show mcode 18 17 = some (17, .iload_n 2, 1, 0, 0, 0, _) from rfl) (Or.inl ⟨.int b, rfl, rfl⟩) ?_
      cases k3 : bcmp .eq a b with
      | true =>
        have gk3 : (a).toInt = (b).toInt := icT (c := .eq) (a := (a).toInt) (b := (b).toInt) rfl rfl k3
        refine XW.fam (S' := (42, [(0, .ref 1), (1, .int a), (2, .int b), (3, .int dd), (4, .int e)], [], (sh, I, L, R))) (M := mr_18) rfl (show mcode 18 18 = some (18, .if_icmp .eq 24, 3, 42, 0, 0, _) from rfl) (Or.inr (Or.inl ⟨42, [], by simp [brn, k3], rfl⟩)) ?_
        refine XW.fam (S' := (43, [(0, .ref 1), (1, .int a), (2, .int b), (3, .int dd), (4, .int e)], [.int (-1)], (sh, I, L, R))) (M := mr_18) rfl (show mcode 18 42 = some (42, .iconst (-1), 1, 0, 0, 0, _) from rfl) (Or.inl ⟨.int (-1), rfl, rfl⟩) ?_
        refine XW.ret (r := some (.int (-1))) ⟨⟨.int, rfl, rfl⟩, by decide +kernel⟩ ?_
        refine ⟨?_, fun q => ?_⟩
        · exact ⟨hf, ⟨sh, R, hw⟩, Or.inl ⟨fun q => by have q1 : okR (I 1 1).toInt a b dd e := q; unfold okR at q1; omega, rfl, rfl⟩⟩
        · exfalso
          have q1 : okR (I 1 1).toInt a b dd e := q
          unfold okR at q1
          omega
      | false =>
        have gk3 : ¬ ((a).toInt = (b).toInt) := icF (c := .eq) (a := (a).toInt) (b := (b).toInt) rfl rfl k3
        refine XW.fam (S' := (21, [(0, .ref 1), (1, .int a), (2, .int b), (3, .int dd), (4, .int e)], [], (sh, I, L, R))) (M := mr_18) rfl (show mcode 18 18 = some (18, .if_icmp .eq 24, 3, 42, 0, 0, _) from rfl) (Or.inr (Or.inl ⟨21, [], by simp [brn, k3], rfl⟩)) ?_
        refine XW.fam (S' := (22, [(0, .ref 1), (1, .int a), (2, .int b), (3, .int dd), (4, .int e)], [.int dd], (sh, I, L, R))) (M := mr_18) rfl (show mcode 18 21 = some (21, .iload_n 3, 1, 0, 0, 0, _) from rfl) (Or.inl ⟨.int dd, rfl, rfl⟩) ?_
        refine XW.fam (S' := (23, [(0, .ref 1), (1, .int a), (2, .int b), (3, .int dd), (4, .int e)], [.int 1, .int dd], (sh, I, L, R))) (M := mr_18) rfl (show mcode 18 22 = some (22, .iconst 1, 1, 0, 0, 0, _) from rfl) (Or.inl ⟨.int 1, rfl, rfl⟩) ?_
        refine XW.fam (S' := (25, [(0, .ref 1), (1, .int a), (2, .int b), (3, .int dd), (4, .int e)], [.int 9, .int 1, .int dd], (sh, I, L, R))) (M := mr_18) rfl (show mcode 18 23 = some (23, .bipush 9, 2, 0, 0, 0, _) from rfl) (Or.inl ⟨.int 9, rfl, rfl⟩) ?_
        refine XW.call (d' := d) (mc' := 0) (ms' := 0) (av := [.int dd, .int 1, .int 9]) (rest := []) (M := mr_18) (Ma := mr_15) rfl (show mcode 18 25 = some (25, .invokestatic 41, 3, 15, 1, 0, _) from rfl) rfl (by decide) (by decide) rfl rfl rfl (show 0 ≤ 8 by decide) (tc_inC) (by omega) (Nat.zero_le _) (Nat.zero_le _) (fun rQ4 wQ4 Q4 => ?_)
        obtain ⟨hQ4, rfl⟩ := Q4
        rcases hQ4 with ⟨rfl, gQ4⟩ | ⟨rfl, gQ4⟩
        · skip
          refine XW.fam (S' := (42, [(0, .ref 1), (1, .int a), (2, .int b), (3, .int dd), (4, .int e)], [], (sh, I, L, R))) (M := mr_18) rfl (show mcode 18 28 = some (28, .ifCond .eq 14, 3, 42, 0, 0, _) from rfl) (Or.inr (Or.inl ⟨42, [], rfl, rfl⟩)) ?_
          refine XW.fam (S' := (43, [(0, .ref 1), (1, .int a), (2, .int b), (3, .int dd), (4, .int e)], [.int (-1)], (sh, I, L, R))) (M := mr_18) rfl (show mcode 18 42 = some (42, .iconst (-1), 1, 0, 0, 0, _) from rfl) (Or.inl ⟨.int (-1), rfl, rfl⟩) ?_
          refine XW.ret (r := some (.int (-1))) ⟨⟨.int, rfl, rfl⟩, by decide +kernel⟩ ?_
          refine ⟨?_, fun q => ?_⟩
          · exact ⟨hf, ⟨sh, R, hw⟩, Or.inl ⟨fun q => by have q1 : okR (I 1 1).toInt a b dd e := q; unfold okR at q1; omega, rfl, rfl⟩⟩
          · exfalso
            have q1 : okR (I 1 1).toInt a b dd e := q
            unfold okR at q1
            omega
        · skip
          refine XW.fam (S' := (31, [(0, .ref 1), (1, .int a), (2, .int b), (3, .int dd), (4, .int e)], [], (sh, I, L, R))) (M := mr_18) rfl (show mcode 18 28 = some (28, .ifCond .eq 14, 3, 42, 0, 0, _) from rfl) (Or.inr (Or.inl ⟨31, [], rfl, rfl⟩)) ?_
          refine XW.fam (S' := (33, [(0, .ref 1), (1, .int a), (2, .int b), (3, .int dd), (4, .int e)], [.int e], (sh, I, L, R))) (M := mr_18) rfl (show mcode 18 31 = some (31, .iload 4, 2, 0, 0, 0, _) from rfl) (Or.inl ⟨.int e, rfl, rfl⟩) ?_
          refine XW.fam (S' := (34, [(0, .ref 1), (1, .int a), (2, .int b), (3, .int dd), (4, .int e)], [.int 1, .int e], (sh, I, L, R))) (M := mr_18) rfl (show mcode 18 33 = some (33, .iconst 1, 1, 0, 0, 0, _) from rfl) (Or.inl ⟨.int 1, rfl, rfl⟩) ?_
          refine XW.fam (S' := (36, [(0, .ref 1), (1, .int a), (2, .int b), (3, .int dd), (4, .int e)], [.int 99, .int 1, .int e], (sh, I, L, R))) (M := mr_18) rfl (show mcode 18 34 = some (34, .bipush 99, 2, 0, 0, 0, _) from rfl) (Or.inl ⟨.int 99, rfl, rfl⟩) ?_
          refine XW.call (d' := d) (mc' := 0) (ms' := 0) (av := [.int e, .int 1, .int 99]) (rest := []) (M := mr_18) (Ma := mr_15) rfl (show mcode 18 36 = some (36, .invokestatic 41, 3, 15, 1, 0, _) from rfl) rfl (by decide) (by decide) rfl rfl rfl (show 0 ≤ 8 by decide) (tc_inC) (by omega) (Nat.zero_le _) (Nat.zero_le _) (fun rQ5 wQ5 Q5 => ?_)
          obtain ⟨hQ5, rfl⟩ := Q5
          rcases hQ5 with ⟨rfl, gQ5⟩ | ⟨rfl, gQ5⟩
          · skip
            refine XW.fam (S' := (42, [(0, .ref 1), (1, .int a), (2, .int b), (3, .int dd), (4, .int e)], [], (sh, I, L, R))) (M := mr_18) rfl (show mcode 18 39 = some (39, .ifCond .ne 5, 3, 44, 0, 0, _) from rfl) (Or.inr (Or.inl ⟨42, [], rfl, rfl⟩)) ?_
            refine XW.fam (S' := (43, [(0, .ref 1), (1, .int a), (2, .int b), (3, .int dd), (4, .int e)], [.int (-1)], (sh, I, L, R))) (M := mr_18) rfl (show mcode 18 42 = some (42, .iconst (-1), 1, 0, 0, 0, _) from rfl) (Or.inl ⟨.int (-1), rfl, rfl⟩) ?_
            refine XW.ret (r := some (.int (-1))) ⟨⟨.int, rfl, rfl⟩, by decide +kernel⟩ ?_
            refine ⟨?_, fun q => ?_⟩
            · exact ⟨hf, ⟨sh, R, hw⟩, Or.inl ⟨fun q => by have q1 : okR (I 1 1).toInt a b dd e := q; unfold okR at q1; omega, rfl, rfl⟩⟩
            · exfalso
              have q1 : okR (I 1 1).toInt a b dd e := q
              unfold okR at q1
              omega
          · skip
            refine XW.fam (S' := (44, [(0, .ref 1), (1, .int a), (2, .int b), (3, .int dd), (4, .int e)], [], (sh, I, L, R))) (M := mr_18) rfl (show mcode 18 39 = some (39, .ifCond .ne 5, 3, 44, 0, 0, _) from rfl) (Or.inr (Or.inl ⟨44, [], rfl, rfl⟩)) ?_
            refine XW.fam (S' := (45, [(0, .ref 1), (1, .int a), (2, .int b), (3, .int dd), (4, .int e)], [.int a], (sh, I, L, R))) (M := mr_18) rfl (show mcode 18 44 = some (44, .iload_n 1, 1, 0, 0, 0, _) from rfl) (Or.inl ⟨.int a, rfl, rfl⟩) ?_
            refine XW.fam (S' := (46, [(0, .ref 1), (1, .int a), (2, .int b), (3, .int dd), (4, .int e)], [.int b, .int a], (sh, I, L, R))) (M := mr_18) rfl (show mcode 18 45 = some (45, .iload_n 2, 1, 0, 0, 0, _) from rfl) (Or.inl ⟨.int b, rfl, rfl⟩) ?_
            refine XW.call (d' := d + 1) (mc' := 0) (ms' := 0) (av := [.int a, .int b]) (rest := []) (M := mr_18) (Ma := mr_20) rfl (show mcode 18 46 = some (46, .invokestatic 58, 3, 20, 0, 0, _) from rfl) rfl (by decide) (by decide) rfl rfl rfl (show 0 ≤ 8 by decide) (tc_rspot (d := d) (a := a) (b := b) (by omega) (by omega)) (by omega) (Nat.zero_le _) (Nat.zero_le _) (fun rQ6 wQ6 Q6 => ?_)
            obtain ⟨⟨x, rfl, hx⟩, rfl⟩ := Q6
            have hsp := spI_rng (a := a) (b := b) (by omega) (by omega)
            have hkx : (x).toNatClampNeg = (spI a b).toNat := by show (x).toInt.toNat = _; rw [hx]
            obtain ⟨v0, ev0⟩ : ∃ z, I 5 (x).toNatClampNeg = z := ⟨_, rfl⟩
            have hv0 : 0 ≤ (I 5 (x).toNatClampNeg).toInt ∧ (I 5 (x).toNatClampNeg).toInt ≤ 9 := hw.2.2.1 5 _
            rw [ev0] at hv0
            refine XW.fam (S' := (51, [(5, .int x), (0, .ref 1), (1, .int a), (2, .int b), (3, .int dd), (4, .int e)], [], (sh, I, L, R))) (M := mr_18) rfl (show mcode 18 49 = some (49, .istore 5, 2, 0, 0, 0, _) from rfl) (Or.inr (Or.inr (Or.inr (Or.inr (Or.inr (Or.inr (Or.inl ⟨_, [], _, rfl, rfl, rfl⟩))))))) ?_
            refine XW.fam (S' := (52, [(5, .int x), (0, .ref 1), (1, .int a), (2, .int b), (3, .int dd), (4, .int e)], [.ref 1], (sh, I, L, R))) (M := mr_18) rfl (show mcode 18 51 = some (51, .aload_n 0, 1, 0, 0, 0, _) from rfl) (Or.inl ⟨.ref 1, rfl, rfl⟩) ?_
            refine XW.fam (S' := (55, [(5, .int x), (0, .ref 1), (1, .int a), (2, .int b), (3, .int dd), (4, .int e)], [.ref 6], (sh, I, L, R))) (M := mr_18) rfl (show mcode 18 52 = some (52, .getfield 24, 3, 1, 6, 0, _) from rfl) (Or.inr (Or.inr (Or.inr (Or.inr (Or.inr (Or.inr (Or.inr (Or.inl ⟨_, _, rfl, fl_ld c1 r1_6 (by decide) (by decide), rfl⟩)))))))) ?_
            refine XW.fam (S' := (57, [(5, .int x), (0, .ref 1), (1, .int a), (2, .int b), (3, .int dd), (4, .int e)], [.int x, .ref 6], (sh, I, L, R))) (M := mr_18) rfl (show mcode 18 55 = some (55, .iload 5, 2, 0, 0, 0, _) from rfl) (Or.inl ⟨.int x, rfl, rfl⟩) ?_
            refine XW.fam (S' := (59, [(5, .int x), (0, .ref 1), (1, .int a), (2, .int b), (3, .int dd), (4, .int e)], [.int e, .int x, .ref 6], (sh, I, L, R))) (M := mr_18) rfl (show mcode 18 57 = some (57, .iload 4, 2, 0, 0, 0, _) from rfl) (Or.inl ⟨.int e, rfl, rfl⟩) ?_
            have hin7 : inR x 400 = true := inR_of (by omega) (by omega)
            obtain ⟨I8, eI8⟩ : ∃ X, X = up2 I 6 (x).toNatClampNeg e := ⟨_, rfl⟩
            refine XW.fam (S' := (60, [(5, .int x), (0, .ref 1), (1, .int a), (2, .int b), (3, .int dd), (4, .int e)], [], (sh, I8, L, R))) (M := mr_18) rfl (show mcode 18 59 = some (59, .iastore, 1, 0, 0, 0, _) from rfl) (Or.inr (Or.inr (Or.inr (Or.inl ⟨_, _, by rw [eI8]; exact sta_i c6 hin7, rfl⟩)))) ?_
            have hwI8 : wOK (mkT vV []) (wE sh R) (sh, I8, L, R) := by rw [eI8]; exact wOK_u2 (q := 6) (k := (x).toNatClampNeg) (x := e) wE_put hw rfl (by show (0 : Int) ≤ _; omega) (by show _ ≤ (99 : Int); omega)
            have hfI8 : fresh (sh, I8, L, R) := by rw [eI8]; exact fresh_I hf c6
            have v9 : I8 5 (x).toNatClampNeg = v0 := by rw [eI8, up2_ne (fun e => by cases e.1)]; exact ev0
            have v10 : I8 6 (x).toNatClampNeg = e := by rw [eI8]; exact up2_eq
            refine XW.fam (S' := (61, [(5, .int x), (0, .ref 1), (1, .int a), (2, .int b), (3, .int dd), (4, .int e)], [.ref 1], (sh, I8, L, R))) (M := mr_18) rfl (show mcode 18 60 = some (60, .aload_n 0, 1, 0, 0, 0, _) from rfl) (Or.inl ⟨.ref 1, rfl, rfl⟩) ?_
            refine XW.fam (S' := (64, [(5, .int x), (0, .ref 1), (1, .int a), (2, .int b), (3, .int dd), (4, .int e)], [.ref 5], (sh, I8, L, R))) (M := mr_18) rfl (show mcode 18 61 = some (61, .getfield 21, 3, 1, 5, 0, _) from rfl) (Or.inr (Or.inr (Or.inr (Or.inr (Or.inr (Or.inr (Or.inr (Or.inl ⟨_, _, rfl, fl_ld c1 r1_5 (by decide) (by decide), rfl⟩)))))))) ?_
            refine XW.fam (S' := (66, [(5, .int x), (0, .ref 1), (1, .int a), (2, .int b), (3, .int dd), (4, .int e)], [.int x, .ref 5], (sh, I8, L, R))) (M := mr_18) rfl (show mcode 18 64 = some (64, .iload 5, 2, 0, 0, 0, _) from rfl) (Or.inl ⟨.int x, rfl, rfl⟩) ?_
            have hin11 : inR x 400 = true := inR_of (by omega) (by omega)
            refine XW.fam (S' := (67, [(5, .int x), (0, .ref 1), (1, .int a), (2, .int b), (3, .int dd), (4, .int e)], [.int (I8 5 (x).toNatClampNeg)], (sh, I8, L, R))) (M := mr_18) rfl (show mcode 18 66 = some (66, .iaload, 1, 0, 0, 0, _) from rfl) (Or.inr (Or.inr (Or.inl ⟨_, lda_i c5 hin11, rfl⟩))) ?_
            rw [v9]
            cases k12 : bcmp .eq v0 0 with
            | true =>
              have gk12 : (v0).toInt = 0 := icT (c := .eq) (a := (v0).toInt) (b := 0) rfl (by decide) k12
              refine XW.fam (S' := (81, [(5, .int x), (0, .ref 1), (1, .int a), (2, .int b), (3, .int dd), (4, .int e)], [], (sh, I8, L, R))) (M := mr_18) rfl (show mcode 18 67 = some (67, .ifCond .eq 14, 3, 81, 0, 0, _) from rfl) (Or.inr (Or.inl ⟨81, [], by simp [brn, k12], rfl⟩)) ?_
              refine XW.fam (S' := (82, [(5, .int x), (0, .ref 1), (1, .int a), (2, .int b), (3, .int dd), (4, .int e)], [.ref 1], (sh, I8, L, R))) (M := mr_18) rfl (show mcode 18 81 = some (81, .aload_n 0, 1, 0, 0, 0, _) from rfl) (Or.inl ⟨.ref 1, rfl, rfl⟩) ?_
              refine XW.fam (S' := (85, [(5, .int x), (0, .ref 1), (1, .int a), (2, .int b), (3, .int dd), (4, .int e)], [.ref 5], (sh, I8, L, R))) (M := mr_18) rfl (show mcode 18 82 = some (82, .getfield 21, 3, 1, 5, 0, _) from rfl) (Or.inr (Or.inr (Or.inr (Or.inr (Or.inr (Or.inr (Or.inr (Or.inl ⟨_, _, rfl, fl_ld c1 r1_5 (by decide) (by decide), rfl⟩)))))))) ?_
              refine XW.fam (S' := (87, [(5, .int x), (0, .ref 1), (1, .int a), (2, .int b), (3, .int dd), (4, .int e)], [.int x, .ref 5], (sh, I8, L, R))) (M := mr_18) rfl (show mcode 18 85 = some (85, .iload 5, 2, 0, 0, 0, _) from rfl) (Or.inl ⟨.int x, rfl, rfl⟩) ?_
              refine XW.fam (S' := (88, [(5, .int x), (0, .ref 1), (1, .int a), (2, .int b), (3, .int dd), (4, .int e)], [.int dd, .int x, .ref 5], (sh, I8, L, R))) (M := mr_18) rfl (show mcode 18 87 = some (87, .iload_n 3, 1, 0, 0, 0, _) from rfl) (Or.inl ⟨.int dd, rfl, rfl⟩) ?_
              have hin13 : inR x 400 = true := inR_of (by omega) (by omega)
              obtain ⟨I14, eI14⟩ : ∃ X, X = up2 I8 5 (x).toNatClampNeg dd := ⟨_, rfl⟩
              refine XW.fam (S' := (89, [(5, .int x), (0, .ref 1), (1, .int a), (2, .int b), (3, .int dd), (4, .int e)], [], (sh, I14, L, R))) (M := mr_18) rfl (show mcode 18 88 = some (88, .iastore, 1, 0, 0, 0, _) from rfl) (Or.inr (Or.inr (Or.inr (Or.inl ⟨_, _, by rw [eI14]; exact sta_i c5 hin13, rfl⟩)))) ?_
              have hwI14 : wOK (mkT vV []) (wE sh R) (sh, I14, L, R) := by rw [eI14]; exact wOK_u2 (q := 5) (k := (x).toNatClampNeg) (x := dd) wE_put hwI8 rfl (by show (0 : Int) ≤ _; omega) (by show _ ≤ (9 : Int); omega)
              have hfI14 : fresh (sh, I14, L, R) := by rw [eI14]; exact fresh_I hfI8 c5
              have v16 : I14 6 (x).toNatClampNeg = e := by rw [eI14, up2_ne (fun e => by cases e.1)]; exact v10
              have v17 : I14 5 (x).toNatClampNeg = dd := by rw [eI14]; exact up2_eq
              refine XW.fam (S' := (90, [(5, .int x), (0, .ref 1), (1, .int a), (2, .int b), (3, .int dd), (4, .int e)], [.int dd], (sh, I14, L, R))) (M := mr_18) rfl (show mcode 18 89 = some (89, .iload_n 3, 1, 0, 0, 0, _) from rfl) (Or.inl ⟨.int dd, rfl, rfl⟩) ?_
              refine XW.fam (S' := (91, [(5, .int x), (0, .ref 1), (1, .int a), (2, .int b), (3, .int dd), (4, .int e)], [.ref 1, .int dd], (sh, I14, L, R))) (M := mr_18) rfl (show mcode 18 90 = some (90, .aload_n 0, 1, 0, 0, 0, _) from rfl) (Or.inl ⟨.ref 1, rfl, rfl⟩) ?_
              refine XW.fam (S' := (94, [(5, .int x), (0, .ref 1), (1, .int a), (2, .int b), (3, .int dd), (4, .int e)], [.ref 8, .int dd], (sh, I14, L, R))) (M := mr_18) rfl (show mcode 18 91 = some (91, .getfield 30, 3, 1, 8, 0, _) from rfl) (Or.inr (Or.inr (Or.inr (Or.inr (Or.inr (Or.inr (Or.inr (Or.inl ⟨_, _, rfl, fl_ld c1 r1_8 (by decide) (by decide), rfl⟩)))))))) ?_
              refine XW.fam (S' := (95, [(5, .int x), (0, .ref 1), (1, .int a), (2, .int b), (3, .int dd), (4, .int e)], [.int a, .ref 8, .int dd], (sh, I14, L, R))) (M := mr_18) rfl (show mcode 18 94 = some (94, .iload_n 1, 1, 0, 0, 0, _) from rfl) (Or.inl ⟨.int a, rfl, rfl⟩) ?_
              refine XW.fam (S' := (96, [(5, .int x), (0, .ref 1), (1, .int a), (2, .int b), (3, .int dd), (4, .int e)], [.int b, .int a, .ref 8, .int dd], (sh, I14, L, R))) (M := mr_18) rfl (show mcode 18 95 = some (95, .iload_n 2, 1, 0, 0, 0, _) from rfl) (Or.inl ⟨.int b, rfl, rfl⟩) ?_
              refine XW.call (d' := d) (mc' := 0) (ms' := 0) (av := [.int a, .int b]) (rest := [.ref 8, .int dd]) (M := mr_18) (Ma := mr_16) rfl (show mcode 18 96 = some (96, .invokestatic 45, 3, 16, 0, 0, _) from rfl) rfl (by decide) (by decide) rfl rfl rfl (show 2 ≤ 8 by decide) (tc_spot) (by omega) (Nat.zero_le _) (Nat.zero_le _) (fun rQ18 wQ18 Q18 => ?_)
              obtain ⟨rfl, rfl⟩ := Q18
              have xhin19 : ((a * 20 + b)).toInt = 20 * a.toInt + b.toInt := ix20 (by omega) (by omega)
              have hin19 : inR (a * 20 + b) 400 = true := inR_of (by omega) (by omega)
              refine XW.fam (S' := (100, [(5, .int x), (0, .ref 1), (1, .int a), (2, .int b), (3, .int dd), (4, .int e)], [.int (I14 8 ((a * 20 + b)).toNatClampNeg), .int dd], (sh, I14, L, R))) (M := mr_18) rfl (show mcode 18 99 = some (99, .iaload, 1, 0, 0, 0, _) from rfl) (Or.inr (Or.inr (Or.inl ⟨_, lda_i c8 hin19, rfl⟩))) ?_
              cases k20 : bcmp .ge dd (I14 8 ((a * 20 + b)).toNatClampNeg) with
              | true =>
                have gk20 : ((I14 8 ((a * 20 + b)).toNatClampNeg)).toInt ≤ (dd).toInt := icT (c := .ge) (a := (dd).toInt) (b := ((I14 8 ((a * 20 + b)).toNatClampNeg)).toInt) rfl rfl k20
                refine XW.fam (S' := (110, [(5, .int x), (0, .ref 1), (1, .int a), (2, .int b), (3, .int dd), (4, .int e)], [], (sh, I14, L, R))) (M := mr_18) rfl (show mcode 18 100 = some (100, .if_icmp .ge 10, 3, 110, 0, 0, _) from rfl) (Or.inr (Or.inl ⟨110, [], by simp [brn, k20], rfl⟩)) ?_
                refine XW.fam (S' := (111, [(5, .int x), (0, .ref 1), (1, .int a), (2, .int b), (3, .int dd), (4, .int e)], [.ref 1], (sh, I14, L, R))) (M := mr_18) rfl (show mcode 18 110 = some (110, .aload_n 0, 1, 0, 0, 0, _) from rfl) (Or.inl ⟨.ref 1, rfl, rfl⟩) ?_
                refine XW.fam (S' := (114, [(5, .int x), (0, .ref 1), (1, .int a), (2, .int b), (3, .int dd), (4, .int e)], [.ref 5], (sh, I14, L, R))) (M := mr_18) rfl (show mcode 18 111 = some (111, .getfield 21, 3, 1, 5, 0, _) from rfl) (Or.inr (Or.inr (Or.inr (Or.inr (Or.inr (Or.inr (Or.inr (Or.inl ⟨_, _, rfl, fl_ld c1 r1_5 (by decide) (by decide), rfl⟩)))))))) ?_
                refine XW.fam (S' := (116, [(5, .int x), (0, .ref 1), (1, .int a), (2, .int b), (3, .int dd), (4, .int e)], [.int x, .ref 5], (sh, I14, L, R))) (M := mr_18) rfl (show mcode 18 114 = some (114, .iload 5, 2, 0, 0, 0, _) from rfl) (Or.inl ⟨.int x, rfl, rfl⟩) ?_
                have hin21 : inR x 400 = true := inR_of (by omega) (by omega)
                refine XW.fam (S' := (117, [(5, .int x), (0, .ref 1), (1, .int a), (2, .int b), (3, .int dd), (4, .int e)], [.int (I14 5 (x).toNatClampNeg)], (sh, I14, L, R))) (M := mr_18) rfl (show mcode 18 116 = some (116, .iaload, 1, 0, 0, 0, _) from rfl) (Or.inr (Or.inr (Or.inl ⟨_, lda_i c5 hin21, rfl⟩))) ?_
                rw [v17]
                refine XW.ret (r := some (.int dd)) ⟨⟨.int, rfl, rfl⟩, by decide +kernel⟩ ?_
                refine ⟨?_, fun _ => ?_⟩
                · skip
                  have hkp : ∀ q k, inm mdRC q k = false → I14 q k = I q k := by
                    intro q k h
                    rw [eI14, up2_ne (fun e => by rw [e.1] at h; cases h), eI8, up2_ne (fun e => by rw [e.1] at h; cases h)]
                  have hnd : newd v0 dd = dd := if_pos (by omega)
                  have hat : I14 5 (spI a b).toNat = dd := by rw [← hkx]; exact v17
                  have hot : ∀ j, ¬ j = (spI a b).toNat → I14 5 j = I 5 j := by
                    intro j hj
                    rw [← hkx] at hj
                    rw [eI14, up2_ne (fun e => hj e.2), eI8, up2_ne (fun e => by cases e.1)]
                  have h0 : I 5 (spI a b).toNat = v0 := by rw [← hkx]; exact ev0
                  refine ⟨hfI14, ⟨sh, R, hwI14⟩, Or.inr ⟨show okR (I 1 1).toInt a b dd e by unfold okR; omega, ?_, ?_, ?_, fun j hj _ => hot j hj, hkp⟩⟩
                  · show some (Value.int _) = some (Value.int (newd (I 5 (spI a b).toNat) dd))
                    rw [h0, hnd]
                  · show I14 5 (spI a b).toNat = newd (I 5 (spI a b).toNat) dd
                    rw [h0, hnd, hat]
                  · show I14 5 (spI a b).toNat = newd (I 5 (spI a b).toNat) dd
                    rw [h0, hnd, hat]
                · have ek : (a * 20 + b).toNatClampNeg = 20 * a.toInt.toNat + b.toInt.toNat := by show (a * 20 + b).toInt.toNat = _; have xx := ix20 (a := a) (b := b) (by omega) (by omega); omega
                  have k8 : ∀ k, I14 8 k = I 8 k := by
                    intro k
                    rw [eI14, up2_ne (fun e => by cases e.1), eI8, up2_ne (fun e => by cases e.1)]
                  have ev : (I14 8 ((a * 20 + b)).toNatClampNeg).toInt = rwT I 8 a.toInt.toNat b.toInt.toNat := by
                    unfold rwT
                    rw [ek, k8]
                  exact Or.inl ⟨by show ¬ dd.toInt < rwT I 8 a.toInt.toNat b.toInt.toNat; omega, k8⟩
              | false =>
                have gk20 : ¬ (((I14 8 ((a * 20 + b)).toNatClampNeg)).toInt ≤ (dd).toInt) := icF (c := .ge) (a := (dd).toInt) (b := ((I14 8 ((a * 20 + b)).toNatClampNeg)).toInt) rfl rfl k20
                refine XW.fam (S' := (103, [(5, .int x), (0, .ref 1), (1, .int a), (2, .int b), (3, .int dd), (4, .int e)], [], (sh, I14, L, R))) (M := mr_18) rfl (show mcode 18 100 = some (100, .if_icmp .ge 10, 3, 110, 0, 0, _) from rfl) (Or.inr (Or.inl ⟨103, [], by simp [brn, k20], rfl⟩)) ?_
                refine XW.fam (S' := (104, [(5, .int x), (0, .ref 1), (1, .int a), (2, .int b), (3, .int dd), (4, .int e)], [.ref 1], (sh, I14, L, R))) (M := mr_18) rfl (show mcode 18 103 = some (103, .aload_n 0, 1, 0, 0, 0, _) from rfl) (Or.inl ⟨.ref 1, rfl, rfl⟩) ?_
                refine XW.fam (S' := (105, [(5, .int x), (0, .ref 1), (1, .int a), (2, .int b), (3, .int dd), (4, .int e)], [.int a, .ref 1], (sh, I14, L, R))) (M := mr_18) rfl (show mcode 18 104 = some (104, .iload_n 1, 1, 0, 0, 0, _) from rfl) (Or.inl ⟨.int a, rfl, rfl⟩) ?_
                refine XW.fam (S' := (106, [(5, .int x), (0, .ref 1), (1, .int a), (2, .int b), (3, .int dd), (4, .int e)], [.int b, .int a, .ref 1], (sh, I14, L, R))) (M := mr_18) rfl (show mcode 18 105 = some (105, .iload_n 2, 1, 0, 0, 0, _) from rfl) (Or.inl ⟨.int b, rfl, rfl⟩) ?_
                refine XW.fam (S' := (107, [(5, .int x), (0, .ref 1), (1, .int a), (2, .int b), (3, .int dd), (4, .int e)], [.int dd, .int b, .int a, .ref 1], (sh, I14, L, R))) (M := mr_18) rfl (show mcode 18 106 = some (106, .iload_n 3, 1, 0, 0, 0, _) from rfl) (Or.inl ⟨.int dd, rfl, rfl⟩) ?_
                have e8 : rwT I14 8 = rwT I 8 := by
                  funext x y
                  unfold rwT
                  rw [eI14, up2_ne (fun e => by cases e.1), eI8, up2_ne (fun e => by cases e.1)]
                have em8 : I14 1 1 = I 1 1 := by rw [eI14, up2_ne (fun e => by cases e.1), eI8, up2_ne (fun e => by cases e.1)]
                refine XW.call (d' := d + 1) (mc' := 0) (ms' := 0) (av := [.ref 1, .int a, .int b, .int dd]) (rest := []) (M := mr_18) (Ma := mr_23) rfl (show mcode 18 107 = some (107, .invokevirtual 61, 3, 23, 0, 0, _) from rfl) rfl (by decide) (by decide) ⟨rfl, 1, _, rfl, c1⟩ rfl rfl (show 0 ≤ 8 by decide) (tc_short (d := d) (m := I 1 1) (u := a) (v := b) (dd := dd) hwI14 hfI14 hm.1 hm.2 em8 (by omega) (by omega) (by omega) (by rw [e8]; exact hM.1) (by rw [e8]; exact hM.2.1) (by rw [e8]; exact hM.2.2.2)) (by omega) (Nat.zero_le _) (Nat.zero_le _) (fun rQ22 wQ22 Q22 => ?_)
                obtain ⟨hrQ22, hfQ22, hwQ22, hIQ22, hSQ22, hTQ22⟩ := Q22
                subst hrQ22
                obtain ⟨shQ22, IQ22, LQ22, RQ22⟩ := wQ22
                obtain rfl : sh = shQ22 := hwQ22.2.2.2.1.symm
                obtain rfl : R = RQ22 := hwQ22.2.2.2.2.1.symm
                have vQ22_0 : IQ22 6 (x).toNatClampNeg = e := (hIQ22 6 (x).toNatClampNeg (by decide)).trans v16
                have vQ22_1 : IQ22 5 (x).toNatClampNeg = dd := (hIQ22 5 (x).toNatClampNeg (by decide)).trans v17
                refine XW.fam (S' := (111, [(5, .int x), (0, .ref 1), (1, .int a), (2, .int b), (3, .int dd), (4, .int e)], [.ref 1], (sh, IQ22, LQ22, R))) (M := mr_18) rfl (show mcode 18 110 = some (110, .aload_n 0, 1, 0, 0, 0, _) from rfl) (Or.inl ⟨.ref 1, rfl, rfl⟩) ?_
                refine XW.fam (S' := (114, [(5, .int x), (0, .ref 1), (1, .int a), (2, .int b), (3, .int dd), (4, .int e)], [.ref 5], (sh, IQ22, LQ22, R))) (M := mr_18) rfl (show mcode 18 111 = some (111, .getfield 21, 3, 1, 5, 0, _) from rfl) (Or.inr (Or.inr (Or.inr (Or.inr (Or.inr (Or.inr (Or.inr (Or.inl ⟨_, _, rfl, fl_ld c1 r1_5 (by decide) (by decide), rfl⟩)))))))) ?_
                refine XW.fam (S' := (116, [(5, .int x), (0, .ref 1), (1, .int a), (2, .int b), (3, .int dd), (4, .int e)], [.int x, .ref 5], (sh, IQ22, LQ22, R))) (M := mr_18) rfl (show mcode 18 114 = some (114, .iload 5, 2, 0, 0, 0, _) from rfl) (Or.inl ⟨.int x, rfl, rfl⟩) ?_
                have hin23 : inR x 400 = true := inR_of (by omega) (by omega)
                refine XW.fam (S' := (117, [(5, .int x), (0, .ref 1), (1, .int a), (2, .int b), (3, .int dd), (4, .int e)], [.int (IQ22 5 (x).toNatClampNeg)], (sh, IQ22, LQ22, R))) (M := mr_18) rfl (show mcode 18 116 = some (116, .iaload, 1, 0, 0, 0, _) from rfl) (Or.inr (Or.inr (Or.inl ⟨_, lda_i c5 hin23, rfl⟩))) ?_
                rw [vQ22_1]
                refine XW.ret (r := some (.int dd)) ⟨⟨.int, rfl, rfl⟩, by decide +kernel⟩ ?_
                refine ⟨?_, fun _ => ?_⟩
                · skip
                  have hkp : ∀ q k, inm mdRC q k = false → IQ22 q k = I q k := by
                    intro q k h
                    rw [(show IQ22 q k = I14 q k from hIQ22 q k (fun e => by rw [e] at h; cases h)), eI14, up2_ne (fun e => by rw [e.1] at h; cases h), eI8, up2_ne (fun e => by rw [e.1] at h; cases h)]
                  have hnd : newd v0 dd = dd := if_pos (by omega)
                  have hat : IQ22 5 (spI a b).toNat = dd := by rw [← hkx]; exact vQ22_1
                  have hot : ∀ j, ¬ j = (spI a b).toNat → IQ22 5 j = I 5 j := by
                    intro j hj
                    rw [← hkx] at hj
                    rw [(show IQ22 5 j = I14 5 j from hIQ22 5 j (by decide)), eI14, up2_ne (fun e => hj e.2), eI8, up2_ne (fun e => by cases e.1)]
                  have h0 : I 5 (spI a b).toNat = v0 := by rw [← hkx]; exact ev0
                  refine ⟨hfQ22, ⟨sh, R, hwQ22⟩, Or.inr ⟨show okR (I 1 1).toInt a b dd e by unfold okR; omega, ?_, ?_, ?_, fun j hj _ => hot j hj, hkp⟩⟩
                  · show some (Value.int _) = some (Value.int (newd (I 5 (spI a b).toNat) dd))
                    rw [h0, hnd]
                  · show IQ22 5 (spI a b).toNat = newd (I 5 (spI a b).toNat) dd
                    rw [h0, hnd, hat]
                  · show IQ22 5 (spI a b).toNat = newd (I 5 (spI a b).toNat) dd
                    rw [h0, hnd, hat]
                · have ek : (a * 20 + b).toNatClampNeg = 20 * a.toInt.toNat + b.toInt.toNat := by show (a * 20 + b).toInt.toNat = _; have xx := ix20 (a := a) (b := b) (by omega) (by omega); omega
                  have k8 : ∀ k, I14 8 k = I 8 k := by
                    intro k
                    rw [eI14, up2_ne (fun e => by cases e.1), eI8, up2_ne (fun e => by cases e.1)]
                  have ev : (I14 8 ((a * 20 + b)).toNatClampNeg).toInt = rwT I 8 a.toInt.toNat b.toInt.toNat := by
                    unfold rwT
                    rw [ek, k8]
                  refine Or.inr ⟨by show dd.toInt < rwT I 8 a.toInt.toNat b.toInt.toNat; omega, fun x y hx hy => ?_, fun x y hx hy hn => ?_⟩
                  · have k := hSQ22 x y hx hy
                    rw [e8] at k
                    exact k
                  · have k := hTQ22 x y hx hy hn
                    rw [e8] at k
                    exact k
            | false =>
              have gk12 : ¬ ((v0).toInt = 0) := icF (c := .eq) (a := (v0).toInt) (b := 0) rfl (by decide) k12
              refine XW.fam (S' := (70, [(5, .int x), (0, .ref 1), (1, .int a), (2, .int b), (3, .int dd), (4, .int e)], [], (sh, I8, L, R))) (M := mr_18) rfl (show mcode 18 67 = some (67, .ifCond .eq 14, 3, 81, 0, 0, _) from rfl) (Or.inr (Or.inl ⟨70, [], by simp [brn, k12], rfl⟩)) ?_
              refine XW.fam (S' := (71, [(5, .int x), (0, .ref 1), (1, .int a), (2, .int b), (3, .int dd), (4, .int e)], [.int dd], (sh, I8, L, R))) (M := mr_18) rfl (show mcode 18 70 = some (70, .iload_n 3, 1, 0, 0, 0, _) from rfl) (Or.inl ⟨.int dd, rfl, rfl⟩) ?_
              refine XW.fam (S' := (72, [(5, .int x), (0, .ref 1), (1, .int a), (2, .int b), (3, .int dd), (4, .int e)], [.ref 1, .int dd], (sh, I8, L, R))) (M := mr_18) rfl (show mcode 18 71 = some (71, .aload_n 0, 1, 0, 0, 0, _) from rfl) (Or.inl ⟨.ref 1, rfl, rfl⟩) ?_
              refine XW.fam (S' := (75, [(5, .int x), (0, .ref 1), (1, .int a), (2, .int b), (3, .int dd), (4, .int e)], [.ref 5, .int dd], (sh, I8, L, R))) (M := mr_18) rfl (show mcode 18 72 = some (72, .getfield 21, 3, 1, 5, 0, _) from rfl) (Or.inr (Or.inr (Or.inr (Or.inr (Or.inr (Or.inr (Or.inr (Or.inl ⟨_, _, rfl, fl_ld c1 r1_5 (by decide) (by decide), rfl⟩)))))))) ?_
              refine XW.fam (S' := (77, [(5, .int x), (0, .ref 1), (1, .int a), (2, .int b), (3, .int dd), (4, .int e)], [.int x, .ref 5, .int dd], (sh, I8, L, R))) (M := mr_18) rfl (show mcode 18 75 = some (75, .iload 5, 2, 0, 0, 0, _) from rfl) (Or.inl ⟨.int x, rfl, rfl⟩) ?_
              have hin24 : inR x 400 = true := inR_of (by omega) (by omega)
              refine XW.fam (S' := (78, [(5, .int x), (0, .ref 1), (1, .int a), (2, .int b), (3, .int dd), (4, .int e)], [.int (I8 5 (x).toNatClampNeg), .int dd], (sh, I8, L, R))) (M := mr_18) rfl (show mcode 18 77 = some (77, .iaload, 1, 0, 0, 0, _) from rfl) (Or.inr (Or.inr (Or.inl ⟨_, lda_i c5 hin24, rfl⟩))) ?_
              rw [v9]
              cases k25 : bcmp .ge dd v0 with
              | true =>
                have gk25 : (v0).toInt ≤ (dd).toInt := icT (c := .ge) (a := (dd).toInt) (b := (v0).toInt) rfl rfl k25
                refine XW.fam (S' := (89, [(5, .int x), (0, .ref 1), (1, .int a), (2, .int b), (3, .int dd), (4, .int e)], [], (sh, I8, L, R))) (M := mr_18) rfl (show mcode 18 78 = some (78, .if_icmp .ge 11, 3, 89, 0, 0, _) from rfl) (Or.inr (Or.inl ⟨89, [], by simp [brn, k25], rfl⟩)) ?_
                refine XW.fam (S' := (90, [(5, .int x), (0, .ref 1), (1, .int a), (2, .int b), (3, .int dd), (4, .int e)], [.int dd], (sh, I8, L, R))) (M := mr_18) rfl (show mcode 18 89 = some (89, .iload_n 3, 1, 0, 0, 0, _) from rfl) (Or.inl ⟨.int dd, rfl, rfl⟩) ?_
                refine XW.fam (S' := (91, [(5, .int x), (0, .ref 1), (1, .int a), (2, .int b), (3, .int dd), (4, .int e)], [.ref 1, .int dd], (sh, I8, L, R))) (M := mr_18) rfl (show mcode 18 90 = some (90, .aload_n 0, 1, 0, 0, 0, _) from rfl) (Or.inl ⟨.ref 1, rfl, rfl⟩) ?_
                refine XW.fam (S' := (94, [(5, .int x), (0, .ref 1), (1, .int a), (2, .int b), (3, .int dd), (4, .int e)], [.ref 8, .int dd], (sh, I8, L, R))) (M := mr_18) rfl (show mcode 18 91 = some (91, .getfield 30, 3, 1, 8, 0, _) from rfl) (Or.inr (Or.inr (Or.inr (Or.inr (Or.inr (Or.inr (Or.inr (Or.inl ⟨_, _, rfl, fl_ld c1 r1_8 (by decide) (by decide), rfl⟩)))))))) ?_
                refine XW.fam (S' := (95, [(5, .int x), (0, .ref 1), (1, .int a), (2, .int b), (3, .int dd), (4, .int e)], [.int a, .ref 8, .int dd], (sh, I8, L, R))) (M := mr_18) rfl (show mcode 18 94 = some (94, .iload_n 1, 1, 0, 0, 0, _) from rfl) (Or.inl ⟨.int a, rfl, rfl⟩) ?_
                refine XW.fam (S' := (96, [(5, .int x), (0, .ref 1), (1, .int a), (2, .int b), (3, .int dd), (4, .int e)], [.int b, .int a, .ref 8, .int dd], (sh, I8, L, R))) (M := mr_18) rfl (show mcode 18 95 = some (95, .iload_n 2, 1, 0, 0, 0, _) from rfl) (Or.inl ⟨.int b, rfl, rfl⟩) ?_
                refine XW.call (d' := d) (mc' := 0) (ms' := 0) (av := [.int a, .int b]) (rest := [.ref 8, .int dd]) (M := mr_18) (Ma := mr_16) rfl (show mcode 18 96 = some (96, .invokestatic 45, 3, 16, 0, 0, _) from rfl) rfl (by decide) (by decide) rfl rfl rfl (show 2 ≤ 8 by decide) (tc_spot) (by omega) (Nat.zero_le _) (Nat.zero_le _) (fun rQ26 wQ26 Q26 => ?_)
                obtain ⟨rfl, rfl⟩ := Q26
                have xhin27 : ((a * 20 + b)).toInt = 20 * a.toInt + b.toInt := ix20 (by omega) (by omega)
                have hin27 : inR (a * 20 + b) 400 = true := inR_of (by omega) (by omega)
                refine XW.fam (S' := (100, [(5, .int x), (0, .ref 1), (1, .int a), (2, .int b), (3, .int dd), (4, .int e)], [.int (I8 8 ((a * 20 + b)).toNatClampNeg), .int dd], (sh, I8, L, R))) (M := mr_18) rfl (show mcode 18 99 = some (99, .iaload, 1, 0, 0, 0, _) from rfl) (Or.inr (Or.inr (Or.inl ⟨_, lda_i c8 hin27, rfl⟩))) ?_
                cases k28 : bcmp .ge dd (I8 8 ((a * 20 + b)).toNatClampNeg) with
                | true =>
                  have gk28 : ((I8 8 ((a * 20 + b)).toNatClampNeg)).toInt ≤ (dd).toInt := icT (c := .ge) (a := (dd).toInt) (b := ((I8 8 ((a * 20 + b)).toNatClampNeg)).toInt) rfl rfl k28
                  refine XW.fam (S' := (110, [(5, .int x), (0, .ref 1), (1, .int a), (2, .int b), (3, .int dd), (4, .int e)], [], (sh, I8, L, R))) (M := mr_18) rfl (show mcode 18 100 = some (100, .if_icmp .ge 10, 3, 110, 0, 0, _) from rfl) (Or.inr (Or.inl ⟨110, [], by simp [brn, k28], rfl⟩)) ?_
                  refine XW.fam (S' := (111, [(5, .int x), (0, .ref 1), (1, .int a), (2, .int b), (3, .int dd), (4, .int e)], [.ref 1], (sh, I8, L, R))) (M := mr_18) rfl (show mcode 18 110 = some (110, .aload_n 0, 1, 0, 0, 0, _) from rfl) (Or.inl ⟨.ref 1, rfl, rfl⟩) ?_
                  refine XW.fam (S' := (114, [(5, .int x), (0, .ref 1), (1, .int a), (2, .int b), (3, .int dd), (4, .int e)], [.ref 5], (sh, I8, L, R))) (M := mr_18) rfl (show mcode 18 111 = some (111, .getfield 21, 3, 1, 5, 0, _) from rfl) (Or.inr (Or.inr (Or.inr (Or.inr (Or.inr (Or.inr (Or.inr (Or.inl ⟨_, _, rfl, fl_ld c1 r1_5 (by decide) (by decide), rfl⟩)))))))) ?_
                  refine XW.fam (S' := (116, [(5, .int x), (0, .ref 1), (1, .int a), (2, .int b), (3, .int dd), (4, .int e)], [.int x, .ref 5], (sh, I8, L, R))) (M := mr_18) rfl (show mcode 18 114 = some (114, .iload 5, 2, 0, 0, 0, _) from rfl) (Or.inl ⟨.int x, rfl, rfl⟩) ?_
                  have hin29 : inR x 400 = true := inR_of (by omega) (by omega)
                  refine XW.fam (S' := (117, [(5, .int x), (0, .ref 1), (1, .int a), (2, .int b), (3, .int dd), (4, .int e)], [.int (I8 5 (x).toNatClampNeg)], (sh, I8, L, R))) (M := mr_18) rfl (show mcode 18 116 = some (116, .iaload, 1, 0, 0, 0, _) from rfl) (Or.inr (Or.inr (Or.inl ⟨_, lda_i c5 hin29, rfl⟩))) ?_
                  rw [v9]
                  refine XW.ret (r := some (.int v0)) ⟨⟨.int, rfl, rfl⟩, by decide +kernel⟩ ?_
                  refine ⟨?_, fun _ => ?_⟩
                  · skip
                    have hkp : ∀ q k, inm mdRC q k = false → I8 q k = I q k := by
                      intro q k h
                      rw [eI8, up2_ne (fun e => by rw [e.1] at h; cases h)]
                    have hnd : newd v0 dd = v0 := if_neg (by omega)
                    have hat : I8 5 (spI a b).toNat = v0 := by rw [← hkx]; exact v9
                    have hot : ∀ j, ¬ j = (spI a b).toNat → I8 5 j = I 5 j := by
                      intro j hj
                      rw [← hkx] at hj
                      rw [eI8, up2_ne (fun e => by cases e.1)]
                    have h0 : I 5 (spI a b).toNat = v0 := by rw [← hkx]; exact ev0
                    refine ⟨hfI8, ⟨sh, R, hwI8⟩, Or.inr ⟨show okR (I 1 1).toInt a b dd e by unfold okR; omega, ?_, ?_, ?_, fun j hj _ => hot j hj, hkp⟩⟩
                    · show some (Value.int _) = some (Value.int (newd (I 5 (spI a b).toNat) dd))
                      rw [h0, hnd]
                    · show I8 5 (spI a b).toNat = newd (I 5 (spI a b).toNat) dd
                      rw [h0, hnd, hat]
                    · show I8 5 (spI a b).toNat = newd (I 5 (spI a b).toNat) dd
                      rw [h0, hnd, hat]
                  · have ek : (a * 20 + b).toNatClampNeg = 20 * a.toInt.toNat + b.toInt.toNat := by show (a * 20 + b).toInt.toNat = _; have xx := ix20 (a := a) (b := b) (by omega) (by omega); omega
                    have k8 : ∀ k, I8 8 k = I 8 k := by
                      intro k
                      rw [eI8, up2_ne (fun e => by cases e.1)]
                    have ev : (I8 8 ((a * 20 + b)).toNatClampNeg).toInt = rwT I 8 a.toInt.toNat b.toInt.toNat := by
                      unfold rwT
                      rw [ek, k8]
                    exact Or.inl ⟨by show ¬ dd.toInt < rwT I 8 a.toInt.toNat b.toInt.toNat; omega, k8⟩
                | false =>
                  have gk28 : ¬ (((I8 8 ((a * 20 + b)).toNatClampNeg)).toInt ≤ (dd).toInt) := icF (c := .ge) (a := (dd).toInt) (b := ((I8 8 ((a * 20 + b)).toNatClampNeg)).toInt) rfl rfl k28
                  refine XW.fam (S' := (103, [(5, .int x), (0, .ref 1), (1, .int a), (2, .int b), (3, .int dd), (4, .int e)], [], (sh, I8, L, R))) (M := mr_18) rfl (show mcode 18 100 = some (100, .if_icmp .ge 10, 3, 110, 0, 0, _) from rfl) (Or.inr (Or.inl ⟨103, [], by simp [brn, k28], rfl⟩)) ?_
                  refine XW.fam (S' := (104, [(5, .int x), (0, .ref 1), (1, .int a), (2, .int b), (3, .int dd), (4, .int e)], [.ref 1], (sh, I8, L, R))) (M := mr_18) rfl (show mcode 18 103 = some (103, .aload_n 0, 1, 0, 0, 0, _) from rfl) (Or.inl ⟨.ref 1, rfl, rfl⟩) ?_
                  refine XW.fam (S' := (105, [(5, .int x), (0, .ref 1), (1, .int a), (2, .int b), (3, .int dd), (4, .int e)], [.int a, .ref 1], (sh, I8, L, R))) (M := mr_18) rfl (show mcode 18 104 = some (104, .iload_n 1, 1, 0, 0, 0, _) from rfl) (Or.inl ⟨.int a, rfl, rfl⟩) ?_
                  refine XW.fam (S' := (106, [(5, .int x), (0, .ref 1), (1, .int a), (2, .int b), (3, .int dd), (4, .int e)], [.int b, .int a, .ref 1], (sh, I8, L, R))) (M := mr_18) rfl (show mcode 18 105 = some (105, .iload_n 2, 1, 0, 0, 0, _) from rfl) (Or.inl ⟨.int b, rfl, rfl⟩) ?_
                  refine XW.fam (S' := (107, [(5, .int x), (0, .ref 1), (1, .int a), (2, .int b), (3, .int dd), (4, .int e)], [.int dd, .int b, .int a, .ref 1], (sh, I8, L, R))) (M := mr_18) rfl (show mcode 18 106 = some (106, .iload_n 3, 1, 0, 0, 0, _) from rfl) (Or.inl ⟨.int dd, rfl, rfl⟩) ?_
                  have e8 : rwT I8 8 = rwT I 8 := by
                    funext x y
                    unfold rwT
                    rw [eI8, up2_ne (fun e => by cases e.1)]
                  have em8 : I8 1 1 = I 1 1 := by rw [eI8, up2_ne (fun e => by cases e.1)]
                  refine XW.call (d' := d + 1) (mc' := 0) (ms' := 0) (av := [.ref 1, .int a, .int b, .int dd]) (rest := []) (M := mr_18) (Ma := mr_23) rfl (show mcode 18 107 = some (107, .invokevirtual 61, 3, 23, 0, 0, _) from rfl) rfl (by decide) (by decide) ⟨rfl, 1, _, rfl, c1⟩ rfl rfl (show 0 ≤ 8 by decide) (tc_short (d := d) (m := I 1 1) (u := a) (v := b) (dd := dd) hwI8 hfI8 hm.1 hm.2 em8 (by omega) (by omega) (by omega) (by rw [e8]; exact hM.1) (by rw [e8]; exact hM.2.1) (by rw [e8]; exact hM.2.2.2)) (by omega) (Nat.zero_le _) (Nat.zero_le _) (fun rQ30 wQ30 Q30 => ?_)
                  obtain ⟨hrQ30, hfQ30, hwQ30, hIQ30, hSQ30, hTQ30⟩ := Q30
                  subst hrQ30
                  obtain ⟨shQ30, IQ30, LQ30, RQ30⟩ := wQ30
                  obtain rfl : sh = shQ30 := hwQ30.2.2.2.1.symm
                  obtain rfl : R = RQ30 := hwQ30.2.2.2.2.1.symm
                  have vQ30_0 : IQ30 5 (x).toNatClampNeg = v0 := (hIQ30 5 (x).toNatClampNeg (by decide)).trans v9
                  have vQ30_1 : IQ30 6 (x).toNatClampNeg = e := (hIQ30 6 (x).toNatClampNeg (by decide)).trans v10
                  refine XW.fam (S' := (111, [(5, .int x), (0, .ref 1), (1, .int a), (2, .int b), (3, .int dd), (4, .int e)], [.ref 1], (sh, IQ30, LQ30, R))) (M := mr_18) rfl (show mcode 18 110 = some (110, .aload_n 0, 1, 0, 0, 0, _) from rfl) (Or.inl ⟨.ref 1, rfl, rfl⟩) ?_
                  refine XW.fam (S' := (114, [(5, .int x), (0, .ref 1), (1, .int a), (2, .int b), (3, .int dd), (4, .int e)], [.ref 5], (sh, IQ30, LQ30, R))) (M := mr_18) rfl (show mcode 18 111 = some (111, .getfield 21, 3, 1, 5, 0, _) from rfl) (Or.inr (Or.inr (Or.inr (Or.inr (Or.inr (Or.inr (Or.inr (Or.inl ⟨_, _, rfl, fl_ld c1 r1_5 (by decide) (by decide), rfl⟩)))))))) ?_
                  refine XW.fam (S' := (116, [(5, .int x), (0, .ref 1), (1, .int a), (2, .int b), (3, .int dd), (4, .int e)], [.int x, .ref 5], (sh, IQ30, LQ30, R))) (M := mr_18) rfl (show mcode 18 114 = some (114, .iload 5, 2, 0, 0, 0, _) from rfl) (Or.inl ⟨.int x, rfl, rfl⟩) ?_
                  have hin31 : inR x 400 = true := inR_of (by omega) (by omega)
                  refine XW.fam (S' := (117, [(5, .int x), (0, .ref 1), (1, .int a), (2, .int b), (3, .int dd), (4, .int e)], [.int (IQ30 5 (x).toNatClampNeg)], (sh, IQ30, LQ30, R))) (M := mr_18) rfl (show mcode 18 116 = some (116, .iaload, 1, 0, 0, 0, _) from rfl) (Or.inr (Or.inr (Or.inl ⟨_, lda_i c5 hin31, rfl⟩))) ?_
                  rw [vQ30_0]
                  refine XW.ret (r := some (.int v0)) ⟨⟨.int, rfl, rfl⟩, by decide +kernel⟩ ?_
                  refine ⟨?_, fun _ => ?_⟩
                  · skip
                    have hkp : ∀ q k, inm mdRC q k = false → IQ30 q k = I q k := by
                      intro q k h
                      rw [(show IQ30 q k = I8 q k from hIQ30 q k (fun e => by rw [e] at h; cases h)), eI8, up2_ne (fun e => by rw [e.1] at h; cases h)]
                    have hnd : newd v0 dd = v0 := if_neg (by omega)
                    have hat : IQ30 5 (spI a b).toNat = v0 := by rw [← hkx]; exact vQ30_0
                    have hot : ∀ j, ¬ j = (spI a b).toNat → IQ30 5 j = I 5 j := by
                      intro j hj
                      rw [← hkx] at hj
                      rw [(show IQ30 5 j = I8 5 j from hIQ30 5 j (by decide)), eI8, up2_ne (fun e => by cases e.1)]
                    have h0 : I 5 (spI a b).toNat = v0 := by rw [← hkx]; exact ev0
                    refine ⟨hfQ30, ⟨sh, R, hwQ30⟩, Or.inr ⟨show okR (I 1 1).toInt a b dd e by unfold okR; omega, ?_, ?_, ?_, fun j hj _ => hot j hj, hkp⟩⟩
                    · show some (Value.int _) = some (Value.int (newd (I 5 (spI a b).toNat) dd))
                      rw [h0, hnd]
                    · show IQ30 5 (spI a b).toNat = newd (I 5 (spI a b).toNat) dd
                      rw [h0, hnd, hat]
                    · show IQ30 5 (spI a b).toNat = newd (I 5 (spI a b).toNat) dd
                      rw [h0, hnd, hat]
                  · have ek : (a * 20 + b).toNatClampNeg = 20 * a.toInt.toNat + b.toInt.toNat := by show (a * 20 + b).toInt.toNat = _; have xx := ix20 (a := a) (b := b) (by omega) (by omega); omega
                    have k8 : ∀ k, I8 8 k = I 8 k := by
                      intro k
                      rw [eI8, up2_ne (fun e => by cases e.1)]
                    have ev : (I8 8 ((a * 20 + b)).toNatClampNeg).toInt = rwT I 8 a.toInt.toNat b.toInt.toNat := by
                      unfold rwT
                      rw [ek, k8]
                    refine Or.inr ⟨by show dd.toInt < rwT I 8 a.toInt.toNat b.toInt.toNat; omega, fun x y hx hy => ?_, fun x y hx hy hn => ?_⟩
                    · have k := hSQ30 x y hx hy
                      rw [e8] at k
                      exact k
                    · have k := hTQ30 x y hx hy hn
                      rw [e8] at k
                      exact k
              | false =>
                have gk25 : ¬ ((v0).toInt ≤ (dd).toInt) := icF (c := .ge) (a := (dd).toInt) (b := (v0).toInt) rfl rfl k25
                refine XW.fam (S' := (81, [(5, .int x), (0, .ref 1), (1, .int a), (2, .int b), (3, .int dd), (4, .int e)], [], (sh, I8, L, R))) (M := mr_18) rfl (show mcode 18 78 = some (78, .if_icmp .ge 11, 3, 89, 0, 0, _) from rfl) (Or.inr (Or.inl ⟨81, [], by simp [brn, k25], rfl⟩)) ?_
                refine XW.fam (S' := (82, [(5, .int x), (0, .ref 1), (1, .int a), (2, .int b), (3, .int dd), (4, .int e)], [.ref 1], (sh, I8, L, R))) (M := mr_18) rfl (show mcode 18 81 = some (81, .aload_n 0, 1, 0, 0, 0, _) from rfl) (Or.inl ⟨.ref 1, rfl, rfl⟩) ?_
                refine XW.fam (S' := (85, [(5, .int x), (0, .ref 1), (1, .int a), (2, .int b), (3, .int dd), (4, .int e)], [.ref 5], (sh, I8, L, R))) (M := mr_18) rfl (show mcode 18 82 = some (82, .getfield 21, 3, 1, 5, 0, _) from rfl) (Or.inr (Or.inr (Or.inr (Or.inr (Or.inr (Or.inr (Or.inr (Or.inl ⟨_, _, rfl, fl_ld c1 r1_5 (by decide) (by decide), rfl⟩)))))))) ?_
                refine XW.fam (S' := (87, [(5, .int x), (0, .ref 1), (1, .int a), (2, .int b), (3, .int dd), (4, .int e)], [.int x, .ref 5], (sh, I8, L, R))) (M := mr_18) rfl (show mcode 18 85 = some (85, .iload 5, 2, 0, 0, 0, _) from rfl) (Or.inl ⟨.int x, rfl, rfl⟩) ?_
                refine XW.fam (S' := (88, [(5, .int x), (0, .ref 1), (1, .int a), (2, .int b), (3, .int dd), (4, .int e)], [.int dd, .int x, .ref 5], (sh, I8, L, R))) (M := mr_18) rfl (show mcode 18 87 = some (87, .iload_n 3, 1, 0, 0, 0, _) from rfl) (Or.inl ⟨.int dd, rfl, rfl⟩) ?_
                have hin32 : inR x 400 = true := inR_of (by omega) (by omega)
                obtain ⟨I33, eI33⟩ : ∃ X, X = up2 I8 5 (x).toNatClampNeg dd := ⟨_, rfl⟩
                refine XW.fam (S' := (89, [(5, .int x), (0, .ref 1), (1, .int a), (2, .int b), (3, .int dd), (4, .int e)], [], (sh, I33, L, R))) (M := mr_18) rfl (show mcode 18 88 = some (88, .iastore, 1, 0, 0, 0, _) from rfl) (Or.inr (Or.inr (Or.inr (Or.inl ⟨_, _, by rw [eI33]; exact sta_i c5 hin32, rfl⟩)))) ?_
                have hwI33 : wOK (mkT vV []) (wE sh R) (sh, I33, L, R) := by rw [eI33]; exact wOK_u2 (q := 5) (k := (x).toNatClampNeg) (x := dd) wE_put hwI8 rfl (by show (0 : Int) ≤ _; omega) (by show _ ≤ (9 : Int); omega)
                have hfI33 : fresh (sh, I33, L, R) := by rw [eI33]; exact fresh_I hfI8 c5
                have v35 : I33 6 (x).toNatClampNeg = e := by rw [eI33, up2_ne (fun e => by cases e.1)]; exact v10
                have v36 : I33 5 (x).toNatClampNeg = dd := by rw [eI33]; exact up2_eq
                refine XW.fam (S' := (90, [(5, .int x), (0, .ref 1), (1, .int a), (2, .int b), (3, .int dd), (4, .int e)], [.int dd], (sh, I33, L, R))) (M := mr_18) rfl (show mcode 18 89 = some (89, .iload_n 3, 1, 0, 0, 0, _) from rfl) (Or.inl ⟨.int dd, rfl, rfl⟩) ?_
                refine XW.fam (S' := (91, [(5, .int x), (0, .ref 1), (1, .int a), (2, .int b), (3, .int dd), (4, .int e)], [.ref 1, .int dd], (sh, I33, L, R))) (M := mr_18) rfl (show mcode 18 90 = some (90, .aload_n 0, 1, 0, 0, 0, _) from rfl) (Or.inl ⟨.ref 1, rfl, rfl⟩) ?_
                refine XW.fam (S' := (94, [(5, .int x), (0, .ref 1), (1, .int a), (2, .int b), (3, .int dd), (4, .int e)], [.ref 8, .int dd], (sh, I33, L, R))) (M := mr_18) rfl (show mcode 18 91 = some (91, .getfield 30, 3, 1, 8, 0, _) from rfl) (Or.inr (Or.inr (Or.inr (Or.inr (Or.inr (Or.inr (Or.inr (Or.inl ⟨_, _, rfl, fl_ld c1 r1_8 (by decide) (by decide), rfl⟩)))))))) ?_
                refine XW.fam (S' := (95, [(5, .int x), (0, .ref 1), (1, .int a), (2, .int b), (3, .int dd), (4, .int e)], [.int a, .ref 8, .int dd], (sh, I33, L, R))) (M := mr_18) rfl (show mcode 18 94 = some (94, .iload_n 1, 1, 0, 0, 0, _) from rfl) (Or.inl ⟨.int a, rfl, rfl⟩) ?_
                refine XW.fam (S' := (96, [(5, .int x), (0, .ref 1), (1, .int a), (2, .int b), (3, .int dd), (4, .int e)], [.int b, .int a, .ref 8, .int dd], (sh, I33, L, R))) (M := mr_18) rfl (show mcode 18 95 = some (95, .iload_n 2, 1, 0, 0, 0, _) from rfl) (Or.inl ⟨.int b, rfl, rfl⟩) ?_
                refine XW.call (d' := d) (mc' := 0) (ms' := 0) (av := [.int a, .int b]) (rest := [.ref 8, .int dd]) (M := mr_18) (Ma := mr_16) rfl (show mcode 18 96 = some (96, .invokestatic 45, 3, 16, 0, 0, _) from rfl) rfl (by decide) (by decide) rfl rfl rfl (show 2 ≤ 8 by decide) (tc_spot) (by omega) (Nat.zero_le _) (Nat.zero_le _) (fun rQ37 wQ37 Q37 => ?_)
                obtain ⟨rfl, rfl⟩ := Q37
                have xhin38 : ((a * 20 + b)).toInt = 20 * a.toInt + b.toInt := ix20 (by omega) (by omega)
                have hin38 : inR (a * 20 + b) 400 = true := inR_of (by omega) (by omega)
                refine XW.fam (S' := (100, [(5, .int x), (0, .ref 1), (1, .int a), (2, .int b), (3, .int dd), (4, .int e)], [.int (I33 8 ((a * 20 + b)).toNatClampNeg), .int dd], (sh, I33, L, R))) (M := mr_18) rfl (show mcode 18 99 = some (99, .iaload, 1, 0, 0, 0, _) from rfl) (Or.inr (Or.inr (Or.inl ⟨_, lda_i c8 hin38, rfl⟩))) ?_
                cases k39 : bcmp .ge dd (I33 8 ((a * 20 + b)).toNatClampNeg) with
                | true =>
                  have gk39 : ((I33 8 ((a * 20 + b)).toNatClampNeg)).toInt ≤ (dd).toInt := icT (c := .ge) (a := (dd).toInt) (b := ((I33 8 ((a * 20 + b)).toNatClampNeg)).toInt) rfl rfl k39
                  refine XW.fam (S' := (110, [(5, .int x), (0, .ref 1), (1, .int a), (2, .int b), (3, .int dd), (4, .int e)], [], (sh, I33, L, R))) (M := mr_18) rfl (show mcode 18 100 = some (100, .if_icmp .ge 10, 3, 110, 0, 0, _) from rfl) (Or.inr (Or.inl ⟨110, [], by simp [brn, k39], rfl⟩)) ?_
                  refine XW.fam (S' := (111, [(5, .int x), (0, .ref 1), (1, .int a), (2, .int b), (3, .int dd), (4, .int e)], [.ref 1], (sh, I33, L, R))) (M := mr_18) rfl (show mcode 18 110 = some (110, .aload_n 0, 1, 0, 0, 0, _) from rfl) (Or.inl ⟨.ref 1, rfl, rfl⟩) ?_
                  refine XW.fam (S' := (114, [(5, .int x), (0, .ref 1), (1, .int a), (2, .int b), (3, .int dd), (4, .int e)], [.ref 5], (sh, I33, L, R))) (M := mr_18) rfl (show mcode 18 111 = some (111, .getfield 21, 3, 1, 5, 0, _) from rfl) (Or.inr (Or.inr (Or.inr (Or.inr (Or.inr (Or.inr (Or.inr (Or.inl ⟨_, _, rfl, fl_ld c1 r1_5 (by decide) (by decide), rfl⟩)))))))) ?_
                  refine XW.fam (S' := (116, [(5, .int x), (0, .ref 1), (1, .int a), (2, .int b), (3, .int dd), (4, .int e)], [.int x, .ref 5], (sh, I33, L, R))) (M := mr_18) rfl (show mcode 18 114 = some (114, .iload 5, 2, 0, 0, 0, _) from rfl) (Or.inl ⟨.int x, rfl, rfl⟩) ?_
                  have hin40 : inR x 400 = true := inR_of (by omega) (by omega)
                  refine XW.fam (S' := (117, [(5, .int x), (0, .ref 1), (1, .int a), (2, .int b), (3, .int dd), (4, .int e)], [.int (I33 5 (x).toNatClampNeg)], (sh, I33, L, R))) (M := mr_18) rfl (show mcode 18 116 = some (116, .iaload, 1, 0, 0, 0, _) from rfl) (Or.inr (Or.inr (Or.inl ⟨_, lda_i c5 hin40, rfl⟩))) ?_
                  rw [v36]
                  refine XW.ret (r := some (.int dd)) ⟨⟨.int, rfl, rfl⟩, by decide +kernel⟩ ?_
                  refine ⟨?_, fun _ => ?_⟩
                  · skip
                    have hkp : ∀ q k, inm mdRC q k = false → I33 q k = I q k := by
                      intro q k h
                      rw [eI33, up2_ne (fun e => by rw [e.1] at h; cases h), eI8, up2_ne (fun e => by rw [e.1] at h; cases h)]
                    have hnd : newd v0 dd = dd := if_pos (by omega)
                    have hat : I33 5 (spI a b).toNat = dd := by rw [← hkx]; exact v36
                    have hot : ∀ j, ¬ j = (spI a b).toNat → I33 5 j = I 5 j := by
                      intro j hj
                      rw [← hkx] at hj
                      rw [eI33, up2_ne (fun e => hj e.2), eI8, up2_ne (fun e => by cases e.1)]
                    have h0 : I 5 (spI a b).toNat = v0 := by rw [← hkx]; exact ev0
                    refine ⟨hfI33, ⟨sh, R, hwI33⟩, Or.inr ⟨show okR (I 1 1).toInt a b dd e by unfold okR; omega, ?_, ?_, ?_, fun j hj _ => hot j hj, hkp⟩⟩
                    · show some (Value.int _) = some (Value.int (newd (I 5 (spI a b).toNat) dd))
                      rw [h0, hnd]
                    · show I33 5 (spI a b).toNat = newd (I 5 (spI a b).toNat) dd
                      rw [h0, hnd, hat]
                    · show I33 5 (spI a b).toNat = newd (I 5 (spI a b).toNat) dd
                      rw [h0, hnd, hat]
                  · have ek : (a * 20 + b).toNatClampNeg = 20 * a.toInt.toNat + b.toInt.toNat := by show (a * 20 + b).toInt.toNat = _; have xx := ix20 (a := a) (b := b) (by omega) (by omega); omega
                    have k8 : ∀ k, I33 8 k = I 8 k := by
                      intro k
                      rw [eI33, up2_ne (fun e => by cases e.1), eI8, up2_ne (fun e => by cases e.1)]
                    have ev : (I33 8 ((a * 20 + b)).toNatClampNeg).toInt = rwT I 8 a.toInt.toNat b.toInt.toNat := by
                      unfold rwT
                      rw [ek, k8]
                    exact Or.inl ⟨by show ¬ dd.toInt < rwT I 8 a.toInt.toNat b.toInt.toNat; omega, k8⟩
                | false =>
                  have gk39 : ¬ (((I33 8 ((a * 20 + b)).toNatClampNeg)).toInt ≤ (dd).toInt) := icF (c := .ge) (a := (dd).toInt) (b := ((I33 8 ((a * 20 + b)).toNatClampNeg)).toInt) rfl rfl k39
                  refine XW.fam (S' := (103, [(5, .int x), (0, .ref 1), (1, .int a), (2, .int b), (3, .int dd), (4, .int e)], [], (sh, I33, L, R))) (M := mr_18) rfl (show mcode 18 100 = some (100, .if_icmp .ge 10, 3, 110, 0, 0, _) from rfl) (Or.inr (Or.inl ⟨103, [], by simp [brn, k39], rfl⟩)) ?_
                  refine XW.fam (S' := (104, [(5, .int x), (0, .ref 1), (1, .int a), (2, .int b), (3, .int dd), (4, .int e)], [.ref 1], (sh, I33, L, R))) (M := mr_18) rfl (show mcode 18 103 = some (103, .aload_n 0, 1, 0, 0, 0, _) from rfl) (Or.inl ⟨.ref 1, rfl, rfl⟩) ?_
                  refine XW.fam (S' := (105, [(5, .int x), (0, .ref 1), (1, .int a), (2, .int b), (3, .int dd), (4, .int e)], [.int a, .ref 1], (sh, I33, L, R))) (M := mr_18) rfl (show mcode 18 104 = some (104, .iload_n 1, 1, 0, 0, 0, _) from rfl) (Or.inl ⟨.int a, rfl, rfl⟩) ?_
                  refine XW.fam (S' := (106, [(5, .int x), (0, .ref 1), (1, .int a), (2, .int b), (3, .int dd), (4, .int e)], [.int b, .int a, .ref 1], (sh, I33, L, R))) (M := mr_18) rfl (show mcode 18 105 = some (105, .iload_n 2, 1, 0, 0, 0, _) from rfl) (Or.inl ⟨.int b, rfl, rfl⟩) ?_
                  refine XW.fam (S' := (107, [(5, .int x), (0, .ref 1), (1, .int a), (2, .int b), (3, .int dd), (4, .int e)], [.int dd, .int b, .int a, .ref 1], (sh, I33, L, R))) (M := mr_18) rfl (show mcode 18 106 = some (106, .iload_n 3, 1, 0, 0, 0, _) from rfl) (Or.inl ⟨.int dd, rfl, rfl⟩) ?_
                  have e8 : rwT I33 8 = rwT I 8 := by
                    funext x y
                    unfold rwT
                    rw [eI33, up2_ne (fun e => by cases e.1), eI8, up2_ne (fun e => by cases e.1)]
                  have em8 : I33 1 1 = I 1 1 := by rw [eI33, up2_ne (fun e => by cases e.1), eI8, up2_ne (fun e => by cases e.1)]
                  refine XW.call (d' := d + 1) (mc' := 0) (ms' := 0) (av := [.ref 1, .int a, .int b, .int dd]) (rest := []) (M := mr_18) (Ma := mr_23) rfl (show mcode 18 107 = some (107, .invokevirtual 61, 3, 23, 0, 0, _) from rfl) rfl (by decide) (by decide) ⟨rfl, 1, _, rfl, c1⟩ rfl rfl (show 0 ≤ 8 by decide) (tc_short (d := d) (m := I 1 1) (u := a) (v := b) (dd := dd) hwI33 hfI33 hm.1 hm.2 em8 (by omega) (by omega) (by omega) (by rw [e8]; exact hM.1) (by rw [e8]; exact hM.2.1) (by rw [e8]; exact hM.2.2.2)) (by omega) (Nat.zero_le _) (Nat.zero_le _) (fun rQ41 wQ41 Q41 => ?_)
                  obtain ⟨hrQ41, hfQ41, hwQ41, hIQ41, hSQ41, hTQ41⟩ := Q41
                  subst hrQ41
                  obtain ⟨shQ41, IQ41, LQ41, RQ41⟩ := wQ41
                  obtain rfl : sh = shQ41 := hwQ41.2.2.2.1.symm
                  obtain rfl : R = RQ41 := hwQ41.2.2.2.2.1.symm
                  have vQ41_0 : IQ41 6 (x).toNatClampNeg = e := (hIQ41 6 (x).toNatClampNeg (by decide)).trans v35
                  have vQ41_1 : IQ41 5 (x).toNatClampNeg = dd := (hIQ41 5 (x).toNatClampNeg (by decide)).trans v36
                  refine XW.fam (S' := (111, [(5, .int x), (0, .ref 1), (1, .int a), (2, .int b), (3, .int dd), (4, .int e)], [.ref 1], (sh, IQ41, LQ41, R))) (M := mr_18) rfl (show mcode 18 110 = some (110, .aload_n 0, 1, 0, 0, 0, _) from rfl) (Or.inl ⟨.ref 1, rfl, rfl⟩) ?_
                  refine XW.fam (S' := (114, [(5, .int x), (0, .ref 1), (1, .int a), (2, .int b), (3, .int dd), (4, .int e)], [.ref 5], (sh, IQ41, LQ41, R))) (M := mr_18) rfl (show mcode 18 111 = some (111, .getfield 21, 3, 1, 5, 0, _) from rfl) (Or.inr (Or.inr (Or.inr (Or.inr (Or.inr (Or.inr (Or.inr (Or.inl ⟨_, _, rfl, fl_ld c1 r1_5 (by decide) (by decide), rfl⟩)))))))) ?_
                  refine XW.fam (S' := (116, [(5, .int x), (0, .ref 1), (1, .int a), (2, .int b), (3, .int dd), (4, .int e)], [.int x, .ref 5], (sh, IQ41, LQ41, R))) (M := mr_18) rfl (show mcode 18 114 = some (114, .iload 5, 2, 0, 0, 0, _) from rfl) (Or.inl ⟨.int x, rfl, rfl⟩) ?_
                  have hin42 : inR x 400 = true := inR_of (by omega) (by omega)
                  refine XW.fam (S' := (117, [(5, .int x), (0, .ref 1), (1, .int a), (2, .int b), (3, .int dd), (4, .int e)], [.int (IQ41 5 (x).toNatClampNeg)], (sh, IQ41, LQ41, R))) (M := mr_18) rfl (show mcode 18 116 = some (116, .iaload, 1, 0, 0, 0, _) from rfl) (Or.inr (Or.inr (Or.inl ⟨_, lda_i c5 hin42, rfl⟩))) ?_
                  rw [vQ41_1]
                  refine XW.ret (r := some (.int dd)) ⟨⟨.int, rfl, rfl⟩, by decide +kernel⟩ ?_
                  refine ⟨?_, fun _ => ?_⟩
                  · skip
                    have hkp : ∀ q k, inm mdRC q k = false → IQ41 q k = I q k := by
                      intro q k h
                      rw [(show IQ41 q k = I33 q k from hIQ41 q k (fun e => by rw [e] at h; cases h)), eI33, up2_ne (fun e => by rw [e.1] at h; cases h), eI8, up2_ne (fun e => by rw [e.1] at h; cases h)]
                    have hnd : newd v0 dd = dd := if_pos (by omega)
                    have hat : IQ41 5 (spI a b).toNat = dd := by rw [← hkx]; exact vQ41_1
                    have hot : ∀ j, ¬ j = (spI a b).toNat → IQ41 5 j = I 5 j := by
                      intro j hj
                      rw [← hkx] at hj
                      rw [(show IQ41 5 j = I33 5 j from hIQ41 5 j (by decide)), eI33, up2_ne (fun e => hj e.2), eI8, up2_ne (fun e => by cases e.1)]
                    have h0 : I 5 (spI a b).toNat = v0 := by rw [← hkx]; exact ev0
                    refine ⟨hfQ41, ⟨sh, R, hwQ41⟩, Or.inr ⟨show okR (I 1 1).toInt a b dd e by unfold okR; omega, ?_, ?_, ?_, fun j hj _ => hot j hj, hkp⟩⟩
                    · show some (Value.int _) = some (Value.int (newd (I 5 (spI a b).toNat) dd))
                      rw [h0, hnd]
                    · show IQ41 5 (spI a b).toNat = newd (I 5 (spI a b).toNat) dd
                      rw [h0, hnd, hat]
                    · show IQ41 5 (spI a b).toNat = newd (I 5 (spI a b).toNat) dd
                      rw [h0, hnd, hat]
                  · have ek : (a * 20 + b).toNatClampNeg = 20 * a.toInt.toNat + b.toInt.toNat := by show (a * 20 + b).toInt.toNat = _; have xx := ix20 (a := a) (b := b) (by omega) (by omega); omega
                    have k8 : ∀ k, I33 8 k = I 8 k := by
                      intro k
                      rw [eI33, up2_ne (fun e => by cases e.1), eI8, up2_ne (fun e => by cases e.1)]
                    have ev : (I33 8 ((a * 20 + b)).toNatClampNeg).toInt = rwT I 8 a.toInt.toNat b.toInt.toNat := by
                      unfold rwT
                      rw [ek, k8]
                    refine Or.inr ⟨by show dd.toInt < rwT I 8 a.toInt.toNat b.toInt.toNat; omega, fun x y hx hy => ?_, fun x y hx hy hn => ?_⟩
                    · have k := hSQ41 x y hx hy
                      rw [e8] at k
                      exact k
                    · have k := hTQ41 x y hx hy hn
                      rw [e8] at k
                      exact k
theorem tc_railC8 {d : Nat} {sh : List mE} {R : Nat → Nat → Option Nat} {w : mW} {a b dd e : Int32} (hw : wOK (mkT vV []) (wE sh R) w) (hf : fresh w) {rr : Nat → Nat → Int} (hM : Mtrc (w.2.1 1 1).toInt.toNat 1000000 rr (rwT w.2.1 8)) : Tc 17 (d + 3) 0 0 [.ref 0, .int a, .int b, .int dd, .int e] w (fun r w' => Qrail 5 (okR (w.2.1 1 1).toInt a b dd e) (spI a b).toNat (spI a b).toNat dd mdRC w r w' ∧ (okR (w.2.1 1 1).toInt a b dd e → R8r a b dd w w')) := by
  obtain ⟨sh0, I, L, R0⟩ := w
  obtain rfl : sh = sh0 := hw.2.2.2.1.symm
  obtain rfl : R = R0 := hw.2.2.2.2.1.symm
  have c0 : sh[0]? = some (.inr 0) := hw.1 0 _ rfl
  have c1 : sh[1]? = some (.inr 1) := hw.1 1 _ rfl
  have r0_0 : R 0 0 = some 1 := hw.2.1 0 0 _ rfl
  refine Tc.of mr_17 rfl (show 5 ≤ mr_17.2.2.2.1 by decide) ?_
  refine XW.fam (S' := (1, [(0, .ref 0), (1, .int a), (2, .int b), (3, .int dd), (4, .int e)], [.ref 0], (sh, I, L, R))) (M := mr_17) rfl (show mcode 17 0 = some (0, .aload_n 0, 1, 0, 0, 0, _) from rfl) (Or.inl ⟨.ref 0, rfl, rfl⟩) ?_
  refine XW.fam (S' := (4, [(0, .ref 0), (1, .int a), (2, .int b), (3, .int dd), (4, .int e)], [.ref 1], (sh, I, L, R))) (M := mr_17) rfl (show mcode 17 1 = some (1, .getfield 10, 3, 0, 0, 0, _) from rfl) (Or.inr (Or.inr (Or.inr (Or.inr (Or.inr (Or.inr (Or.inr (Or.inl ⟨_, _, rfl, fl_ld c0 r0_0 (by decide) (by decide), rfl⟩)))))))) ?_
  refine XW.fam (S' := (5, [(0, .ref 0), (1, .int a), (2, .int b), (3, .int dd), (4, .int e)], [.int a, .ref 1], (sh, I, L, R))) (M := mr_17) rfl (show mcode 17 4 = some (4, .iload_n 1, 1, 0, 0, 0, _) from rfl) (Or.inl ⟨.int a, rfl, rfl⟩) ?_
  refine XW.fam (S' := (6, [(0, .ref 0), (1, .int a), (2, .int b), (3, .int dd), (4, .int e)], [.int b, .int a, .ref 1], (sh, I, L, R))) (M := mr_17) rfl (show mcode 17 5 = some (5, .iload_n 2, 1, 0, 0, 0, _) from rfl) (Or.inl ⟨.int b, rfl, rfl⟩) ?_
  refine XW.fam (S' := (7, [(0, .ref 0), (1, .int a), (2, .int b), (3, .int dd), (4, .int e)], [.int dd, .int b, .int a, .ref 1], (sh, I, L, R))) (M := mr_17) rfl (show mcode 17 6 = some (6, .iload_n 3, 1, 0, 0, 0, _) from rfl) (Or.inl ⟨.int dd, rfl, rfl⟩) ?_
  refine XW.fam (S' := (9, [(0, .ref 0), (1, .int a), (2, .int b), (3, .int dd), (4, .int e)], [.int e, .int dd, .int b, .int a, .ref 1], (sh, I, L, R))) (M := mr_17) rfl (show mcode 17 7 = some (7, .iload 4, 2, 0, 0, 0, _) from rfl) (Or.inl ⟨.int e, rfl, rfl⟩) ?_
  refine XW.call (d' := d + 2) (mc' := 0) (ms' := 0) (av := [.ref 1, .int a, .int b, .int dd, .int e]) (rest := []) (M := mr_17) (Ma := mr_18) rfl (show mcode 17 9 = some (9, .invokevirtual 100, 3, 18, 0, 0, _) from rfl) rfl (by decide) (by decide) ⟨rfl, 1, _, rfl, c1⟩ rfl rfl (show 0 ≤ 8 by decide) (tc_lay8 (d := d) hw hf hM) (by omega) (Nat.zero_le _) (Nat.zero_le _) (fun rQ1 wQ1 Q1 => ?_)
  obtain ⟨yQ1, eyQ1⟩ := Qrail_int Q1.1
  subst eyQ1
  refine XW.ret (r := some (.int yQ1)) ⟨⟨.int, rfl, rfl⟩, by decide +kernel⟩ ?_
  exact Q1
theorem tc_railM8 {d : Nat} {sh : List mE} {R : Nat → Nat → Option Nat} {w : mW} {a b dd e : Int32} (hw : wOK (mkT vV []) (wE sh R) w) (hf : fresh w) : Tc 239 (d + 2) 0 0 [.ref 94, .int a, .int b, .int dd, .int e] w (fun r w' => Qrail 98 (okR (w.2.1 94 2).toInt a b dd e) (20 * a.toInt + b.toInt).toNat (20 * b.toInt + a.toInt).toNat dd mdRM w r w' ∧ (okR (w.2.1 94 2).toInt a b dd e → Grt (w'.2.1 94 2).toInt.toNat 100000 (rwT w'.2.1 98) (rwT w'.2.1 102))) := by
  obtain ⟨sh0, I, L, R0⟩ := w
  obtain rfl : sh = sh0 := hw.2.2.2.1.symm
  obtain rfl : R = R0 := hw.2.2.2.2.1.symm
  have c94 : sh[94]? = some (.inr 12) := hw.1 94 _ rfl
  have c98 : sh[98]? = some (.inl (.int, 400)) := hw.1 98 _ rfl
  have c99 : sh[99]? = some (.inl (.int, 400)) := hw.1 99 _ rfl
  have r94_6 : R 94 6 = some 98 := hw.2.1 94 6 _ rfl
  have r94_7 : R 94 7 = some 99 := hw.2.1 94 7 _ rfl
  have zm1 : ((-1) : Int32).toInt = (-1) := rfl
  have z0 : (0 : Int32).toInt = 0 := rfl
  have z1 : (1 : Int32).toInt = 1 := rfl
  have z2 : (2 : Int32).toInt = 2 := rfl
  have z9 : (9 : Int32).toInt = 9 := rfl
  have z20 : (20 : Int32).toInt = 20 := rfl
  have z99 : (99 : Int32).toInt = 99 := rfl
  have hm : 0 ≤ (I 94 2).toInt ∧ (I 94 2).toInt ≤ 20 := hw.2.2.1 94 2
  refine Tc.of mr_239 rfl (show 5 ≤ mr_239.2.2.2.1 by decide) ?_
  refine XW.fam (S' := (1, [(0, .ref 94), (1, .int a), (2, .int b), (3, .int dd), (4, .int e)], [.ref 94], (sh, I, L, R))) (M := mr_239) rfl (show mcode 239 0 = some (0, .aload_n 0, 1, 0, 0, 0, _) from rfl) (Or.inl ⟨.ref 94, rfl, rfl⟩) ?_
  refine XW.fam (S' := (2, [(0, .ref 94), (1, .int a), (2, .int b), (3, .int dd), (4, .int e)], [.int a, .ref 94], (sh, I, L, R))) (M := mr_239) rfl (show mcode 239 1 = some (1, .iload_n 1, 1, 0, 0, 0, _) from rfl) (Or.inl ⟨.int a, rfl, rfl⟩) ?_
  refine XW.call (d' := d + 1) (mc' := 0) (ms' := 0) (av := [.ref 94, .int a]) (rest := []) (M := mr_239) (Ma := mr_240) rfl (show mcode 239 2 = some (2, .invokevirtual 269, 3, 240, 0, 0, _) from rfl) rfl (by decide) (by decide) ⟨rfl, 94, _, rfl, c94⟩ rfl rfl (show 0 ≤ 8 by decide) (tc_isPlM (d := d) hw) (by omega) (Nat.zero_le _) (Nat.zero_le _) (fun rQ1 wQ1 Q1 => ?_)
  obtain ⟨hQ1, rfl⟩ := Q1
  rcases hQ1 with ⟨rfl, gQ1⟩ | ⟨rfl, gQ1⟩
  · skip
    refine XW.fam (S' := (42, [(0, .ref 94), (1, .int a), (2, .int b), (3, .int dd), (4, .int e)], [], (sh, I, L, R))) (M := mr_239) rfl (show mcode 239 5 = some (5, .ifCond .eq 37, 3, 42, 0, 0, _) from rfl) (Or.inr (Or.inl ⟨42, [], rfl, rfl⟩)) ?_
    refine XW.fam (S' := (43, [(0, .ref 94), (1, .int a), (2, .int b), (3, .int dd), (4, .int e)], [.int (-1)], (sh, I, L, R))) (M := mr_239) rfl (show mcode 239 42 = some (42, .iconst (-1), 1, 0, 0, 0, _) from rfl) (Or.inl ⟨.int (-1), rfl, rfl⟩) ?_
    refine XW.ret (r := some (.int (-1))) ⟨⟨.int, rfl, rfl⟩, by decide +kernel⟩ ?_
    refine ⟨?_, fun q => ?_⟩
    · exact ⟨hf, ⟨sh, R, hw⟩, Or.inl ⟨fun q => by have q1 : okR (I 94 2).toInt a b dd e := q; unfold okR at q1; omega, rfl, rfl⟩⟩
    · exfalso
      have q1 : okR (I 94 2).toInt a b dd e := q
      unfold okR at q1
      omega
  · skip
    refine XW.fam (S' := (8, [(0, .ref 94), (1, .int a), (2, .int b), (3, .int dd), (4, .int e)], [], (sh, I, L, R))) (M := mr_239) rfl (show mcode 239 5 = some (5, .ifCond .eq 37, 3, 42, 0, 0, _) from rfl) (Or.inr (Or.inl ⟨8, [], rfl, rfl⟩)) ?_
    refine XW.fam (S' := (9, [(0, .ref 94), (1, .int a), (2, .int b), (3, .int dd), (4, .int e)], [.ref 94], (sh, I, L, R))) (M := mr_239) rfl (show mcode 239 8 = some (8, .aload_n 0, 1, 0, 0, 0, _) from rfl) (Or.inl ⟨.ref 94, rfl, rfl⟩) ?_
    refine XW.fam (S' := (10, [(0, .ref 94), (1, .int a), (2, .int b), (3, .int dd), (4, .int e)], [.int b, .ref 94], (sh, I, L, R))) (M := mr_239) rfl (show mcode 239 9 = some (9, .iload_n 2, 1, 0, 0, 0, _) from rfl) (Or.inl ⟨.int b, rfl, rfl⟩) ?_
    refine XW.call (d' := d + 1) (mc' := 0) (ms' := 0) (av := [.ref 94, .int b]) (rest := []) (M := mr_239) (Ma := mr_240) rfl (show mcode 239 10 = some (10, .invokevirtual 269, 3, 240, 0, 0, _) from rfl) rfl (by decide) (by decide) ⟨rfl, 94, _, rfl, c94⟩ rfl rfl (show 0 ≤ 8 by decide) (tc_isPlM (d := d) hw) (by omega) (Nat.zero_le _) (Nat.zero_le _) (fun rQ2 wQ2 Q2 => ?_)
    obtain ⟨hQ2, rfl⟩ := Q2
    rcases hQ2 with ⟨rfl, gQ2⟩ | ⟨rfl, gQ2⟩
    · skip
      refine XW.fam (S' := (42, [(0, .ref 94), (1, .int a), (2, .int b), (3, .int dd), (4, .int e)], [], (sh, I, L, R))) (M := mr_239) rfl (show mcode 239 13 = some (13, .ifCond .eq 29, 3, 42, 0, 0, _) from rfl) (Or.inr (Or.inl ⟨42, [], rfl, rfl⟩)) ?_
      refine XW.fam (S' := (43, [(0, .ref 94), (1, .int a), (2, .int b), (3, .int dd), (4, .int e)], [.int (-1)], (sh, I, L, R))) (M := mr_239) rfl (show mcode 239 42 = some (42, .iconst (-1), 1, 0, 0, 0, _) from rfl) (Or.inl ⟨.int (-1), rfl, rfl⟩) ?_
      refine XW.ret (r := some (.int (-1))) ⟨⟨.int, rfl, rfl⟩, by decide +kernel⟩ ?_
      refine ⟨?_, fun q => ?_⟩
      · exact ⟨hf, ⟨sh, R, hw⟩, Or.inl ⟨fun q => by have q1 : okR (I 94 2).toInt a b dd e := q; unfold okR at q1; omega, rfl, rfl⟩⟩
      · exfalso
        have q1 : okR (I 94 2).toInt a b dd e := q
        unfold okR at q1
        omega
    · skip
      refine XW.fam (S' := (16, [(0, .ref 94), (1, .int a), (2, .int b), (3, .int dd), (4, .int e)], [], (sh, I, L, R))) (M := mr_239) rfl (show mcode 239 13 = some (13, .ifCond .eq 29, 3, 42, 0, 0, _) from rfl) (Or.inr (Or.inl ⟨16, [], rfl, rfl⟩)) ?_
      refine XW.fam (S' := (17, [(0, .ref 94), (1, .int a), (2, .int b), (3, .int dd), (4, .int e)], [.int a], (sh, I, L, R))) (M := mr_239) rfl (show mcode 239 16 = some (16, .iload_n 1, 1, 0, 0, 0, _) from rfl) (Or.inl ⟨.int a, rfl, rfl⟩) ?_
      refine XW.fam (S' := (18, [(0, .ref 94), (1, .int a), (2, .int b), (3, .int dd), (4, .int e)], [.int b, .int a], (sh, I, L, R))) (M := mr_239) rfl (show mcode 239 17 = some (17, .iload_n 2, 1, 0, 0, 0, _) from rfl) (Or.inl ⟨.int b, rfl, rfl⟩) ?_
      cases k3 : bcmp .eq a b with
      | true =>
        have gk3 : (a).toInt = (b).toInt := icT (c := .eq) (a := (a).toInt) (b := (b).toInt) rfl rfl k3
        refine XW.fam (S' := (42, [(0, .ref 94), (1, .int a), (2, .int b), (3, .int dd), (4, .int e)], [], (sh, I, L, R))) (M := mr_239) rfl (show mcode 239 18 = some (18, .if_icmp .eq 24, 3, 42, 0, 0, _) from rfl) (Or.inr (Or.inl ⟨42, [], by simp [brn, k3], rfl⟩)) ?_
        refine XW.fam (S' := (43, [(0, .ref 94), (1, .int a), (2, .int b), (3, .int dd), (4, .int e)], [.int (-1)], (sh, I, L, R))) (M := mr_239) rfl (show mcode 239 42 = some (42, .iconst (-1), 1, 0, 0, 0, _) from rfl) (Or.inl ⟨.int (-1), rfl, rfl⟩) ?_
        refine XW.ret (r := some (.int (-1))) ⟨⟨.int, rfl, rfl⟩, by decide +kernel⟩ ?_
        refine ⟨?_, fun q => ?_⟩
        · exact ⟨hf, ⟨sh, R, hw⟩, Or.inl ⟨fun q => by have q1 : okR (I 94 2).toInt a b dd e := q; unfold okR at q1; omega, rfl, rfl⟩⟩
        · exfalso
          have q1 : okR (I 94 2).toInt a b dd e := q
          unfold okR at q1
          omega
      | false =>
        have gk3 : ¬ ((a).toInt = (b).toInt) := icF (c := .eq) (a := (a).toInt) (b := (b).toInt) rfl rfl k3
        refine XW.fam (S' := (21, [(0, .ref 94), (1, .int a), (2, .int b), (3, .int dd), (4, .int e)], [], (sh, I, L, R))) (M := mr_239) rfl (show mcode 239 18 = some (18, .if_icmp .eq 24, 3, 42, 0, 0, _) from rfl) (Or.inr (Or.inl ⟨21, [], by simp [brn, k3], rfl⟩)) ?_
        refine XW.fam (S' := (22, [(0, .ref 94), (1, .int a), (2, .int b), (3, .int dd), (4, .int e)], [.int dd], (sh, I, L, R))) (M := mr_239) rfl (show mcode 239 21 = some (21, .iload_n 3, 1, 0, 0, 0, _) from rfl) (Or.inl ⟨.int dd, rfl, rfl⟩) ?_
        refine XW.fam (S' := (23, [(0, .ref 94), (1, .int a), (2, .int b), (3, .int dd), (4, .int e)], [.int 1, .int dd], (sh, I, L, R))) (M := mr_239) rfl (show mcode 239 22 = some (22, .iconst 1, 1, 0, 0, 0, _) from rfl) (Or.inl ⟨.int 1, rfl, rfl⟩) ?_
        refine XW.fam (S' := (25, [(0, .ref 94), (1, .int a), (2, .int b), (3, .int dd), (4, .int e)], [.int 9, .int 1, .int dd], (sh, I, L, R))) (M := mr_239) rfl (show mcode 239 23 = some (23, .bipush 9, 2, 0, 0, 0, _) from rfl) (Or.inl ⟨.int 9, rfl, rfl⟩) ?_
        refine XW.call (d' := d) (mc' := 0) (ms' := 0) (av := [.int dd, .int 1, .int 9]) (rest := []) (M := mr_239) (Ma := mr_236) rfl (show mcode 239 25 = some (25, .invokestatic 254, 3, 236, 0, 0, _) from rfl) rfl (by decide) (by decide) rfl rfl rfl (show 0 ≤ 8 by decide) (tc_inM) (by omega) (Nat.zero_le _) (Nat.zero_le _) (fun rQ4 wQ4 Q4 => ?_)
        obtain ⟨hQ4, rfl⟩ := Q4
        rcases hQ4 with ⟨rfl, gQ4⟩ | ⟨rfl, gQ4⟩
        · skip
          refine XW.fam (S' := (42, [(0, .ref 94), (1, .int a), (2, .int b), (3, .int dd), (4, .int e)], [], (sh, I, L, R))) (M := mr_239) rfl (show mcode 239 28 = some (28, .ifCond .eq 14, 3, 42, 0, 0, _) from rfl) (Or.inr (Or.inl ⟨42, [], rfl, rfl⟩)) ?_
          refine XW.fam (S' := (43, [(0, .ref 94), (1, .int a), (2, .int b), (3, .int dd), (4, .int e)], [.int (-1)], (sh, I, L, R))) (M := mr_239) rfl (show mcode 239 42 = some (42, .iconst (-1), 1, 0, 0, 0, _) from rfl) (Or.inl ⟨.int (-1), rfl, rfl⟩) ?_
          refine XW.ret (r := some (.int (-1))) ⟨⟨.int, rfl, rfl⟩, by decide +kernel⟩ ?_
          refine ⟨?_, fun q => ?_⟩
          · exact ⟨hf, ⟨sh, R, hw⟩, Or.inl ⟨fun q => by have q1 : okR (I 94 2).toInt a b dd e := q; unfold okR at q1; omega, rfl, rfl⟩⟩
          · exfalso
            have q1 : okR (I 94 2).toInt a b dd e := q
            unfold okR at q1
            omega
        · skip
          refine XW.fam (S' := (31, [(0, .ref 94), (1, .int a), (2, .int b), (3, .int dd), (4, .int e)], [], (sh, I, L, R))) (M := mr_239) rfl (show mcode 239 28 = some (28, .ifCond .eq 14, 3, 42, 0, 0, _) from rfl) (Or.inr (Or.inl ⟨31, [], rfl, rfl⟩)) ?_
          refine XW.fam (S' := (33, [(0, .ref 94), (1, .int a), (2, .int b), (3, .int dd), (4, .int e)], [.int e], (sh, I, L, R))) (M := mr_239) rfl (show mcode 239 31 = some (31, .iload 4, 2, 0, 0, 0, _) from rfl) (Or.inl ⟨.int e, rfl, rfl⟩) ?_
          refine XW.fam (S' := (34, [(0, .ref 94), (1, .int a), (2, .int b), (3, .int dd), (4, .int e)], [.int 1, .int e], (sh, I, L, R))) (M := mr_239) rfl (show mcode 239 33 = some (33, .iconst 1, 1, 0, 0, 0, _) from rfl) (Or.inl ⟨.int 1, rfl, rfl⟩) ?_
          refine XW.fam (S' := (36, [(0, .ref 94), (1, .int a), (2, .int b), (3, .int dd), (4, .int e)], [.int 99, .int 1, .int e], (sh, I, L, R))) (M := mr_239) rfl (show mcode 239 34 = some (34, .bipush 99, 2, 0, 0, 0, _) from rfl) (Or.inl ⟨.int 99, rfl, rfl⟩) ?_
          refine XW.call (d' := d) (mc' := 0) (ms' := 0) (av := [.int e, .int 1, .int 99]) (rest := []) (M := mr_239) (Ma := mr_236) rfl (show mcode 239 36 = some (36, .invokestatic 254, 3, 236, 0, 0, _) from rfl) rfl (by decide) (by decide) rfl rfl rfl (show 0 ≤ 8 by decide) (tc_inM) (by omega) (Nat.zero_le _) (Nat.zero_le _) (fun rQ5 wQ5 Q5 => ?_)
          obtain ⟨hQ5, rfl⟩ := Q5
          rcases hQ5 with ⟨rfl, gQ5⟩ | ⟨rfl, gQ5⟩
          · skip
            refine XW.fam (S' := (42, [(0, .ref 94), (1, .int a), (2, .int b), (3, .int dd), (4, .int e)], [], (sh, I, L, R))) (M := mr_239) rfl (show mcode 239 39 = some (39, .ifCond .ne 5, 3, 44, 0, 0, _) from rfl) (Or.inr (Or.inl ⟨42, [], rfl, rfl⟩)) ?_
            refine XW.fam (S' := (43, [(0, .ref 94), (1, .int a), (2, .int b), (3, .int dd), (4, .int e)], [.int (-1)], (sh, I, L, R))) (M := mr_239) rfl (show mcode 239 42 = some (42, .iconst (-1), 1, 0, 0, 0, _) from rfl) (Or.inl ⟨.int (-1), rfl, rfl⟩) ?_
            refine XW.ret (r := some (.int (-1))) ⟨⟨.int, rfl, rfl⟩, by decide +kernel⟩ ?_
            refine ⟨?_, fun q => ?_⟩
            · exact ⟨hf, ⟨sh, R, hw⟩, Or.inl ⟨fun q => by have q1 : okR (I 94 2).toInt a b dd e := q; unfold okR at q1; omega, rfl, rfl⟩⟩
            · exfalso
              have q1 : okR (I 94 2).toInt a b dd e := q
              unfold okR at q1
              omega
          · skip
            refine XW.fam (S' := (44, [(0, .ref 94), (1, .int a), (2, .int b), (3, .int dd), (4, .int e)], [], (sh, I, L, R))) (M := mr_239) rfl (show mcode 239 39 = some (39, .ifCond .ne 5, 3, 44, 0, 0, _) from rfl) (Or.inr (Or.inl ⟨44, [], rfl, rfl⟩)) ?_
            refine XW.fam (S' := (45, [(0, .ref 94), (1, .int a), (2, .int b), (3, .int dd), (4, .int e)], [.ref 94], (sh, I, L, R))) (M := mr_239) rfl (show mcode 239 44 = some (44, .aload_n 0, 1, 0, 0, 0, _) from rfl) (Or.inl ⟨.ref 94, rfl, rfl⟩) ?_
            refine XW.fam (S' := (48, [(0, .ref 94), (1, .int a), (2, .int b), (3, .int dd), (4, .int e)], [.ref 98], (sh, I, L, R))) (M := mr_239) rfl (show mcode 239 45 = some (45, .getfield 20, 3, 12, 6, 0, _) from rfl) (Or.inr (Or.inr (Or.inr (Or.inr (Or.inr (Or.inr (Or.inr (Or.inl ⟨_, _, rfl, fl_ld c94 r94_6 (by decide) (by decide), rfl⟩)))))))) ?_
            refine XW.fam (S' := (50, [(0, .ref 94), (1, .int a), (2, .int b), (3, .int dd), (4, .int e)], [.int 20, .ref 98], (sh, I, L, R))) (M := mr_239) rfl (show mcode 239 48 = some (48, .bipush 20, 2, 0, 0, 0, _) from rfl) (Or.inl ⟨.int 20, rfl, rfl⟩) ?_
            refine XW.fam (S' := (51, [(0, .ref 94), (1, .int a), (2, .int b), (3, .int dd), (4, .int e)], [.int a, .int 20, .ref 98], (sh, I, L, R))) (M := mr_239) rfl (show mcode 239 50 = some (50, .iload_n 1, 1, 0, 0, 0, _) from rfl) (Or.inl ⟨.int a, rfl, rfl⟩) ?_
            refine XW.fam (S' := (52, [(0, .ref 94), (1, .int a), (2, .int b), (3, .int dd), (4, .int e)], [.int (20 * a), .ref 98], (sh, I, L, R))) (M := mr_239) rfl (show mcode 239 51 = some (51, .imul, 1, 0, 0, 0, _) from rfl) (Or.inr (Or.inr (Or.inr (Or.inr (Or.inr (Or.inl ⟨_, rfl, rfl⟩)))))) ?_
            refine XW.fam (S' := (53, [(0, .ref 94), (1, .int a), (2, .int b), (3, .int dd), (4, .int e)], [.int b, .int (20 * a), .ref 98], (sh, I, L, R))) (M := mr_239) rfl (show mcode 239 52 = some (52, .iload_n 2, 1, 0, 0, 0, _) from rfl) (Or.inl ⟨.int b, rfl, rfl⟩) ?_
            refine XW.fam (S' := (54, [(0, .ref 94), (1, .int a), (2, .int b), (3, .int dd), (4, .int e)], [.int ((20 * a) + b), .ref 98], (sh, I, L, R))) (M := mr_239) rfl (show mcode 239 53 = some (53, .iadd, 1, 0, 0, 0, _) from rfl) (Or.inr (Or.inr (Or.inr (Or.inr (Or.inr (Or.inl ⟨_, rfl, rfl⟩)))))) ?_
            have xhin6 : (((20 * a) + b)).toInt = 20 * a.toInt + b.toInt := ix20b (by omega) (by omega)
            have hin6 : inR ((20 * a) + b) 400 = true := inR_of (by omega) (by omega)
            refine XW.fam (S' := (55, [(0, .ref 94), (1, .int a), (2, .int b), (3, .int dd), (4, .int e)], [.int (I 98 (((20 * a) + b)).toNatClampNeg)], (sh, I, L, R))) (M := mr_239) rfl (show mcode 239 54 = some (54, .iaload, 1, 0, 0, 0, _) from rfl) (Or.inr (Or.inr (Or.inl ⟨_, lda_i c98 hin6, rfl⟩))) ?_
            obtain ⟨v0, ev0⟩ : ∃ z, I 98 (((20 * a) + b)).toNatClampNeg = z := ⟨_, rfl⟩
            have hv0 : 0 ≤ (I 98 (((20 * a) + b)).toNatClampNeg).toInt ∧ (I 98 (((20 * a) + b)).toNatClampNeg).toInt ≤ 9 := hw.2.2.1 98 _
            rw [ev0] at hv0
            rw [ev0]
            refine XW.fam (S' := (57, [(5, .int v0), (0, .ref 94), (1, .int a), (2, .int b), (3, .int dd), (4, .int e)], [], (sh, I, L, R))) (M := mr_239) rfl (show mcode 239 55 = some (55, .istore 5, 2, 0, 0, 0, _) from rfl) (Or.inr (Or.inr (Or.inr (Or.inr (Or.inr (Or.inr (Or.inl ⟨_, [], _, rfl, rfl, rfl⟩))))))) ?_
            refine XW.fam (S' := (59, [(5, .int v0), (0, .ref 94), (1, .int a), (2, .int b), (3, .int dd), (4, .int e)], [.int v0], (sh, I, L, R))) (M := mr_239) rfl (show mcode 239 57 = some (57, .iload 5, 2, 0, 0, 0, _) from rfl) (Or.inl ⟨.int v0, rfl, rfl⟩) ?_
            cases k7 : bcmp .eq v0 0 with
            | true =>
              have gk7 : (v0).toInt = 0 := icT (c := .eq) (a := (v0).toInt) (b := 0) rfl (by decide) k7
              refine XW.fam (S' := (68, [(5, .int v0), (0, .ref 94), (1, .int a), (2, .int b), (3, .int dd), (4, .int e)], [], (sh, I, L, R))) (M := mr_239) rfl (show mcode 239 59 = some (59, .ifCond .eq 9, 3, 68, 0, 0, _) from rfl) (Or.inr (Or.inl ⟨68, [], by simp [brn, k7], rfl⟩)) ?_
              refine XW.fam (S' := (69, [(5, .int v0), (0, .ref 94), (1, .int a), (2, .int b), (3, .int dd), (4, .int e)], [.int dd], (sh, I, L, R))) (M := mr_239) rfl (show mcode 239 68 = some (68, .iload_n 3, 1, 0, 0, 0, _) from rfl) (Or.inl ⟨.int dd, rfl, rfl⟩) ?_
              refine XW.fam (S' := (74, [(5, .int v0), (0, .ref 94), (1, .int a), (2, .int b), (3, .int dd), (4, .int e)], [.int dd], (sh, I, L, R))) (M := mr_239) rfl (show mcode 239 69 = some (69, .goto 5, 3, 74, 0, 0, _) from rfl) (Or.inr (Or.inl ⟨74, [.int dd], rfl, rfl⟩)) ?_
              refine XW.fam (S' := (76, [(6, .int dd), (5, .int v0), (0, .ref 94), (1, .int a), (2, .int b), (3, .int dd), (4, .int e)], [], (sh, I, L, R))) (M := mr_239) rfl (show mcode 239 74 = some (74, .istore 6, 2, 0, 0, 0, _) from rfl) (Or.inr (Or.inr (Or.inr (Or.inr (Or.inr (Or.inr (Or.inl ⟨_, [], _, rfl, rfl, rfl⟩))))))) ?_
              refine XW.fam (S' := (77, [(6, .int dd), (5, .int v0), (0, .ref 94), (1, .int a), (2, .int b), (3, .int dd), (4, .int e)], [.int 0], (sh, I, L, R))) (M := mr_239) rfl (show mcode 239 76 = some (76, .iconst 0, 1, 0, 0, 0, _) from rfl) (Or.inl ⟨.int 0, rfl, rfl⟩) ?_
              refine XW.fam (S' := (79, [(7, .int 0), (6, .int dd), (5, .int v0), (0, .ref 94), (1, .int a), (2, .int b), (3, .int dd), (4, .int e)], [], (sh, I, L, R))) (M := mr_239) rfl (show mcode 239 77 = some (77, .istore 7, 2, 0, 0, 0, _) from rfl) (Or.inr (Or.inr (Or.inr (Or.inr (Or.inr (Or.inr (Or.inl ⟨_, [], _, rfl, rfl, rfl⟩))))))) ?_
              refine XW.fam (S' := (81, [(7, .int 0), (6, .int dd), (5, .int v0), (0, .ref 94), (1, .int a), (2, .int b), (3, .int dd), (4, .int e)], [.int 0], (sh, I, L, R))) (M := mr_239) rfl (show mcode 239 79 = some (79, .iload 7, 2, 0, 0, 0, _) from rfl) (Or.inl ⟨.int 0, rfl, rfl⟩) ?_
              refine XW.fam (S' := (82, [(7, .int 0), (6, .int dd), (5, .int v0), (0, .ref 94), (1, .int a), (2, .int b), (3, .int dd), (4, .int e)], [.int 2, .int 0], (sh, I, L, R))) (M := mr_239) rfl (show mcode 239 81 = some (81, .iconst 2, 1, 0, 0, 0, _) from rfl) (Or.inl ⟨.int 2, rfl, rfl⟩) ?_
              refine XW.fam (S' := (85, [(7, .int 0), (6, .int dd), (5, .int v0), (0, .ref 94), (1, .int a), (2, .int b), (3, .int dd), (4, .int e)], [], (sh, I, L, R))) (M := mr_239) rfl (show mcode 239 82 = some (82, .if_icmp .ge 49, 3, 131, 0, 0, _) from rfl) (Or.inr (Or.inl ⟨85, [], rfl, rfl⟩)) ?_
              refine XW.fam (S' := (87, [(7, .int 0), (6, .int dd), (5, .int v0), (0, .ref 94), (1, .int a), (2, .int b), (3, .int dd), (4, .int e)], [.int 0], (sh, I, L, R))) (M := mr_239) rfl (show mcode 239 85 = some (85, .iload 7, 2, 0, 0, 0, _) from rfl) (Or.inl ⟨.int 0, rfl, rfl⟩) ?_
              refine XW.fam (S' := (90, [(7, .int 0), (6, .int dd), (5, .int v0), (0, .ref 94), (1, .int a), (2, .int b), (3, .int dd), (4, .int e)], [], (sh, I, L, R))) (M := mr_239) rfl (show mcode 239 87 = some (87, .ifCond .ne 12, 3, 99, 0, 0, _) from rfl) (Or.inr (Or.inl ⟨90, [], rfl, rfl⟩)) ?_
              refine XW.fam (S' := (92, [(7, .int 0), (6, .int dd), (5, .int v0), (0, .ref 94), (1, .int a), (2, .int b), (3, .int dd), (4, .int e)], [.int 20], (sh, I, L, R))) (M := mr_239) rfl (show mcode 239 90 = some (90, .bipush 20, 2, 0, 0, 0, _) from rfl) (Or.inl ⟨.int 20, rfl, rfl⟩) ?_
              refine XW.fam (S' := (93, [(7, .int 0), (6, .int dd), (5, .int v0), (0, .ref 94), (1, .int a), (2, .int b), (3, .int dd), (4, .int e)], [.int a, .int 20], (sh, I, L, R))) (M := mr_239) rfl (show mcode 239 92 = some (92, .iload_n 1, 1, 0, 0, 0, _) from rfl) (Or.inl ⟨.int a, rfl, rfl⟩) ?_
              refine XW.fam (S' := (94, [(7, .int 0), (6, .int dd), (5, .int v0), (0, .ref 94), (1, .int a), (2, .int b), (3, .int dd), (4, .int e)], [.int (20 * a)], (sh, I, L, R))) (M := mr_239) rfl (show mcode 239 93 = some (93, .imul, 1, 0, 0, 0, _) from rfl) (Or.inr (Or.inr (Or.inr (Or.inr (Or.inr (Or.inl ⟨_, rfl, rfl⟩)))))) ?_
              refine XW.fam (S' := (95, [(7, .int 0), (6, .int dd), (5, .int v0), (0, .ref 94), (1, .int a), (2, .int b), (3, .int dd), (4, .int e)], [.int b, .int (20 * a)], (sh, I, L, R))) (M := mr_239) rfl (show mcode 239 94 = some (94, .iload_n 2, 1, 0, 0, 0, _) from rfl) (Or.inl ⟨.int b, rfl, rfl⟩) ?_
              refine XW.fam (S' := (96, [(7, .int 0), (6, .int dd), (5, .int v0), (0, .ref 94), (1, .int a), (2, .int b), (3, .int dd), (4, .int e)], [.int ((20 * a) + b)], (sh, I, L, R))) (M := mr_239) rfl (show mcode 239 95 = some (95, .iadd, 1, 0, 0, 0, _) from rfl) (Or.inr (Or.inr (Or.inr (Or.inr (Or.inr (Or.inl ⟨_, rfl, rfl⟩)))))) ?_
              refine XW.fam (S' := (105, [(7, .int 0), (6, .int dd), (5, .int v0), (0, .ref 94), (1, .int a), (2, .int b), (3, .int dd), (4, .int e)], [.int ((20 * a) + b)], (sh, I, L, R))) (M := mr_239) rfl (show mcode 239 96 = some (96, .goto 9, 3, 105, 0, 0, _) from rfl) (Or.inr (Or.inl ⟨105, [.int ((20 * a) + b)], rfl, rfl⟩)) ?_
              refine XW.fam (S' := (107, [(8, .int ((20 * a) + b)), (7, .int 0), (6, .int dd), (5, .int v0), (0, .ref 94), (1, .int a), (2, .int b), (3, .int dd), (4, .int e)], [], (sh, I, L, R))) (M := mr_239) rfl (show mcode 239 105 = some (105, .istore 8, 2, 0, 0, 0, _) from rfl) (Or.inr (Or.inr (Or.inr (Or.inr (Or.inr (Or.inr (Or.inl ⟨_, [], _, rfl, rfl, rfl⟩))))))) ?_
              refine XW.fam (S' := (108, [(8, .int ((20 * a) + b)), (7, .int 0), (6, .int dd), (5, .int v0), (0, .ref 94), (1, .int a), (2, .int b), (3, .int dd), (4, .int e)], [.ref 94], (sh, I, L, R))) (M := mr_239) rfl (show mcode 239 107 = some (107, .aload_n 0, 1, 0, 0, 0, _) from rfl) (Or.inl ⟨.ref 94, rfl, rfl⟩) ?_
              refine XW.fam (S' := (111, [(8, .int ((20 * a) + b)), (7, .int 0), (6, .int dd), (5, .int v0), (0, .ref 94), (1, .int a), (2, .int b), (3, .int dd), (4, .int e)], [.ref 98], (sh, I, L, R))) (M := mr_239) rfl (show mcode 239 108 = some (108, .getfield 20, 3, 12, 6, 0, _) from rfl) (Or.inr (Or.inr (Or.inr (Or.inr (Or.inr (Or.inr (Or.inr (Or.inl ⟨_, _, rfl, fl_ld c94 r94_6 (by decide) (by decide), rfl⟩)))))))) ?_
              refine XW.fam (S' := (113, [(8, .int ((20 * a) + b)), (7, .int 0), (6, .int dd), (5, .int v0), (0, .ref 94), (1, .int a), (2, .int b), (3, .int dd), (4, .int e)], [.int ((20 * a) + b), .ref 98], (sh, I, L, R))) (M := mr_239) rfl (show mcode 239 111 = some (111, .iload 8, 2, 0, 0, 0, _) from rfl) (Or.inl ⟨.int ((20 * a) + b), rfl, rfl⟩) ?_
              refine XW.fam (S' := (115, [(8, .int ((20 * a) + b)), (7, .int 0), (6, .int dd), (5, .int v0), (0, .ref 94), (1, .int a), (2, .int b), (3, .int dd), (4, .int e)], [.int dd, .int ((20 * a) + b), .ref 98], (sh, I, L, R))) (M := mr_239) rfl (show mcode 239 113 = some (113, .iload 6, 2, 0, 0, 0, _) from rfl) (Or.inl ⟨.int dd, rfl, rfl⟩) ?_
              have xhin8 : (((20 * a) + b)).toInt = 20 * a.toInt + b.toInt := ix20b (by omega) (by omega)
              have hin8 : inR ((20 * a) + b) 400 = true := inR_of (by omega) (by omega)
              obtain ⟨I9, eI9⟩ : ∃ X, X = up2 I 98 (((20 * a) + b)).toNatClampNeg dd := ⟨_, rfl⟩
              refine XW.fam (S' := (116, [(8, .int ((20 * a) + b)), (7, .int 0), (6, .int dd), (5, .int v0), (0, .ref 94), (1, .int a), (2, .int b), (3, .int dd), (4, .int e)], [], (sh, I9, L, R))) (M := mr_239) rfl (show mcode 239 115 = some (115, .iastore, 1, 0, 0, 0, _) from rfl) (Or.inr (Or.inr (Or.inr (Or.inl ⟨_, _, by rw [eI9]; exact sta_i c98 hin8, rfl⟩)))) ?_
              have hwI9 : wOK (mkT vV []) (wE sh R) (sh, I9, L, R) := by rw [eI9]; exact wOK_u2 (q := 98) (k := (((20 * a) + b)).toNatClampNeg) (x := dd) wE_put hw rfl (by show (0 : Int) ≤ _; omega) (by show _ ≤ (9 : Int); omega)
              have hfI9 : fresh (sh, I9, L, R) := by rw [eI9]; exact fresh_I hf c98
              have v10 : I9 98 (((20 * a) + b)).toNatClampNeg = dd := by rw [eI9]; exact up2_eq
              refine XW.fam (S' := (117, [(8, .int ((20 * a) + b)), (7, .int 0), (6, .int dd), (5, .int v0), (0, .ref 94), (1, .int a), (2, .int b), (3, .int dd), (4, .int e)], [.ref 94], (sh, I9, L, R))) (M := mr_239) rfl (show mcode 239 116 = some (116, .aload_n 0, 1, 0, 0, 0, _) from rfl) (Or.inl ⟨.ref 94, rfl, rfl⟩) ?_
              refine XW.fam (S' := (120, [(8, .int ((20 * a) + b)), (7, .int 0), (6, .int dd), (5, .int v0), (0, .ref 94), (1, .int a), (2, .int b), (3, .int dd), (4, .int e)], [.ref 99], (sh, I9, L, R))) (M := mr_239) rfl (show mcode 239 117 = some (117, .getfield 23, 3, 12, 7, 0, _) from rfl) (Or.inr (Or.inr (Or.inr (Or.inr (Or.inr (Or.inr (Or.inr (Or.inl ⟨_, _, rfl, fl_ld c94 r94_7 (by decide) (by decide), rfl⟩)))))))) ?_
              refine XW.fam (S' := (122, [(8, .int ((20 * a) + b)), (7, .int 0), (6, .int dd), (5, .int v0), (0, .ref 94), (1, .int a), (2, .int b), (3, .int dd), (4, .int e)], [.int ((20 * a) + b), .ref 99], (sh, I9, L, R))) (M := mr_239) rfl (show mcode 239 120 = some (120, .iload 8, 2, 0, 0, 0, _) from rfl) (Or.inl ⟨.int ((20 * a) + b), rfl, rfl⟩) ?_
              refine XW.fam (S' := (124, [(8, .int ((20 * a) + b)), (7, .int 0), (6, .int dd), (5, .int v0), (0, .ref 94), (1, .int a), (2, .int b), (3, .int dd), (4, .int e)], [.int e, .int ((20 * a) + b), .ref 99], (sh, I9, L, R))) (M := mr_239) rfl (show mcode 239 122 = some (122, .iload 4, 2, 0, 0, 0, _) from rfl) (Or.inl ⟨.int e, rfl, rfl⟩) ?_
              have xhin11 : (((20 * a) + b)).toInt = 20 * a.toInt + b.toInt := ix20b (by omega) (by omega)
              have hin11 : inR ((20 * a) + b) 400 = true := inR_of (by omega) (by omega)
              obtain ⟨I12, eI12⟩ : ∃ X, X = up2 I9 99 (((20 * a) + b)).toNatClampNeg e := ⟨_, rfl⟩
              refine XW.fam (S' := (125, [(8, .int ((20 * a) + b)), (7, .int 0), (6, .int dd), (5, .int v0), (0, .ref 94), (1, .int a), (2, .int b), (3, .int dd), (4, .int e)], [], (sh, I12, L, R))) (M := mr_239) rfl (show mcode 239 124 = some (124, .iastore, 1, 0, 0, 0, _) from rfl) (Or.inr (Or.inr (Or.inr (Or.inl ⟨_, _, by rw [eI12]; exact sta_i c99 hin11, rfl⟩)))) ?_
              have hwI12 : wOK (mkT vV []) (wE sh R) (sh, I12, L, R) := by rw [eI12]; exact wOK_u2 (q := 99) (k := (((20 * a) + b)).toNatClampNeg) (x := e) wE_put hwI9 rfl (by show (0 : Int) ≤ _; omega) (by show _ ≤ (99 : Int); omega)
              have hfI12 : fresh (sh, I12, L, R) := by rw [eI12]; exact fresh_I hfI9 c99
              have v13 : I12 98 (((20 * a) + b)).toNatClampNeg = dd := by rw [eI12, up2_ne (fun e => by cases e.1)]; exact v10
              have v14 : I12 99 (((20 * a) + b)).toNatClampNeg = e := by rw [eI12]; exact up2_eq
              refine XW.fam (S' := (128, [(7, .int 1), (8, .int ((20 * a) + b)), (6, .int dd), (5, .int v0), (0, .ref 94), (1, .int a), (2, .int b), (3, .int dd), (4, .int e)], [], (sh, I12, L, R))) (M := mr_239) rfl (show mcode 239 125 = some (125, .iinc 7 1, 3, 0, 0, 0, _) from rfl) (Or.inr (Or.inr (Or.inr (Or.inr (Or.inr (Or.inr (Or.inr (Or.inr (Or.inr ⟨7, 1, 0, rfl, rfl, by decide, rfl⟩))))))))) ?_
              refine XW.fam (S' := (79, [(7, .int 1), (8, .int ((20 * a) + b)), (6, .int dd), (5, .int v0), (0, .ref 94), (1, .int a), (2, .int b), (3, .int dd), (4, .int e)], [], (sh, I12, L, R))) (M := mr_239) rfl (show mcode 239 128 = some (128, .goto (-49), 3, 79, 0, 0, _) from rfl) (Or.inr (Or.inl ⟨79, [], rfl, rfl⟩)) ?_
              refine XW.fam (S' := (81, [(7, .int 1), (8, .int ((20 * a) + b)), (6, .int dd), (5, .int v0), (0, .ref 94), (1, .int a), (2, .int b), (3, .int dd), (4, .int e)], [.int 1], (sh, I12, L, R))) (M := mr_239) rfl (show mcode 239 79 = some (79, .iload 7, 2, 0, 0, 0, _) from rfl) (Or.inl ⟨.int 1, rfl, rfl⟩) ?_
              refine XW.fam (S' := (82, [(7, .int 1), (8, .int ((20 * a) + b)), (6, .int dd), (5, .int v0), (0, .ref 94), (1, .int a), (2, .int b), (3, .int dd), (4, .int e)], [.int 2, .int 1], (sh, I12, L, R))) (M := mr_239) rfl (show mcode 239 81 = some (81, .iconst 2, 1, 0, 0, 0, _) from rfl) (Or.inl ⟨.int 2, rfl, rfl⟩) ?_
              refine XW.fam (S' := (85, [(7, .int 1), (8, .int ((20 * a) + b)), (6, .int dd), (5, .int v0), (0, .ref 94), (1, .int a), (2, .int b), (3, .int dd), (4, .int e)], [], (sh, I12, L, R))) (M := mr_239) rfl (show mcode 239 82 = some (82, .if_icmp .ge 49, 3, 131, 0, 0, _) from rfl) (Or.inr (Or.inl ⟨85, [], rfl, rfl⟩)) ?_
              refine XW.fam (S' := (87, [(7, .int 1), (8, .int ((20 * a) + b)), (6, .int dd), (5, .int v0), (0, .ref 94), (1, .int a), (2, .int b), (3, .int dd), (4, .int e)], [.int 1], (sh, I12, L, R))) (M := mr_239) rfl (show mcode 239 85 = some (85, .iload 7, 2, 0, 0, 0, _) from rfl) (Or.inl ⟨.int 1, rfl, rfl⟩) ?_
              refine XW.fam (S' := (99, [(7, .int 1), (8, .int ((20 * a) + b)), (6, .int dd), (5, .int v0), (0, .ref 94), (1, .int a), (2, .int b), (3, .int dd), (4, .int e)], [], (sh, I12, L, R))) (M := mr_239) rfl (show mcode 239 87 = some (87, .ifCond .ne 12, 3, 99, 0, 0, _) from rfl) (Or.inr (Or.inl ⟨99, [], rfl, rfl⟩)) ?_
              refine XW.fam (S' := (101, [(7, .int 1), (8, .int ((20 * a) + b)), (6, .int dd), (5, .int v0), (0, .ref 94), (1, .int a), (2, .int b), (3, .int dd), (4, .int e)], [.int 20], (sh, I12, L, R))) (M := mr_239) rfl (show mcode 239 99 = some (99, .bipush 20, 2, 0, 0, 0, _) from rfl) (Or.inl ⟨.int 20, rfl, rfl⟩) ?_
              refine XW.fam (S' := (102, [(7, .int 1), (8, .int ((20 * a) + b)), (6, .int dd), (5, .int v0), (0, .ref 94), (1, .int a), (2, .int b), (3, .int dd), (4, .int e)], [.int b, .int 20], (sh, I12, L, R))) (M := mr_239) rfl (show mcode 239 101 = some (101, .iload_n 2, 1, 0, 0, 0, _) from rfl) (Or.inl ⟨.int b, rfl, rfl⟩) ?_
              refine XW.fam (S' := (103, [(7, .int 1), (8, .int ((20 * a) + b)), (6, .int dd), (5, .int v0), (0, .ref 94), (1, .int a), (2, .int b), (3, .int dd), (4, .int e)], [.int (20 * b)], (sh, I12, L, R))) (M := mr_239) rfl (show mcode 239 102 = some (102, .imul, 1, 0, 0, 0, _) from rfl) (Or.inr (Or.inr (Or.inr (Or.inr (Or.inr (Or.inl ⟨_, rfl, rfl⟩)))))) ?_
              refine XW.fam (S' := (104, [(7, .int 1), (8, .int ((20 * a) + b)), (6, .int dd), (5, .int v0), (0, .ref 94), (1, .int a), (2, .int b), (3, .int dd), (4, .int e)], [.int a, .int (20 * b)], (sh, I12, L, R))) (M := mr_239) rfl (show mcode 239 103 = some (103, .iload_n 1, 1, 0, 0, 0, _) from rfl) (Or.inl ⟨.int a, rfl, rfl⟩) ?_
              refine XW.fam (S' := (105, [(7, .int 1), (8, .int ((20 * a) + b)), (6, .int dd), (5, .int v0), (0, .ref 94), (1, .int a), (2, .int b), (3, .int dd), (4, .int e)], [.int ((20 * b) + a)], (sh, I12, L, R))) (M := mr_239) rfl (show mcode 239 104 = some (104, .iadd, 1, 0, 0, 0, _) from rfl) (Or.inr (Or.inr (Or.inr (Or.inr (Or.inr (Or.inl ⟨_, rfl, rfl⟩)))))) ?_
              refine XW.fam (S' := (107, [(8, .int ((20 * b) + a)), (7, .int 1), (6, .int dd), (5, .int v0), (0, .ref 94), (1, .int a), (2, .int b), (3, .int dd), (4, .int e)], [], (sh, I12, L, R))) (M := mr_239) rfl (show mcode 239 105 = some (105, .istore 8, 2, 0, 0, 0, _) from rfl) (Or.inr (Or.inr (Or.inr (Or.inr (Or.inr (Or.inr (Or.inl ⟨_, [], _, rfl, rfl, rfl⟩))))))) ?_
              refine XW.fam (S' := (108, [(8, .int ((20 * b) + a)), (7, .int 1), (6, .int dd), (5, .int v0), (0, .ref 94), (1, .int a), (2, .int b), (3, .int dd), (4, .int e)], [.ref 94], (sh, I12, L, R))) (M := mr_239) rfl (show mcode 239 107 = some (107, .aload_n 0, 1, 0, 0, 0, _) from rfl) (Or.inl ⟨.ref 94, rfl, rfl⟩) ?_
              refine XW.fam (S' := (111, [(8, .int ((20 * b) + a)), (7, .int 1), (6, .int dd), (5, .int v0), (0, .ref 94), (1, .int a), (2, .int b), (3, .int dd), (4, .int e)], [.ref 98], (sh, I12, L, R))) (M := mr_239) rfl (show mcode 239 108 = some (108, .getfield 20, 3, 12, 6, 0, _) from rfl) (Or.inr (Or.inr (Or.inr (Or.inr (Or.inr (Or.inr (Or.inr (Or.inl ⟨_, _, rfl, fl_ld c94 r94_6 (by decide) (by decide), rfl⟩)))))))) ?_
              refine XW.fam (S' := (113, [(8, .int ((20 * b) + a)), (7, .int 1), (6, .int dd), (5, .int v0), (0, .ref 94), (1, .int a), (2, .int b), (3, .int dd), (4, .int e)], [.int ((20 * b) + a), .ref 98], (sh, I12, L, R))) (M := mr_239) rfl (show mcode 239 111 = some (111, .iload 8, 2, 0, 0, 0, _) from rfl) (Or.inl ⟨.int ((20 * b) + a), rfl, rfl⟩) ?_
              refine XW.fam (S' := (115, [(8, .int ((20 * b) + a)), (7, .int 1), (6, .int dd), (5, .int v0), (0, .ref 94), (1, .int a), (2, .int b), (3, .int dd), (4, .int e)], [.int dd, .int ((20 * b) + a), .ref 98], (sh, I12, L, R))) (M := mr_239) rfl (show mcode 239 113 = some (113, .iload 6, 2, 0, 0, 0, _) from rfl) (Or.inl ⟨.int dd, rfl, rfl⟩) ?_
              have xhin15 : (((20 * b) + a)).toInt = 20 * b.toInt + a.toInt := ix20b (by omega) (by omega)
              have hin15 : inR ((20 * b) + a) 400 = true := inR_of (by omega) (by omega)
              obtain ⟨I16, eI16⟩ : ∃ X, X = up2 I12 98 (((20 * b) + a)).toNatClampNeg dd := ⟨_, rfl⟩
              refine XW.fam (S' := (116, [(8, .int ((20 * b) + a)), (7, .int 1), (6, .int dd), (5, .int v0), (0, .ref 94), (1, .int a), (2, .int b), (3, .int dd), (4, .int e)], [], (sh, I16, L, R))) (M := mr_239) rfl (show mcode 239 115 = some (115, .iastore, 1, 0, 0, 0, _) from rfl) (Or.inr (Or.inr (Or.inr (Or.inl ⟨_, _, by rw [eI16]; exact sta_i c98 hin15, rfl⟩)))) ?_
              have hwI16 : wOK (mkT vV []) (wE sh R) (sh, I16, L, R) := by rw [eI16]; exact wOK_u2 (q := 98) (k := (((20 * b) + a)).toNatClampNeg) (x := dd) wE_put hwI12 rfl (by show (0 : Int) ≤ _; omega) (by show _ ≤ (9 : Int); omega)
              have hfI16 : fresh (sh, I16, L, R) := by rw [eI16]; exact fresh_I hfI12 c98
              have v18 : I16 99 (((20 * a) + b)).toNatClampNeg = e := by rw [eI16, up2_ne (fun e => by cases e.1)]; exact v14
              have v19 : I16 98 (((20 * b) + a)).toNatClampNeg = dd := by rw [eI16]; exact up2_eq
              refine XW.fam (S' := (117, [(8, .int ((20 * b) + a)), (7, .int 1), (6, .int dd), (5, .int v0), (0, .ref 94), (1, .int a), (2, .int b), (3, .int dd), (4, .int e)], [.ref 94], (sh, I16, L, R))) (M := mr_239) rfl (show mcode 239 116 = some (116, .aload_n 0, 1, 0, 0, 0, _) from rfl) (Or.inl ⟨.ref 94, rfl, rfl⟩) ?_
              refine XW.fam (S' := (120, [(8, .int ((20 * b) + a)), (7, .int 1), (6, .int dd), (5, .int v0), (0, .ref 94), (1, .int a), (2, .int b), (3, .int dd), (4, .int e)], [.ref 99], (sh, I16, L, R))) (M := mr_239) rfl (show mcode 239 117 = some (117, .getfield 23, 3, 12, 7, 0, _) from rfl) (Or.inr (Or.inr (Or.inr (Or.inr (Or.inr (Or.inr (Or.inr (Or.inl ⟨_, _, rfl, fl_ld c94 r94_7 (by decide) (by decide), rfl⟩)))))))) ?_
              refine XW.fam (S' := (122, [(8, .int ((20 * b) + a)), (7, .int 1), (6, .int dd), (5, .int v0), (0, .ref 94), (1, .int a), (2, .int b), (3, .int dd), (4, .int e)], [.int ((20 * b) + a), .ref 99], (sh, I16, L, R))) (M := mr_239) rfl (show mcode 239 120 = some (120, .iload 8, 2, 0, 0, 0, _) from rfl) (Or.inl ⟨.int ((20 * b) + a), rfl, rfl⟩) ?_
              refine XW.fam (S' := (124, [(8, .int ((20 * b) + a)), (7, .int 1), (6, .int dd), (5, .int v0), (0, .ref 94), (1, .int a), (2, .int b), (3, .int dd), (4, .int e)], [.int e, .int ((20 * b) + a), .ref 99], (sh, I16, L, R))) (M := mr_239) rfl (show mcode 239 122 = some (122, .iload 4, 2, 0, 0, 0, _) from rfl) (Or.inl ⟨.int e, rfl, rfl⟩) ?_
              have xhin20 : (((20 * b) + a)).toInt = 20 * b.toInt + a.toInt := ix20b (by omega) (by omega)
              have hin20 : inR ((20 * b) + a) 400 = true := inR_of (by omega) (by omega)
              obtain ⟨I21, eI21⟩ : ∃ X, X = up2 I16 99 (((20 * b) + a)).toNatClampNeg e := ⟨_, rfl⟩
              refine XW.fam (S' := (125, [(8, .int ((20 * b) + a)), (7, .int 1), (6, .int dd), (5, .int v0), (0, .ref 94), (1, .int a), (2, .int b), (3, .int dd), (4, .int e)], [], (sh, I21, L, R))) (M := mr_239) rfl (show mcode 239 124 = some (124, .iastore, 1, 0, 0, 0, _) from rfl) (Or.inr (Or.inr (Or.inr (Or.inl ⟨_, _, by rw [eI21]; exact sta_i c99 hin20, rfl⟩)))) ?_
              have hwI21 : wOK (mkT vV []) (wE sh R) (sh, I21, L, R) := by rw [eI21]; exact wOK_u2 (q := 99) (k := (((20 * b) + a)).toNatClampNeg) (x := e) wE_put hwI16 rfl (by show (0 : Int) ≤ _; omega) (by show _ ≤ (99 : Int); omega)
              have hfI21 : fresh (sh, I21, L, R) := by rw [eI21]; exact fresh_I hfI16 c99
              have v23 : I21 98 (((20 * b) + a)).toNatClampNeg = dd := by rw [eI21, up2_ne (fun e => by cases e.1)]; exact v19
              have v24 : I21 99 (((20 * b) + a)).toNatClampNeg = e := by rw [eI21]; exact up2_eq
              refine XW.fam (S' := (128, [(7, .int 2), (8, .int ((20 * b) + a)), (6, .int dd), (5, .int v0), (0, .ref 94), (1, .int a), (2, .int b), (3, .int dd), (4, .int e)], [], (sh, I21, L, R))) (M := mr_239) rfl (show mcode 239 125 = some (125, .iinc 7 1, 3, 0, 0, 0, _) from rfl) (Or.inr (Or.inr (Or.inr (Or.inr (Or.inr (Or.inr (Or.inr (Or.inr (Or.inr ⟨7, 1, 1, rfl, rfl, by decide, rfl⟩))))))))) ?_
              refine XW.fam (S' := (79, [(7, .int 2), (8, .int ((20 * b) + a)), (6, .int dd), (5, .int v0), (0, .ref 94), (1, .int a), (2, .int b), (3, .int dd), (4, .int e)], [], (sh, I21, L, R))) (M := mr_239) rfl (show mcode 239 128 = some (128, .goto (-49), 3, 79, 0, 0, _) from rfl) (Or.inr (Or.inl ⟨79, [], rfl, rfl⟩)) ?_
              refine XW.fam (S' := (81, [(7, .int 2), (8, .int ((20 * b) + a)), (6, .int dd), (5, .int v0), (0, .ref 94), (1, .int a), (2, .int b), (3, .int dd), (4, .int e)], [.int 2], (sh, I21, L, R))) (M := mr_239) rfl (show mcode 239 79 = some (79, .iload 7, 2, 0, 0, 0, _) from rfl) (Or.inl ⟨.int 2, rfl, rfl⟩) ?_
              refine XW.fam (S' := (82, [(7, .int 2), (8, .int ((20 * b) + a)), (6, .int dd), (5, .int v0), (0, .ref 94), (1, .int a), (2, .int b), (3, .int dd), (4, .int e)], [.int 2, .int 2], (sh, I21, L, R))) (M := mr_239) rfl (show mcode 239 81 = some (81, .iconst 2, 1, 0, 0, 0, _) from rfl) (Or.inl ⟨.int 2, rfl, rfl⟩) ?_
              refine XW.fam (S' := (131, [(7, .int 2), (8, .int ((20 * b) + a)), (6, .int dd), (5, .int v0), (0, .ref 94), (1, .int a), (2, .int b), (3, .int dd), (4, .int e)], [], (sh, I21, L, R))) (M := mr_239) rfl (show mcode 239 82 = some (82, .if_icmp .ge 49, 3, 131, 0, 0, _) from rfl) (Or.inr (Or.inl ⟨131, [], rfl, rfl⟩)) ?_
              refine XW.fam (S' := (132, [(7, .int 2), (8, .int ((20 * b) + a)), (6, .int dd), (5, .int v0), (0, .ref 94), (1, .int a), (2, .int b), (3, .int dd), (4, .int e)], [.ref 94], (sh, I21, L, R))) (M := mr_239) rfl (show mcode 239 131 = some (131, .aload_n 0, 1, 0, 0, 0, _) from rfl) (Or.inl ⟨.ref 94, rfl, rfl⟩) ?_
              have em8 : I21 94 2 = I 94 2 := by rw [eI21, up2_ne (fun e => by cases e.1), eI16, up2_ne (fun e => by cases e.1), eI12, up2_ne (fun e => by cases e.1), eI9, up2_ne (fun e => by cases e.1)]
              refine XW.call (d' := d + 1) (mc' := 0) (ms' := 0) (av := [.ref 94]) (rest := []) (M := mr_239) (Ma := mr_237) rfl (show mcode 239 132 = some (132, .invokevirtual 266, 3, 237, 0, 0, _) from rfl) rfl (by decide) (by decide) ⟨rfl, 94, _, rfl, c94⟩ rfl rfl (show 0 ≤ 8 by decide) (tc_fars (d := d) (m := I 94 2) hwI21 hfI21 em8) (by omega) (Nat.zero_le _) (Nat.zero_le _) (fun rQ25 wQ25 Q25 => ?_)
              obtain ⟨hrQ25, hfQ25, hwQ25, hIQ25, hGQ25⟩ := Q25
              subst hrQ25
              obtain ⟨shQ25, IQ25, LQ25, RQ25⟩ := wQ25
              obtain rfl : sh = shQ25 := hwQ25.2.2.2.1.symm
              obtain rfl : R = RQ25 := hwQ25.2.2.2.2.1.symm
              have vQ25_0 : IQ25 98 (((20 * b) + a)).toNatClampNeg = dd := (hIQ25 98 (((20 * b) + a)).toNatClampNeg (by decide)).trans v23
              have vQ25_1 : IQ25 99 (((20 * b) + a)).toNatClampNeg = e := (hIQ25 99 (((20 * b) + a)).toNatClampNeg (by decide)).trans v24
              refine XW.fam (S' := (137, [(7, .int 2), (8, .int ((20 * b) + a)), (6, .int dd), (5, .int v0), (0, .ref 94), (1, .int a), (2, .int b), (3, .int dd), (4, .int e)], [.int dd], (sh, IQ25, LQ25, R))) (M := mr_239) rfl (show mcode 239 135 = some (135, .iload 6, 2, 0, 0, 0, _) from rfl) (Or.inl ⟨.int dd, rfl, rfl⟩) ?_
              refine XW.ret (r := some (.int dd)) ⟨⟨.int, rfl, rfl⟩, by decide +kernel⟩ ?_
              refine ⟨?_, fun _ => ?_⟩
              · skip
                have hkp : ∀ q k, inm mdRM q k = false → IQ25 q k = I q k := by
                  intro q k h
                  rw [(show IQ25 q k = I21 q k from hIQ25 q k (fun e => by rw [e] at h; cases h)), eI21, up2_ne (fun e => by rw [e.1] at h; cases h), eI16, up2_ne (fun e => by rw [e.1] at h; cases h), eI12, up2_ne (fun e => by rw [e.1] at h; cases h), eI9, up2_ne (fun e => by rw [e.1] at h; cases h)]
                have y1 : ((20 * a) + b).toNatClampNeg = (20 * a.toInt + b.toInt).toNat := by show ((20 * a) + b).toInt.toNat = _; rw [ix20b (a := a) (b := b) (by omega) (by omega)]
                have y2 : ((20 * b) + a).toNatClampNeg = (20 * b.toInt + a.toInt).toNat := by show ((20 * b) + a).toInt.toNat = _; rw [ix20b (a := b) (b := a) (by omega) (by omega)]
                have hat1 : IQ25 98 ((20 * a) + b).toNatClampNeg = dd := by
                  rw [(show IQ25 98 ((20 * a) + b).toNatClampNeg = I21 98 ((20 * a) + b).toNatClampNeg from hIQ25 98 ((20 * a) + b).toNatClampNeg (by decide)), eI21, up2_ne (fun e => by cases e.1), eI16]
                  exact up2_v (by rw [eI12, up2_ne (fun e => by cases e.1), eI9, up2_eq])
                have hat2 : IQ25 98 ((20 * b) + a).toNatClampNeg = dd := by
                  rw [(show IQ25 98 ((20 * b) + a).toNatClampNeg = I21 98 ((20 * b) + a).toNatClampNeg from hIQ25 98 ((20 * b) + a).toNatClampNeg (by decide)), eI21, up2_ne (fun e => by cases e.1), eI16, up2_eq]
                have hot : ∀ j, ¬ j = ((20 * a) + b).toNatClampNeg → ¬ j = ((20 * b) + a).toNatClampNeg → IQ25 98 j = I 98 j := by
                  intro j hj hj2
                  rw [(show IQ25 98 j = I21 98 j from hIQ25 98 j (by decide)), eI21, up2_ne (fun e => by cases e.1), eI16, up2_ne (fun e => hj2 e.2), eI12, up2_ne (fun e => by cases e.1), eI9, up2_ne (fun e => hj e.2)]
                have hnd : newd v0 dd = dd := if_pos (by omega)
                have h0 : I 98 (20 * a.toInt + b.toInt).toNat = v0 := by rw [← y1]; exact ev0
                rw [y1] at hat1 hot
                rw [y2] at hat2 hot
                refine ⟨hfQ25, ⟨sh, R, hwQ25⟩, Or.inr ⟨show okR (I 94 2).toInt a b dd e by unfold okR; omega, ?_, ?_, ?_, hot, hkp⟩⟩
                · show some (Value.int _) = some (Value.int (newd (I 98 (20 * a.toInt + b.toInt).toNat) dd))
                  rw [h0, hnd]
                · show IQ25 98 (20 * a.toInt + b.toInt).toNat = newd (I 98 (20 * a.toInt + b.toInt).toNat) dd
                  rw [h0, hnd, hat1]
                · show IQ25 98 (20 * b.toInt + a.toInt).toNat = newd (I 98 (20 * a.toInt + b.toInt).toNat) dd
                  rw [h0, hnd, hat2]
              · have e98 : rwT I21 98 = rwT IQ25 98 := by
                  funext x y
                  unfold rwT
                  rw [show IQ25 98 (20 * x + y) = I21 98 (20 * x + y) from hIQ25 98 _ (by decide)]
                have e94 : IQ25 94 2 = I 94 2 := (hIQ25 94 2 (by decide)).trans em8
                show Grt (IQ25 94 2).toInt.toNat 100000 (rwT IQ25 98) (rwT IQ25 102)
                rw [e94, ← e98]
                exact hGQ25
            | false =>
              have gk7 : ¬ ((v0).toInt = 0) := icF (c := .eq) (a := (v0).toInt) (b := 0) rfl (by decide) k7
              refine XW.fam (S' := (62, [(5, .int v0), (0, .ref 94), (1, .int a), (2, .int b), (3, .int dd), (4, .int e)], [], (sh, I, L, R))) (M := mr_239) rfl (show mcode 239 59 = some (59, .ifCond .eq 9, 3, 68, 0, 0, _) from rfl) (Or.inr (Or.inl ⟨62, [], by simp [brn, k7], rfl⟩)) ?_
              refine XW.fam (S' := (63, [(5, .int v0), (0, .ref 94), (1, .int a), (2, .int b), (3, .int dd), (4, .int e)], [.int dd], (sh, I, L, R))) (M := mr_239) rfl (show mcode 239 62 = some (62, .iload_n 3, 1, 0, 0, 0, _) from rfl) (Or.inl ⟨.int dd, rfl, rfl⟩) ?_
              refine XW.fam (S' := (65, [(5, .int v0), (0, .ref 94), (1, .int a), (2, .int b), (3, .int dd), (4, .int e)], [.int v0, .int dd], (sh, I, L, R))) (M := mr_239) rfl (show mcode 239 63 = some (63, .iload 5, 2, 0, 0, 0, _) from rfl) (Or.inl ⟨.int v0, rfl, rfl⟩) ?_
              cases k26 : bcmp .ge dd v0 with
              | true =>
                have gk26 : (v0).toInt ≤ (dd).toInt := icT (c := .ge) (a := (dd).toInt) (b := (v0).toInt) rfl rfl k26
                refine XW.fam (S' := (72, [(5, .int v0), (0, .ref 94), (1, .int a), (2, .int b), (3, .int dd), (4, .int e)], [], (sh, I, L, R))) (M := mr_239) rfl (show mcode 239 65 = some (65, .if_icmp .ge 7, 3, 72, 0, 0, _) from rfl) (Or.inr (Or.inl ⟨72, [], by simp [brn, k26], rfl⟩)) ?_
                refine XW.fam (S' := (74, [(5, .int v0), (0, .ref 94), (1, .int a), (2, .int b), (3, .int dd), (4, .int e)], [.int v0], (sh, I, L, R))) (M := mr_239) rfl (show mcode 239 72 = some (72, .iload 5, 2, 0, 0, 0, _) from rfl) (Or.inl ⟨.int v0, rfl, rfl⟩) ?_
                refine XW.fam (S' := (76, [(6, .int v0), (5, .int v0), (0, .ref 94), (1, .int a), (2, .int b), (3, .int dd), (4, .int e)], [], (sh, I, L, R))) (M := mr_239) rfl (show mcode 239 74 = some (74, .istore 6, 2, 0, 0, 0, _) from rfl) (Or.inr (Or.inr (Or.inr (Or.inr (Or.inr (Or.inr (Or.inl ⟨_, [], _, rfl, rfl, rfl⟩))))))) ?_
                refine XW.fam (S' := (77, [(6, .int v0), (5, .int v0), (0, .ref 94), (1, .int a), (2, .int b), (3, .int dd), (4, .int e)], [.int 0], (sh, I, L, R))) (M := mr_239) rfl (show mcode 239 76 = some (76, .iconst 0, 1, 0, 0, 0, _) from rfl) (Or.inl ⟨.int 0, rfl, rfl⟩) ?_
                refine XW.fam (S' := (79, [(7, .int 0), (6, .int v0), (5, .int v0), (0, .ref 94), (1, .int a), (2, .int b), (3, .int dd), (4, .int e)], [], (sh, I, L, R))) (M := mr_239) rfl (show mcode 239 77 = some (77, .istore 7, 2, 0, 0, 0, _) from rfl) (Or.inr (Or.inr (Or.inr (Or.inr (Or.inr (Or.inr (Or.inl ⟨_, [], _, rfl, rfl, rfl⟩))))))) ?_
                refine XW.fam (S' := (81, [(7, .int 0), (6, .int v0), (5, .int v0), (0, .ref 94), (1, .int a), (2, .int b), (3, .int dd), (4, .int e)], [.int 0], (sh, I, L, R))) (M := mr_239) rfl (show mcode 239 79 = some (79, .iload 7, 2, 0, 0, 0, _) from rfl) (Or.inl ⟨.int 0, rfl, rfl⟩) ?_
                refine XW.fam (S' := (82, [(7, .int 0), (6, .int v0), (5, .int v0), (0, .ref 94), (1, .int a), (2, .int b), (3, .int dd), (4, .int e)], [.int 2, .int 0], (sh, I, L, R))) (M := mr_239) rfl (show mcode 239 81 = some (81, .iconst 2, 1, 0, 0, 0, _) from rfl) (Or.inl ⟨.int 2, rfl, rfl⟩) ?_
                refine XW.fam (S' := (85, [(7, .int 0), (6, .int v0), (5, .int v0), (0, .ref 94), (1, .int a), (2, .int b), (3, .int dd), (4, .int e)], [], (sh, I, L, R))) (M := mr_239) rfl (show mcode 239 82 = some (82, .if_icmp .ge 49, 3, 131, 0, 0, _) from rfl) (Or.inr (Or.inl ⟨85, [], rfl, rfl⟩)) ?_
                refine XW.fam (S' := (87, [(7, .int 0), (6, .int v0), (5, .int v0), (0, .ref 94), (1, .int a), (2, .int b), (3, .int dd), (4, .int e)], [.int 0], (sh, I, L, R))) (M := mr_239) rfl (show mcode 239 85 = some (85, .iload 7, 2, 0, 0, 0, _) from rfl) (Or.inl ⟨.int 0, rfl, rfl⟩) ?_
                refine XW.fam (S' := (90, [(7, .int 0), (6, .int v0), (5, .int v0), (0, .ref 94), (1, .int a), (2, .int b), (3, .int dd), (4, .int e)], [], (sh, I, L, R))) (M := mr_239) rfl (show mcode 239 87 = some (87, .ifCond .ne 12, 3, 99, 0, 0, _) from rfl) (Or.inr (Or.inl ⟨90, [], rfl, rfl⟩)) ?_
                refine XW.fam (S' := (92, [(7, .int 0), (6, .int v0), (5, .int v0), (0, .ref 94), (1, .int a), (2, .int b), (3, .int dd), (4, .int e)], [.int 20], (sh, I, L, R))) (M := mr_239) rfl (show mcode 239 90 = some (90, .bipush 20, 2, 0, 0, 0, _) from rfl) (Or.inl ⟨.int 20, rfl, rfl⟩) ?_
                refine XW.fam (S' := (93, [(7, .int 0), (6, .int v0), (5, .int v0), (0, .ref 94), (1, .int a), (2, .int b), (3, .int dd), (4, .int e)], [.int a, .int 20], (sh, I, L, R))) (M := mr_239) rfl (show mcode 239 92 = some (92, .iload_n 1, 1, 0, 0, 0, _) from rfl) (Or.inl ⟨.int a, rfl, rfl⟩) ?_
                refine XW.fam (S' := (94, [(7, .int 0), (6, .int v0), (5, .int v0), (0, .ref 94), (1, .int a), (2, .int b), (3, .int dd), (4, .int e)], [.int (20 * a)], (sh, I, L, R))) (M := mr_239) rfl (show mcode 239 93 = some (93, .imul, 1, 0, 0, 0, _) from rfl) (Or.inr (Or.inr (Or.inr (Or.inr (Or.inr (Or.inl ⟨_, rfl, rfl⟩)))))) ?_
                refine XW.fam (S' := (95, [(7, .int 0), (6, .int v0), (5, .int v0), (0, .ref 94), (1, .int a), (2, .int b), (3, .int dd), (4, .int e)], [.int b, .int (20 * a)], (sh, I, L, R))) (M := mr_239) rfl (show mcode 239 94 = some (94, .iload_n 2, 1, 0, 0, 0, _) from rfl) (Or.inl ⟨.int b, rfl, rfl⟩) ?_
                refine XW.fam (S' := (96, [(7, .int 0), (6, .int v0), (5, .int v0), (0, .ref 94), (1, .int a), (2, .int b), (3, .int dd), (4, .int e)], [.int ((20 * a) + b)], (sh, I, L, R))) (M := mr_239) rfl (show mcode 239 95 = some (95, .iadd, 1, 0, 0, 0, _) from rfl) (Or.inr (Or.inr (Or.inr (Or.inr (Or.inr (Or.inl ⟨_, rfl, rfl⟩)))))) ?_
                refine XW.fam (S' := (105, [(7, .int 0), (6, .int v0), (5, .int v0), (0, .ref 94), (1, .int a), (2, .int b), (3, .int dd), (4, .int e)], [.int ((20 * a) + b)], (sh, I, L, R))) (M := mr_239) rfl (show mcode 239 96 = some (96, .goto 9, 3, 105, 0, 0, _) from rfl) (Or.inr (Or.inl ⟨105, [.int ((20 * a) + b)], rfl, rfl⟩)) ?_
                refine XW.fam (S' := (107, [(8, .int ((20 * a) + b)), (7, .int 0), (6, .int v0), (5, .int v0), (0, .ref 94), (1, .int a), (2, .int b), (3, .int dd), (4, .int e)], [], (sh, I, L, R))) (M := mr_239) rfl (show mcode 239 105 = some (105, .istore 8, 2, 0, 0, 0, _) from rfl) (Or.inr (Or.inr (Or.inr (Or.inr (Or.inr (Or.inr (Or.inl ⟨_, [], _, rfl, rfl, rfl⟩))))))) ?_
                refine XW.fam (S' := (108, [(8, .int ((20 * a) + b)), (7, .int 0), (6, .int v0), (5, .int v0), (0, .ref 94), (1, .int a), (2, .int b), (3, .int dd), (4, .int e)], [.ref 94], (sh, I, L, R))) (M := mr_239) rfl (show mcode 239 107 = some (107, .aload_n 0, 1, 0, 0, 0, _) from rfl) (Or.inl ⟨.ref 94, rfl, rfl⟩) ?_
                refine XW.fam (S' := (111, [(8, .int ((20 * a) + b)), (7, .int 0), (6, .int v0), (5, .int v0), (0, .ref 94), (1, .int a), (2, .int b), (3, .int dd), (4, .int e)], [.ref 98], (sh, I, L, R))) (M := mr_239) rfl (show mcode 239 108 = some (108, .getfield 20, 3, 12, 6, 0, _) from rfl) (Or.inr (Or.inr (Or.inr (Or.inr (Or.inr (Or.inr (Or.inr (Or.inl ⟨_, _, rfl, fl_ld c94 r94_6 (by decide) (by decide), rfl⟩)))))))) ?_
                refine XW.fam (S' := (113, [(8, .int ((20 * a) + b)), (7, .int 0), (6, .int v0), (5, .int v0), (0, .ref 94), (1, .int a), (2, .int b), (3, .int dd), (4, .int e)], [.int ((20 * a) + b), .ref 98], (sh, I, L, R))) (M := mr_239) rfl (show mcode 239 111 = some (111, .iload 8, 2, 0, 0, 0, _) from rfl) (Or.inl ⟨.int ((20 * a) + b), rfl, rfl⟩) ?_
                refine XW.fam (S' := (115, [(8, .int ((20 * a) + b)), (7, .int 0), (6, .int v0), (5, .int v0), (0, .ref 94), (1, .int a), (2, .int b), (3, .int dd), (4, .int e)], [.int v0, .int ((20 * a) + b), .ref 98], (sh, I, L, R))) (M := mr_239) rfl (show mcode 239 113 = some (113, .iload 6, 2, 0, 0, 0, _) from rfl) (Or.inl ⟨.int v0, rfl, rfl⟩) ?_
                have xhin27 : (((20 * a) + b)).toInt = 20 * a.toInt + b.toInt := ix20b (by omega) (by omega)
                have hin27 : inR ((20 * a) + b) 400 = true := inR_of (by omega) (by omega)
                obtain ⟨I28, eI28⟩ : ∃ X, X = up2 I 98 (((20 * a) + b)).toNatClampNeg v0 := ⟨_, rfl⟩
                refine XW.fam (S' := (116, [(8, .int ((20 * a) + b)), (7, .int 0), (6, .int v0), (5, .int v0), (0, .ref 94), (1, .int a), (2, .int b), (3, .int dd), (4, .int e)], [], (sh, I28, L, R))) (M := mr_239) rfl (show mcode 239 115 = some (115, .iastore, 1, 0, 0, 0, _) from rfl) (Or.inr (Or.inr (Or.inr (Or.inl ⟨_, _, by rw [eI28]; exact sta_i c98 hin27, rfl⟩)))) ?_
                have hwI28 : wOK (mkT vV []) (wE sh R) (sh, I28, L, R) := by rw [eI28]; exact wOK_u2 (q := 98) (k := (((20 * a) + b)).toNatClampNeg) (x := v0) wE_put hw rfl (by show (0 : Int) ≤ _; omega) (by show _ ≤ (9 : Int); omega)
                have hfI28 : fresh (sh, I28, L, R) := by rw [eI28]; exact fresh_I hf c98
                have v29 : I28 98 (((20 * a) + b)).toNatClampNeg = v0 := by rw [eI28]; exact up2_eq
                refine XW.fam (S' := (117, [(8, .int ((20 * a) + b)), (7, .int 0), (6, .int v0), (5, .int v0), (0, .ref 94), (1, .int a), (2, .int b), (3, .int dd), (4, .int e)], [.ref 94], (sh, I28, L, R))) (M := mr_239) rfl (show mcode 239 116 = some (116, .aload_n 0, 1, 0, 0, 0, _) from rfl) (Or.inl ⟨.ref 94, rfl, rfl⟩) ?_
                refine XW.fam (S' := (120, [(8, .int ((20 * a) + b)), (7, .int 0), (6, .int v0), (5, .int v0), (0, .ref 94), (1, .int a), (2, .int b), (3, .int dd), (4, .int e)], [.ref 99], (sh, I28, L, R))) (M := mr_239) rfl (show mcode 239 117 = some (117, .getfield 23, 3, 12, 7, 0, _) from rfl) (Or.inr (Or.inr (Or.inr (Or.inr (Or.inr (Or.inr (Or.inr (Or.inl ⟨_, _, rfl, fl_ld c94 r94_7 (by decide) (by decide), rfl⟩)))))))) ?_
                refine XW.fam (S' := (122, [(8, .int ((20 * a) + b)), (7, .int 0), (6, .int v0), (5, .int v0), (0, .ref 94), (1, .int a), (2, .int b), (3, .int dd), (4, .int e)], [.int ((20 * a) + b), .ref 99], (sh, I28, L, R))) (M := mr_239) rfl (show mcode 239 120 = some (120, .iload 8, 2, 0, 0, 0, _) from rfl) (Or.inl ⟨.int ((20 * a) + b), rfl, rfl⟩) ?_
                refine XW.fam (S' := (124, [(8, .int ((20 * a) + b)), (7, .int 0), (6, .int v0), (5, .int v0), (0, .ref 94), (1, .int a), (2, .int b), (3, .int dd), (4, .int e)], [.int e, .int ((20 * a) + b), .ref 99], (sh, I28, L, R))) (M := mr_239) rfl (show mcode 239 122 = some (122, .iload 4, 2, 0, 0, 0, _) from rfl) (Or.inl ⟨.int e, rfl, rfl⟩) ?_
                have xhin30 : (((20 * a) + b)).toInt = 20 * a.toInt + b.toInt := ix20b (by omega) (by omega)
                have hin30 : inR ((20 * a) + b) 400 = true := inR_of (by omega) (by omega)
                obtain ⟨I31, eI31⟩ : ∃ X, X = up2 I28 99 (((20 * a) + b)).toNatClampNeg e := ⟨_, rfl⟩
                refine XW.fam (S' := (125, [(8, .int ((20 * a) + b)), (7, .int 0), (6, .int v0), (5, .int v0), (0, .ref 94), (1, .int a), (2, .int b), (3, .int dd), (4, .int e)], [], (sh, I31, L, R))) (M := mr_239) rfl (show mcode 239 124 = some (124, .iastore, 1, 0, 0, 0, _) from rfl) (Or.inr (Or.inr (Or.inr (Or.inl ⟨_, _, by rw [eI31]; exact sta_i c99 hin30, rfl⟩)))) ?_
                have hwI31 : wOK (mkT vV []) (wE sh R) (sh, I31, L, R) := by rw [eI31]; exact wOK_u2 (q := 99) (k := (((20 * a) + b)).toNatClampNeg) (x := e) wE_put hwI28 rfl (by show (0 : Int) ≤ _; omega) (by show _ ≤ (99 : Int); omega)
                have hfI31 : fresh (sh, I31, L, R) := by rw [eI31]; exact fresh_I hfI28 c99
                have v32 : I31 98 (((20 * a) + b)).toNatClampNeg = v0 := by rw [eI31, up2_ne (fun e => by cases e.1)]; exact v29
                have v33 : I31 99 (((20 * a) + b)).toNatClampNeg = e := by rw [eI31]; exact up2_eq
                refine XW.fam (S' := (128, [(7, .int 1), (8, .int ((20 * a) + b)), (6, .int v0), (5, .int v0), (0, .ref 94), (1, .int a), (2, .int b), (3, .int dd), (4, .int e)], [], (sh, I31, L, R))) (M := mr_239) rfl (show mcode 239 125 = some (125, .iinc 7 1, 3, 0, 0, 0, _) from rfl) (Or.inr (Or.inr (Or.inr (Or.inr (Or.inr (Or.inr (Or.inr (Or.inr (Or.inr ⟨7, 1, 0, rfl, rfl, by decide, rfl⟩))))))))) ?_
                refine XW.fam (S' := (79, [(7, .int 1), (8, .int ((20 * a) + b)), (6, .int v0), (5, .int v0), (0, .ref 94), (1, .int a), (2, .int b), (3, .int dd), (4, .int e)], [], (sh, I31, L, R))) (M := mr_239) rfl (show mcode 239 128 = some (128, .goto (-49), 3, 79, 0, 0, _) from rfl) (Or.inr (Or.inl ⟨79, [], rfl, rfl⟩)) ?_
                refine XW.fam (S' := (81, [(7, .int 1), (8, .int ((20 * a) + b)), (6, .int v0), (5, .int v0), (0, .ref 94), (1, .int a), (2, .int b), (3, .int dd), (4, .int e)], [.int 1], (sh, I31, L, R))) (M := mr_239) rfl (show mcode 239 79 = some (79, .iload 7, 2, 0, 0, 0, _) from rfl) (Or.inl ⟨.int 1, rfl, rfl⟩) ?_
                refine XW.fam (S' := (82, [(7, .int 1), (8, .int ((20 * a) + b)), (6, .int v0), (5, .int v0), (0, .ref 94), (1, .int a), (2, .int b), (3, .int dd), (4, .int e)], [.int 2, .int 1], (sh, I31, L, R))) (M := mr_239) rfl (show mcode 239 81 = some (81, .iconst 2, 1, 0, 0, 0, _) from rfl) (Or.inl ⟨.int 2, rfl, rfl⟩) ?_
                refine XW.fam (S' := (85, [(7, .int 1), (8, .int ((20 * a) + b)), (6, .int v0), (5, .int v0), (0, .ref 94), (1, .int a), (2, .int b), (3, .int dd), (4, .int e)], [], (sh, I31, L, R))) (M := mr_239) rfl (show mcode 239 82 = some (82, .if_icmp .ge 49, 3, 131, 0, 0, _) from rfl) (Or.inr (Or.inl ⟨85, [], rfl, rfl⟩)) ?_
                refine XW.fam (S' := (87, [(7, .int 1), (8, .int ((20 * a) + b)), (6, .int v0), (5, .int v0), (0, .ref 94), (1, .int a), (2, .int b), (3, .int dd), (4, .int e)], [.int 1], (sh, I31, L, R))) (M := mr_239) rfl (show mcode 239 85 = some (85, .iload 7, 2, 0, 0, 0, _) from rfl) (Or.inl ⟨.int 1, rfl, rfl⟩) ?_
                refine XW.fam (S' := (99, [(7, .int 1), (8, .int ((20 * a) + b)), (6, .int v0), (5, .int v0), (0, .ref 94), (1, .int a), (2, .int b), (3, .int dd), (4, .int e)], [], (sh, I31, L, R))) (M := mr_239) rfl (show mcode 239 87 = some (87, .ifCond .ne 12, 3, 99, 0, 0, _) from rfl) (Or.inr (Or.inl ⟨99, [], rfl, rfl⟩)) ?_
                refine XW.fam (S' := (101, [(7, .int 1), (8, .int ((20 * a) + b)), (6, .int v0), (5, .int v0), (0, .ref 94), (1, .int a), (2, .int b), (3, .int dd), (4, .int e)], [.int 20], (sh, I31, L, R))) (M := mr_239) rfl (show mcode 239 99 = some (99, .bipush 20, 2, 0, 0, 0, _) from rfl) (Or.inl ⟨.int 20, rfl, rfl⟩) ?_
                refine XW.fam (S' := (102, [(7, .int 1), (8, .int ((20 * a) + b)), (6, .int v0), (5, .int v0), (0, .ref 94), (1, .int a), (2, .int b), (3, .int dd), (4, .int e)], [.int b, .int 20], (sh, I31, L, R))) (M := mr_239) rfl (show mcode 239 101 = some (101, .iload_n 2, 1, 0, 0, 0, _) from rfl) (Or.inl ⟨.int b, rfl, rfl⟩) ?_
                refine XW.fam (S' := (103, [(7, .int 1), (8, .int ((20 * a) + b)), (6, .int v0), (5, .int v0), (0, .ref 94), (1, .int a), (2, .int b), (3, .int dd), (4, .int e)], [.int (20 * b)], (sh, I31, L, R))) (M := mr_239) rfl (show mcode 239 102 = some (102, .imul, 1, 0, 0, 0, _) from rfl) (Or.inr (Or.inr (Or.inr (Or.inr (Or.inr (Or.inl ⟨_, rfl, rfl⟩)))))) ?_
                refine XW.fam (S' := (104, [(7, .int 1), (8, .int ((20 * a) + b)), (6, .int v0), (5, .int v0), (0, .ref 94), (1, .int a), (2, .int b), (3, .int dd), (4, .int e)], [.int a, .int (20 * b)], (sh, I31, L, R))) (M := mr_239) rfl (show mcode 239 103 = some (103, .iload_n 1, 1, 0, 0, 0, _) from rfl) (Or.inl ⟨.int a, rfl, rfl⟩) ?_
                refine XW.fam (S' := (105, [(7, .int 1), (8, .int ((20 * a) + b)), (6, .int v0), (5, .int v0), (0, .ref 94), (1, .int a), (2, .int b), (3, .int dd), (4, .int e)], [.int ((20 * b) + a)], (sh, I31, L, R))) (M := mr_239) rfl (show mcode 239 104 = some (104, .iadd, 1, 0, 0, 0, _) from rfl) (Or.inr (Or.inr (Or.inr (Or.inr (Or.inr (Or.inl ⟨_, rfl, rfl⟩)))))) ?_
                refine XW.fam (S' := (107, [(8, .int ((20 * b) + a)), (7, .int 1), (6, .int v0), (5, .int v0), (0, .ref 94), (1, .int a), (2, .int b), (3, .int dd), (4, .int e)], [], (sh, I31, L, R))) (M := mr_239) rfl (show mcode 239 105 = some (105, .istore 8, 2, 0, 0, 0, _) from rfl) (Or.inr (Or.inr (Or.inr (Or.inr (Or.inr (Or.inr (Or.inl ⟨_, [], _, rfl, rfl, rfl⟩))))))) ?_
                refine XW.fam (S' := (108, [(8, .int ((20 * b) + a)), (7, .int 1), (6, .int v0), (5, .int v0), (0, .ref 94), (1, .int a), (2, .int b), (3, .int dd), (4, .int e)], [.ref 94], (sh, I31, L, R))) (M := mr_239) rfl (show mcode 239 107 = some (107, .aload_n 0, 1, 0, 0, 0, _) from rfl) (Or.inl ⟨.ref 94, rfl, rfl⟩) ?_
                refine XW.fam (S' := (111, [(8, .int ((20 * b) + a)), (7, .int 1), (6, .int v0), (5, .int v0), (0, .ref 94), (1, .int a), (2, .int b), (3, .int dd), (4, .int e)], [.ref 98], (sh, I31, L, R))) (M := mr_239) rfl (show mcode 239 108 = some (108, .getfield 20, 3, 12, 6, 0, _) from rfl) (Or.inr (Or.inr (Or.inr (Or.inr (Or.inr (Or.inr (Or.inr (Or.inl ⟨_, _, rfl, fl_ld c94 r94_6 (by decide) (by decide), rfl⟩)))))))) ?_
                refine XW.fam (S' := (113, [(8, .int ((20 * b) + a)), (7, .int 1), (6, .int v0), (5, .int v0), (0, .ref 94), (1, .int a), (2, .int b), (3, .int dd), (4, .int e)], [.int ((20 * b) + a), .ref 98], (sh, I31, L, R))) (M := mr_239) rfl (show mcode 239 111 = some (111, .iload 8, 2, 0, 0, 0, _) from rfl) (Or.inl ⟨.int ((20 * b) + a), rfl, rfl⟩) ?_
                refine XW.fam (S' := (115, [(8, .int ((20 * b) + a)), (7, .int 1), (6, .int v0), (5, .int v0), (0, .ref 94), (1, .int a), (2, .int b), (3, .int dd), (4, .int e)], [.int v0, .int ((20 * b) + a), .ref 98], (sh, I31, L, R))) (M := mr_239) rfl (show mcode 239 113 = some (113, .iload 6, 2, 0, 0, 0, _) from rfl) (Or.inl ⟨.int v0, rfl, rfl⟩) ?_
                have xhin34 : (((20 * b) + a)).toInt = 20 * b.toInt + a.toInt := ix20b (by omega) (by omega)
                have hin34 : inR ((20 * b) + a) 400 = true := inR_of (by omega) (by omega)
                obtain ⟨I35, eI35⟩ : ∃ X, X = up2 I31 98 (((20 * b) + a)).toNatClampNeg v0 := ⟨_, rfl⟩
                refine XW.fam (S' := (116, [(8, .int ((20 * b) + a)), (7, .int 1), (6, .int v0), (5, .int v0), (0, .ref 94), (1, .int a), (2, .int b), (3, .int dd), (4, .int e)], [], (sh, I35, L, R))) (M := mr_239) rfl (show mcode 239 115 = some (115, .iastore, 1, 0, 0, 0, _) from rfl) (Or.inr (Or.inr (Or.inr (Or.inl ⟨_, _, by rw [eI35]; exact sta_i c98 hin34, rfl⟩)))) ?_
                have hwI35 : wOK (mkT vV []) (wE sh R) (sh, I35, L, R) := by rw [eI35]; exact wOK_u2 (q := 98) (k := (((20 * b) + a)).toNatClampNeg) (x := v0) wE_put hwI31 rfl (by show (0 : Int) ≤ _; omega) (by show _ ≤ (9 : Int); omega)
                have hfI35 : fresh (sh, I35, L, R) := by rw [eI35]; exact fresh_I hfI31 c98
                have v37 : I35 99 (((20 * a) + b)).toNatClampNeg = e := by rw [eI35, up2_ne (fun e => by cases e.1)]; exact v33
                have v38 : I35 98 (((20 * b) + a)).toNatClampNeg = v0 := by rw [eI35]; exact up2_eq
                refine XW.fam (S' := (117, [(8, .int ((20 * b) + a)), (7, .int 1), (6, .int v0), (5, .int v0), (0, .ref 94), (1, .int a), (2, .int b), (3, .int dd), (4, .int e)], [.ref 94], (sh, I35, L, R))) (M := mr_239) rfl (show mcode 239 116 = some (116, .aload_n 0, 1, 0, 0, 0, _) from rfl) (Or.inl ⟨.ref 94, rfl, rfl⟩) ?_
                refine XW.fam (S' := (120, [(8, .int ((20 * b) + a)), (7, .int 1), (6, .int v0), (5, .int v0), (0, .ref 94), (1, .int a), (2, .int b), (3, .int dd), (4, .int e)], [.ref 99], (sh, I35, L, R))) (M := mr_239) rfl (show mcode 239 117 = some (117, .getfield 23, 3, 12, 7, 0, _) from rfl) (Or.inr (Or.inr (Or.inr (Or.inr (Or.inr (Or.inr (Or.inr (Or.inl ⟨_, _, rfl, fl_ld c94 r94_7 (by decide) (by decide), rfl⟩)))))))) ?_
                refine XW.fam (S' := (122, [(8, .int ((20 * b) + a)), (7, .int 1), (6, .int v0), (5, .int v0), (0, .ref 94), (1, .int a), (2, .int b), (3, .int dd), (4, .int e)], [.int ((20 * b) + a), .ref 99], (sh, I35, L, R))) (M := mr_239) rfl (show mcode 239 120 = some (120, .iload 8, 2, 0, 0, 0, _) from rfl) (Or.inl ⟨.int ((20 * b) + a), rfl, rfl⟩) ?_
                refine XW.fam (S' := (124, [(8, .int ((20 * b) + a)), (7, .int 1), (6, .int v0), (5, .int v0), (0, .ref 94), (1, .int a), (2, .int b), (3, .int dd), (4, .int e)], [.int e, .int ((20 * b) + a), .ref 99], (sh, I35, L, R))) (M := mr_239) rfl (show mcode 239 122 = some (122, .iload 4, 2, 0, 0, 0, _) from rfl) (Or.inl ⟨.int e, rfl, rfl⟩) ?_
                have xhin39 : (((20 * b) + a)).toInt = 20 * b.toInt + a.toInt := ix20b (by omega) (by omega)
                have hin39 : inR ((20 * b) + a) 400 = true := inR_of (by omega) (by omega)
                obtain ⟨I40, eI40⟩ : ∃ X, X = up2 I35 99 (((20 * b) + a)).toNatClampNeg e := ⟨_, rfl⟩
                refine XW.fam (S' := (125, [(8, .int ((20 * b) + a)), (7, .int 1), (6, .int v0), (5, .int v0), (0, .ref 94), (1, .int a), (2, .int b), (3, .int dd), (4, .int e)], [], (sh, I40, L, R))) (M := mr_239) rfl (show mcode 239 124 = some (124, .iastore, 1, 0, 0, 0, _) from rfl) (Or.inr (Or.inr (Or.inr (Or.inl ⟨_, _, by rw [eI40]; exact sta_i c99 hin39, rfl⟩)))) ?_
                have hwI40 : wOK (mkT vV []) (wE sh R) (sh, I40, L, R) := by rw [eI40]; exact wOK_u2 (q := 99) (k := (((20 * b) + a)).toNatClampNeg) (x := e) wE_put hwI35 rfl (by show (0 : Int) ≤ _; omega) (by show _ ≤ (99 : Int); omega)
                have hfI40 : fresh (sh, I40, L, R) := by rw [eI40]; exact fresh_I hfI35 c99
                have v42 : I40 98 (((20 * b) + a)).toNatClampNeg = v0 := by rw [eI40, up2_ne (fun e => by cases e.1)]; exact v38
                have v43 : I40 99 (((20 * b) + a)).toNatClampNeg = e := by rw [eI40]; exact up2_eq
                refine XW.fam (S' := (128, [(7, .int 2), (8, .int ((20 * b) + a)), (6, .int v0), (5, .int v0), (0, .ref 94), (1, .int a), (2, .int b), (3, .int dd), (4, .int e)], [], (sh, I40, L, R))) (M := mr_239) rfl (show mcode 239 125 = some (125, .iinc 7 1, 3, 0, 0, 0, _) from rfl) (Or.inr (Or.inr (Or.inr (Or.inr (Or.inr (Or.inr (Or.inr (Or.inr (Or.inr ⟨7, 1, 1, rfl, rfl, by decide, rfl⟩))))))))) ?_
                refine XW.fam (S' := (79, [(7, .int 2), (8, .int ((20 * b) + a)), (6, .int v0), (5, .int v0), (0, .ref 94), (1, .int a), (2, .int b), (3, .int dd), (4, .int e)], [], (sh, I40, L, R))) (M := mr_239) rfl (show mcode 239 128 = some (128, .goto (-49), 3, 79, 0, 0, _) from rfl) (Or.inr (Or.inl ⟨79, [], rfl, rfl⟩)) ?_
                refine XW.fam (S' := (81, [(7, .int 2), (8, .int ((20 * b) + a)), (6, .int v0), (5, .int v0), (0, .ref 94), (1, .int a), (2, .int b), (3, .int dd), (4, .int e)], [.int 2], (sh, I40, L, R))) (M := mr_239) rfl (show mcode 239 79 = some (79, .iload 7, 2, 0, 0, 0, _) from rfl) (Or.inl ⟨.int 2, rfl, rfl⟩) ?_
                refine XW.fam (S' := (82, [(7, .int 2), (8, .int ((20 * b) + a)), (6, .int v0), (5, .int v0), (0, .ref 94), (1, .int a), (2, .int b), (3, .int dd), (4, .int e)], [.int 2, .int 2], (sh, I40, L, R))) (M := mr_239) rfl (show mcode 239 81 = some (81, .iconst 2, 1, 0, 0, 0, _) from rfl) (Or.inl ⟨.int 2, rfl, rfl⟩) ?_
                refine XW.fam (S' := (131, [(7, .int 2), (8, .int ((20 * b) + a)), (6, .int v0), (5, .int v0), (0, .ref 94), (1, .int a), (2, .int b), (3, .int dd), (4, .int e)], [], (sh, I40, L, R))) (M := mr_239) rfl (show mcode 239 82 = some (82, .if_icmp .ge 49, 3, 131, 0, 0, _) from rfl) (Or.inr (Or.inl ⟨131, [], rfl, rfl⟩)) ?_
                refine XW.fam (S' := (132, [(7, .int 2), (8, .int ((20 * b) + a)), (6, .int v0), (5, .int v0), (0, .ref 94), (1, .int a), (2, .int b), (3, .int dd), (4, .int e)], [.ref 94], (sh, I40, L, R))) (M := mr_239) rfl (show mcode 239 131 = some (131, .aload_n 0, 1, 0, 0, 0, _) from rfl) (Or.inl ⟨.ref 94, rfl, rfl⟩) ?_
                have em8 : I40 94 2 = I 94 2 := by rw [eI40, up2_ne (fun e => by cases e.1), eI35, up2_ne (fun e => by cases e.1), eI31, up2_ne (fun e => by cases e.1), eI28, up2_ne (fun e => by cases e.1)]
                refine XW.call (d' := d + 1) (mc' := 0) (ms' := 0) (av := [.ref 94]) (rest := []) (M := mr_239) (Ma := mr_237) rfl (show mcode 239 132 = some (132, .invokevirtual 266, 3, 237, 0, 0, _) from rfl) rfl (by decide) (by decide) ⟨rfl, 94, _, rfl, c94⟩ rfl rfl (show 0 ≤ 8 by decide) (tc_fars (d := d) (m := I 94 2) hwI40 hfI40 em8) (by omega) (Nat.zero_le _) (Nat.zero_le _) (fun rQ44 wQ44 Q44 => ?_)
                obtain ⟨hrQ44, hfQ44, hwQ44, hIQ44, hGQ44⟩ := Q44
                subst hrQ44
                obtain ⟨shQ44, IQ44, LQ44, RQ44⟩ := wQ44
                obtain rfl : sh = shQ44 := hwQ44.2.2.2.1.symm
                obtain rfl : R = RQ44 := hwQ44.2.2.2.2.1.symm
                have vQ44_0 : IQ44 98 (((20 * b) + a)).toNatClampNeg = v0 := (hIQ44 98 (((20 * b) + a)).toNatClampNeg (by decide)).trans v42
                have vQ44_1 : IQ44 99 (((20 * b) + a)).toNatClampNeg = e := (hIQ44 99 (((20 * b) + a)).toNatClampNeg (by decide)).trans v43
                refine XW.fam (S' := (137, [(7, .int 2), (8, .int ((20 * b) + a)), (6, .int v0), (5, .int v0), (0, .ref 94), (1, .int a), (2, .int b), (3, .int dd), (4, .int e)], [.int v0], (sh, IQ44, LQ44, R))) (M := mr_239) rfl (show mcode 239 135 = some (135, .iload 6, 2, 0, 0, 0, _) from rfl) (Or.inl ⟨.int v0, rfl, rfl⟩) ?_
                refine XW.ret (r := some (.int v0)) ⟨⟨.int, rfl, rfl⟩, by decide +kernel⟩ ?_
                refine ⟨?_, fun _ => ?_⟩
                · skip
                  have hkp : ∀ q k, inm mdRM q k = false → IQ44 q k = I q k := by
                    intro q k h
                    rw [(show IQ44 q k = I40 q k from hIQ44 q k (fun e => by rw [e] at h; cases h)), eI40, up2_ne (fun e => by rw [e.1] at h; cases h), eI35, up2_ne (fun e => by rw [e.1] at h; cases h), eI31, up2_ne (fun e => by rw [e.1] at h; cases h), eI28, up2_ne (fun e => by rw [e.1] at h; cases h)]
                  have y1 : ((20 * a) + b).toNatClampNeg = (20 * a.toInt + b.toInt).toNat := by show ((20 * a) + b).toInt.toNat = _; rw [ix20b (a := a) (b := b) (by omega) (by omega)]
                  have y2 : ((20 * b) + a).toNatClampNeg = (20 * b.toInt + a.toInt).toNat := by show ((20 * b) + a).toInt.toNat = _; rw [ix20b (a := b) (b := a) (by omega) (by omega)]
                  have hat1 : IQ44 98 ((20 * a) + b).toNatClampNeg = v0 := by
                    rw [(show IQ44 98 ((20 * a) + b).toNatClampNeg = I40 98 ((20 * a) + b).toNatClampNeg from hIQ44 98 ((20 * a) + b).toNatClampNeg (by decide)), eI40, up2_ne (fun e => by cases e.1), eI35]
                    exact up2_v (by rw [eI31, up2_ne (fun e => by cases e.1), eI28, up2_eq])
                  have hat2 : IQ44 98 ((20 * b) + a).toNatClampNeg = v0 := by
                    rw [(show IQ44 98 ((20 * b) + a).toNatClampNeg = I40 98 ((20 * b) + a).toNatClampNeg from hIQ44 98 ((20 * b) + a).toNatClampNeg (by decide)), eI40, up2_ne (fun e => by cases e.1), eI35, up2_eq]
                  have hot : ∀ j, ¬ j = ((20 * a) + b).toNatClampNeg → ¬ j = ((20 * b) + a).toNatClampNeg → IQ44 98 j = I 98 j := by
                    intro j hj hj2
                    rw [(show IQ44 98 j = I40 98 j from hIQ44 98 j (by decide)), eI40, up2_ne (fun e => by cases e.1), eI35, up2_ne (fun e => hj2 e.2), eI31, up2_ne (fun e => by cases e.1), eI28, up2_ne (fun e => hj e.2)]
                  have hnd : newd v0 dd = v0 := if_neg (by omega)
                  have h0 : I 98 (20 * a.toInt + b.toInt).toNat = v0 := by rw [← y1]; exact ev0
                  rw [y1] at hat1 hot
                  rw [y2] at hat2 hot
                  refine ⟨hfQ44, ⟨sh, R, hwQ44⟩, Or.inr ⟨show okR (I 94 2).toInt a b dd e by unfold okR; omega, ?_, ?_, ?_, hot, hkp⟩⟩
                  · show some (Value.int _) = some (Value.int (newd (I 98 (20 * a.toInt + b.toInt).toNat) dd))
                    rw [h0, hnd]
                  · show IQ44 98 (20 * a.toInt + b.toInt).toNat = newd (I 98 (20 * a.toInt + b.toInt).toNat) dd
                    rw [h0, hnd, hat1]
                  · show IQ44 98 (20 * b.toInt + a.toInt).toNat = newd (I 98 (20 * a.toInt + b.toInt).toNat) dd
                    rw [h0, hnd, hat2]
                · have e98 : rwT I40 98 = rwT IQ44 98 := by
                    funext x y
                    unfold rwT
                    rw [show IQ44 98 (20 * x + y) = I40 98 (20 * x + y) from hIQ44 98 _ (by decide)]
                  have e94 : IQ44 94 2 = I 94 2 := (hIQ44 94 2 (by decide)).trans em8
                  show Grt (IQ44 94 2).toInt.toNat 100000 (rwT IQ44 98) (rwT IQ44 102)
                  rw [e94, ← e98]
                  exact hGQ44
              | false =>
                have gk26 : ¬ ((v0).toInt ≤ (dd).toInt) := icF (c := .ge) (a := (dd).toInt) (b := (v0).toInt) rfl rfl k26
                refine XW.fam (S' := (68, [(5, .int v0), (0, .ref 94), (1, .int a), (2, .int b), (3, .int dd), (4, .int e)], [], (sh, I, L, R))) (M := mr_239) rfl (show mcode 239 65 = some (65, .if_icmp .ge 7, 3, 72, 0, 0, _) from rfl) (Or.inr (Or.inl ⟨68, [], by simp [brn, k26], rfl⟩)) ?_
                refine XW.fam (S' := (69, [(5, .int v0), (0, .ref 94), (1, .int a), (2, .int b), (3, .int dd), (4, .int e)], [.int dd], (sh, I, L, R))) (M := mr_239) rfl (show mcode 239 68 = some (68, .iload_n 3, 1, 0, 0, 0, _) from rfl) (Or.inl ⟨.int dd, rfl, rfl⟩) ?_
                refine XW.fam (S' := (74, [(5, .int v0), (0, .ref 94), (1, .int a), (2, .int b), (3, .int dd), (4, .int e)], [.int dd], (sh, I, L, R))) (M := mr_239) rfl (show mcode 239 69 = some (69, .goto 5, 3, 74, 0, 0, _) from rfl) (Or.inr (Or.inl ⟨74, [.int dd], rfl, rfl⟩)) ?_
                refine XW.fam (S' := (76, [(6, .int dd), (5, .int v0), (0, .ref 94), (1, .int a), (2, .int b), (3, .int dd), (4, .int e)], [], (sh, I, L, R))) (M := mr_239) rfl (show mcode 239 74 = some (74, .istore 6, 2, 0, 0, 0, _) from rfl) (Or.inr (Or.inr (Or.inr (Or.inr (Or.inr (Or.inr (Or.inl ⟨_, [], _, rfl, rfl, rfl⟩))))))) ?_
                refine XW.fam (S' := (77, [(6, .int dd), (5, .int v0), (0, .ref 94), (1, .int a), (2, .int b), (3, .int dd), (4, .int e)], [.int 0], (sh, I, L, R))) (M := mr_239) rfl (show mcode 239 76 = some (76, .iconst 0, 1, 0, 0, 0, _) from rfl) (Or.inl ⟨.int 0, rfl, rfl⟩) ?_
                refine XW.fam (S' := (79, [(7, .int 0), (6, .int dd), (5, .int v0), (0, .ref 94), (1, .int a), (2, .int b), (3, .int dd), (4, .int e)], [], (sh, I, L, R))) (M := mr_239) rfl (show mcode 239 77 = some (77, .istore 7, 2, 0, 0, 0, _) from rfl) (Or.inr (Or.inr (Or.inr (Or.inr (Or.inr (Or.inr (Or.inl ⟨_, [], _, rfl, rfl, rfl⟩))))))) ?_
                refine XW.fam (S' := (81, [(7, .int 0), (6, .int dd), (5, .int v0), (0, .ref 94), (1, .int a), (2, .int b), (3, .int dd), (4, .int e)], [.int 0], (sh, I, L, R))) (M := mr_239) rfl (show mcode 239 79 = some (79, .iload 7, 2, 0, 0, 0, _) from rfl) (Or.inl ⟨.int 0, rfl, rfl⟩) ?_
                refine XW.fam (S' := (82, [(7, .int 0), (6, .int dd), (5, .int v0), (0, .ref 94), (1, .int a), (2, .int b), (3, .int dd), (4, .int e)], [.int 2, .int 0], (sh, I, L, R))) (M := mr_239) rfl (show mcode 239 81 = some (81, .iconst 2, 1, 0, 0, 0, _) from rfl) (Or.inl ⟨.int 2, rfl, rfl⟩) ?_
                refine XW.fam (S' := (85, [(7, .int 0), (6, .int dd), (5, .int v0), (0, .ref 94), (1, .int a), (2, .int b), (3, .int dd), (4, .int e)], [], (sh, I, L, R))) (M := mr_239) rfl (show mcode 239 82 = some (82, .if_icmp .ge 49, 3, 131, 0, 0, _) from rfl) (Or.inr (Or.inl ⟨85, [], rfl, rfl⟩)) ?_
                refine XW.fam (S' := (87, [(7, .int 0), (6, .int dd), (5, .int v0), (0, .ref 94), (1, .int a), (2, .int b), (3, .int dd), (4, .int e)], [.int 0], (sh, I, L, R))) (M := mr_239) rfl (show mcode 239 85 = some (85, .iload 7, 2, 0, 0, 0, _) from rfl) (Or.inl ⟨.int 0, rfl, rfl⟩) ?_
                refine XW.fam (S' := (90, [(7, .int 0), (6, .int dd), (5, .int v0), (0, .ref 94), (1, .int a), (2, .int b), (3, .int dd), (4, .int e)], [], (sh, I, L, R))) (M := mr_239) rfl (show mcode 239 87 = some (87, .ifCond .ne 12, 3, 99, 0, 0, _) from rfl) (Or.inr (Or.inl ⟨90, [], rfl, rfl⟩)) ?_
                refine XW.fam (S' := (92, [(7, .int 0), (6, .int dd), (5, .int v0), (0, .ref 94), (1, .int a), (2, .int b), (3, .int dd), (4, .int e)], [.int 20], (sh, I, L, R))) (M := mr_239) rfl (show mcode 239 90 = some (90, .bipush 20, 2, 0, 0, 0, _) from rfl) (Or.inl ⟨.int 20, rfl, rfl⟩) ?_
                refine XW.fam (S' := (93, [(7, .int 0), (6, .int dd), (5, .int v0), (0, .ref 94), (1, .int a), (2, .int b), (3, .int dd), (4, .int e)], [.int a, .int 20], (sh, I, L, R))) (M := mr_239) rfl (show mcode 239 92 = some (92, .iload_n 1, 1, 0, 0, 0, _) from rfl) (Or.inl ⟨.int a, rfl, rfl⟩) ?_
                refine XW.fam (S' := (94, [(7, .int 0), (6, .int dd), (5, .int v0), (0, .ref 94), (1, .int a), (2, .int b), (3, .int dd), (4, .int e)], [.int (20 * a)], (sh, I, L, R))) (M := mr_239) rfl (show mcode 239 93 = some (93, .imul, 1, 0, 0, 0, _) from rfl) (Or.inr (Or.inr (Or.inr (Or.inr (Or.inr (Or.inl ⟨_, rfl, rfl⟩)))))) ?_
                refine XW.fam (S' := (95, [(7, .int 0), (6, .int dd), (5, .int v0), (0, .ref 94), (1, .int a), (2, .int b), (3, .int dd), (4, .int e)], [.int b, .int (20 * a)], (sh, I, L, R))) (M := mr_239) rfl (show mcode 239 94 = some (94, .iload_n 2, 1, 0, 0, 0, _) from rfl) (Or.inl ⟨.int b, rfl, rfl⟩) ?_
                refine XW.fam (S' := (96, [(7, .int 0), (6, .int dd), (5, .int v0), (0, .ref 94), (1, .int a), (2, .int b), (3, .int dd), (4, .int e)], [.int ((20 * a) + b)], (sh, I, L, R))) (M := mr_239) rfl (show mcode 239 95 = some (95, .iadd, 1, 0, 0, 0, _) from rfl) (Or.inr (Or.inr (Or.inr (Or.inr (Or.inr (Or.inl ⟨_, rfl, rfl⟩)))))) ?_
                refine XW.fam (S' := (105, [(7, .int 0), (6, .int dd), (5, .int v0), (0, .ref 94), (1, .int a), (2, .int b), (3, .int dd), (4, .int e)], [.int ((20 * a) + b)], (sh, I, L, R))) (M := mr_239) rfl (show mcode 239 96 = some (96, .goto 9, 3, 105, 0, 0, _) from rfl) (Or.inr (Or.inl ⟨105, [.int ((20 * a) + b)], rfl, rfl⟩)) ?_
                refine XW.fam (S' := (107, [(8, .int ((20 * a) + b)), (7, .int 0), (6, .int dd), (5, .int v0), (0, .ref 94), (1, .int a), (2, .int b), (3, .int dd), (4, .int e)], [], (sh, I, L, R))) (M := mr_239) rfl (show mcode 239 105 = some (105, .istore 8, 2, 0, 0, 0, _) from rfl) (Or.inr (Or.inr (Or.inr (Or.inr (Or.inr (Or.inr (Or.inl ⟨_, [], _, rfl, rfl, rfl⟩))))))) ?_
                refine XW.fam (S' := (108, [(8, .int ((20 * a) + b)), (7, .int 0), (6, .int dd), (5, .int v0), (0, .ref 94), (1, .int a), (2, .int b), (3, .int dd), (4, .int e)], [.ref 94], (sh, I, L, R))) (M := mr_239) rfl (show mcode 239 107 = some (107, .aload_n 0, 1, 0, 0, 0, _) from rfl) (Or.inl ⟨.ref 94, rfl, rfl⟩) ?_
                refine XW.fam (S' := (111, [(8, .int ((20 * a) + b)), (7, .int 0), (6, .int dd), (5, .int v0), (0, .ref 94), (1, .int a), (2, .int b), (3, .int dd), (4, .int e)], [.ref 98], (sh, I, L, R))) (M := mr_239) rfl (show mcode 239 108 = some (108, .getfield 20, 3, 12, 6, 0, _) from rfl) (Or.inr (Or.inr (Or.inr (Or.inr (Or.inr (Or.inr (Or.inr (Or.inl ⟨_, _, rfl, fl_ld c94 r94_6 (by decide) (by decide), rfl⟩)))))))) ?_
                refine XW.fam (S' := (113, [(8, .int ((20 * a) + b)), (7, .int 0), (6, .int dd), (5, .int v0), (0, .ref 94), (1, .int a), (2, .int b), (3, .int dd), (4, .int e)], [.int ((20 * a) + b), .ref 98], (sh, I, L, R))) (M := mr_239) rfl (show mcode 239 111 = some (111, .iload 8, 2, 0, 0, 0, _) from rfl) (Or.inl ⟨.int ((20 * a) + b), rfl, rfl⟩) ?_
                refine XW.fam (S' := (115, [(8, .int ((20 * a) + b)), (7, .int 0), (6, .int dd), (5, .int v0), (0, .ref 94), (1, .int a), (2, .int b), (3, .int dd), (4, .int e)], [.int dd, .int ((20 * a) + b), .ref 98], (sh, I, L, R))) (M := mr_239) rfl (show mcode 239 113 = some (113, .iload 6, 2, 0, 0, 0, _) from rfl) (Or.inl ⟨.int dd, rfl, rfl⟩) ?_
                have xhin45 : (((20 * a) + b)).toInt = 20 * a.toInt + b.toInt := ix20b (by omega) (by omega)
                have hin45 : inR ((20 * a) + b) 400 = true := inR_of (by omega) (by omega)
                obtain ⟨I46, eI46⟩ : ∃ X, X = up2 I 98 (((20 * a) + b)).toNatClampNeg dd := ⟨_, rfl⟩
                refine XW.fam (S' := (116, [(8, .int ((20 * a) + b)), (7, .int 0), (6, .int dd), (5, .int v0), (0, .ref 94), (1, .int a), (2, .int b), (3, .int dd), (4, .int e)], [], (sh, I46, L, R))) (M := mr_239) rfl (show mcode 239 115 = some (115, .iastore, 1, 0, 0, 0, _) from rfl) (Or.inr (Or.inr (Or.inr (Or.inl ⟨_, _, by rw [eI46]; exact sta_i c98 hin45, rfl⟩)))) ?_
                have hwI46 : wOK (mkT vV []) (wE sh R) (sh, I46, L, R) := by rw [eI46]; exact wOK_u2 (q := 98) (k := (((20 * a) + b)).toNatClampNeg) (x := dd) wE_put hw rfl (by show (0 : Int) ≤ _; omega) (by show _ ≤ (9 : Int); omega)
                have hfI46 : fresh (sh, I46, L, R) := by rw [eI46]; exact fresh_I hf c98
                have v47 : I46 98 (((20 * a) + b)).toNatClampNeg = dd := by rw [eI46]; exact up2_eq
                refine XW.fam (S' := (117, [(8, .int ((20 * a) + b)), (7, .int 0), (6, .int dd), (5, .int v0), (0, .ref 94), (1, .int a), (2, .int b), (3, .int dd), (4, .int e)], [.ref 94], (sh, I46, L, R))) (M := mr_239) rfl (show mcode 239 116 = some (116, .aload_n 0, 1, 0, 0, 0, _) from rfl) (Or.inl ⟨.ref 94, rfl, rfl⟩) ?_
                refine XW.fam (S' := (120, [(8, .int ((20 * a) + b)), (7, .int 0), (6, .int dd), (5, .int v0), (0, .ref 94), (1, .int a), (2, .int b), (3, .int dd), (4, .int e)], [.ref 99], (sh, I46, L, R))) (M := mr_239) rfl (show mcode 239 117 = some (117, .getfield 23, 3, 12, 7, 0, _) from rfl) (Or.inr (Or.inr (Or.inr (Or.inr (Or.inr (Or.inr (Or.inr (Or.inl ⟨_, _, rfl, fl_ld c94 r94_7 (by decide) (by decide), rfl⟩)))))))) ?_
                refine XW.fam (S' := (122, [(8, .int ((20 * a) + b)), (7, .int 0), (6, .int dd), (5, .int v0), (0, .ref 94), (1, .int a), (2, .int b), (3, .int dd), (4, .int e)], [.int ((20 * a) + b), .ref 99], (sh, I46, L, R))) (M := mr_239) rfl (show mcode 239 120 = some (120, .iload 8, 2, 0, 0, 0, _) from rfl) (Or.inl ⟨.int ((20 * a) + b), rfl, rfl⟩) ?_
                refine XW.fam (S' := (124, [(8, .int ((20 * a) + b)), (7, .int 0), (6, .int dd), (5, .int v0), (0, .ref 94), (1, .int a), (2, .int b), (3, .int dd), (4, .int e)], [.int e, .int ((20 * a) + b), .ref 99], (sh, I46, L, R))) (M := mr_239) rfl (show mcode 239 122 = some (122, .iload 4, 2, 0, 0, 0, _) from rfl) (Or.inl ⟨.int e, rfl, rfl⟩) ?_
                have xhin48 : (((20 * a) + b)).toInt = 20 * a.toInt + b.toInt := ix20b (by omega) (by omega)
                have hin48 : inR ((20 * a) + b) 400 = true := inR_of (by omega) (by omega)
                obtain ⟨I49, eI49⟩ : ∃ X, X = up2 I46 99 (((20 * a) + b)).toNatClampNeg e := ⟨_, rfl⟩
                refine XW.fam (S' := (125, [(8, .int ((20 * a) + b)), (7, .int 0), (6, .int dd), (5, .int v0), (0, .ref 94), (1, .int a), (2, .int b), (3, .int dd), (4, .int e)], [], (sh, I49, L, R))) (M := mr_239) rfl (show mcode 239 124 = some (124, .iastore, 1, 0, 0, 0, _) from rfl) (Or.inr (Or.inr (Or.inr (Or.inl ⟨_, _, by rw [eI49]; exact sta_i c99 hin48, rfl⟩)))) ?_
                have hwI49 : wOK (mkT vV []) (wE sh R) (sh, I49, L, R) := by rw [eI49]; exact wOK_u2 (q := 99) (k := (((20 * a) + b)).toNatClampNeg) (x := e) wE_put hwI46 rfl (by show (0 : Int) ≤ _; omega) (by show _ ≤ (99 : Int); omega)
                have hfI49 : fresh (sh, I49, L, R) := by rw [eI49]; exact fresh_I hfI46 c99
                have v50 : I49 98 (((20 * a) + b)).toNatClampNeg = dd := by rw [eI49, up2_ne (fun e => by cases e.1)]; exact v47
                have v51 : I49 99 (((20 * a) + b)).toNatClampNeg = e := by rw [eI49]; exact up2_eq
                refine XW.fam (S' := (128, [(7, .int 1), (8, .int ((20 * a) + b)), (6, .int dd), (5, .int v0), (0, .ref 94), (1, .int a), (2, .int b), (3, .int dd), (4, .int e)], [], (sh, I49, L, R))) (M := mr_239) rfl (show mcode 239 125 = some (125, .iinc 7 1, 3, 0, 0, 0, _) from rfl) (Or.inr (Or.inr (Or.inr (Or.inr (Or.inr (Or.inr (Or.inr (Or.inr (Or.inr ⟨7, 1, 0, rfl, rfl, by decide, rfl⟩))))))))) ?_
                refine XW.fam (S' := (79, [(7, .int 1), (8, .int ((20 * a) + b)), (6, .int dd), (5, .int v0), (0, .ref 94), (1, .int a), (2, .int b), (3, .int dd), (4, .int e)], [], (sh, I49, L, R))) (M := mr_239) rfl (show mcode 239 128 = some (128, .goto (-49), 3, 79, 0, 0, _) from rfl) (Or.inr (Or.inl ⟨79, [], rfl, rfl⟩)) ?_
                refine XW.fam (S' := (81, [(7, .int 1), (8, .int ((20 * a) + b)), (6, .int dd), (5, .int v0), (0, .ref 94), (1, .int a), (2, .int b), (3, .int dd), (4, .int e)], [.int 1], (sh, I49, L, R))) (M := mr_239) rfl (show mcode 239 79 = some (79, .iload 7, 2, 0, 0, 0, _) from rfl) (Or.inl ⟨.int 1, rfl, rfl⟩) ?_
                refine XW.fam (S' := (82, [(7, .int 1), (8, .int ((20 * a) + b)), (6, .int dd), (5, .int v0), (0, .ref 94), (1, .int a), (2, .int b), (3, .int dd), (4, .int e)], [.int 2, .int 1], (sh, I49, L, R))) (M := mr_239) rfl (show mcode 239 81 = some (81, .iconst 2, 1, 0, 0, 0, _) from rfl) (Or.inl ⟨.int 2, rfl, rfl⟩) ?_
                refine XW.fam (S' := (85, [(7, .int 1), (8, .int ((20 * a) + b)), (6, .int dd), (5, .int v0), (0, .ref 94), (1, .int a), (2, .int b), (3, .int dd), (4, .int e)], [], (sh, I49, L, R))) (M := mr_239) rfl (show mcode 239 82 = some (82, .if_icmp .ge 49, 3, 131, 0, 0, _) from rfl) (Or.inr (Or.inl ⟨85, [], rfl, rfl⟩)) ?_
                refine XW.fam (S' := (87, [(7, .int 1), (8, .int ((20 * a) + b)), (6, .int dd), (5, .int v0), (0, .ref 94), (1, .int a), (2, .int b), (3, .int dd), (4, .int e)], [.int 1], (sh, I49, L, R))) (M := mr_239) rfl (show mcode 239 85 = some (85, .iload 7, 2, 0, 0, 0, _) from rfl) (Or.inl ⟨.int 1, rfl, rfl⟩) ?_
                refine XW.fam (S' := (99, [(7, .int 1), (8, .int ((20 * a) + b)), (6, .int dd), (5, .int v0), (0, .ref 94), (1, .int a), (2, .int b), (3, .int dd), (4, .int e)], [], (sh, I49, L, R))) (M := mr_239) rfl (show mcode 239 87 = some (87, .ifCond .ne 12, 3, 99, 0, 0, _) from rfl) (Or.inr (Or.inl ⟨99, [], rfl, rfl⟩)) ?_
                refine XW.fam (S' := (101, [(7, .int 1), (8, .int ((20 * a) + b)), (6, .int dd), (5, .int v0), (0, .ref 94), (1, .int a), (2, .int b), (3, .int dd), (4, .int e)], [.int 20], (sh, I49, L, R))) (M := mr_239) rfl (show mcode 239 99 = some (99, .bipush 20, 2, 0, 0, 0, _) from rfl) (Or.inl ⟨.int 20, rfl, rfl⟩) ?_
                refine XW.fam (S' := (102, [(7, .int 1), (8, .int ((20 * a) + b)), (6, .int dd), (5, .int v0), (0, .ref 94), (1, .int a), (2, .int b), (3, .int dd), (4, .int e)], [.int b, .int 20], (sh, I49, L, R))) (M := mr_239) rfl (show mcode 239 101 = some (101, .iload_n 2, 1, 0, 0, 0, _) from rfl) (Or.inl ⟨.int b, rfl, rfl⟩) ?_
                refine XW.fam (S' := (103, [(7, .int 1), (8, .int ((20 * a) + b)), (6, .int dd), (5, .int v0), (0, .ref 94), (1, .int a), (2, .int b), (3, .int dd), (4, .int e)], [.int (20 * b)], (sh, I49, L, R))) (M := mr_239) rfl (show mcode 239 102 = some (102, .imul, 1, 0, 0, 0, _) from rfl) (Or.inr (Or.inr (Or.inr (Or.inr (Or.inr (Or.inl ⟨_, rfl, rfl⟩)))))) ?_
                refine XW.fam (S' := (104, [(7, .int 1), (8, .int ((20 * a) + b)), (6, .int dd), (5, .int v0), (0, .ref 94), (1, .int a), (2, .int b), (3, .int dd), (4, .int e)], [.int a, .int (20 * b)], (sh, I49, L, R))) (M := mr_239) rfl (show mcode 239 103 = some (103, .iload_n 1, 1, 0, 0, 0, _) from rfl) (Or.inl ⟨.int a, rfl, rfl⟩) ?_
                refine XW.fam (S' := (105, [(7, .int 1), (8, .int ((20 * a) + b)), (6, .int dd), (5, .int v0), (0, .ref 94), (1, .int a), (2, .int b), (3, .int dd), (4, .int e)], [.int ((20 * b) + a)], (sh, I49, L, R))) (M := mr_239) rfl (show mcode 239 104 = some (104, .iadd, 1, 0, 0, 0, _) from rfl) (Or.inr (Or.inr (Or.inr (Or.inr (Or.inr (Or.inl ⟨_, rfl, rfl⟩)))))) ?_
                refine XW.fam (S' := (107, [(8, .int ((20 * b) + a)), (7, .int 1), (6, .int dd), (5, .int v0), (0, .ref 94), (1, .int a), (2, .int b), (3, .int dd), (4, .int e)], [], (sh, I49, L, R))) (M := mr_239) rfl (show mcode 239 105 = some (105, .istore 8, 2, 0, 0, 0, _) from rfl) (Or.inr (Or.inr (Or.inr (Or.inr (Or.inr (Or.inr (Or.inl ⟨_, [], _, rfl, rfl, rfl⟩))))))) ?_
                refine XW.fam (S' := (108, [(8, .int ((20 * b) + a)), (7, .int 1), (6, .int dd), (5, .int v0), (0, .ref 94), (1, .int a), (2, .int b), (3, .int dd), (4, .int e)], [.ref 94], (sh, I49, L, R))) (M := mr_239) rfl (show mcode 239 107 = some (107, .aload_n 0, 1, 0, 0, 0, _) from rfl) (Or.inl ⟨.ref 94, rfl, rfl⟩) ?_
                refine XW.fam (S' := (111, [(8, .int ((20 * b) + a)), (7, .int 1), (6, .int dd), (5, .int v0), (0, .ref 94), (1, .int a), (2, .int b), (3, .int dd), (4, .int e)], [.ref 98], (sh, I49, L, R))) (M := mr_239) rfl (show mcode 239 108 = some (108, .getfield 20, 3, 12, 6, 0, _) from rfl) (Or.inr (Or.inr (Or.inr (Or.inr (Or.inr (Or.inr (Or.inr (Or.inl ⟨_, _, rfl, fl_ld c94 r94_6 (by decide) (by decide), rfl⟩)))))))) ?_
                refine XW.fam (S' := (113, [(8, .int ((20 * b) + a)), (7, .int 1), (6, .int dd), (5, .int v0), (0, .ref 94), (1, .int a), (2, .int b), (3, .int dd), (4, .int e)], [.int ((20 * b) + a), .ref 98], (sh, I49, L, R))) (M := mr_239) rfl (show mcode 239 111 = some (111, .iload 8, 2, 0, 0, 0, _) from rfl) (Or.inl ⟨.int ((20 * b) + a), rfl, rfl⟩) ?_
                refine XW.fam (S' := (115, [(8, .int ((20 * b) + a)), (7, .int 1), (6, .int dd), (5, .int v0), (0, .ref 94), (1, .int a), (2, .int b), (3, .int dd), (4, .int e)], [.int dd, .int ((20 * b) + a), .ref 98], (sh, I49, L, R))) (M := mr_239) rfl (show mcode 239 113 = some (113, .iload 6, 2, 0, 0, 0, _) from rfl) (Or.inl ⟨.int dd, rfl, rfl⟩) ?_
                have xhin52 : (((20 * b) + a)).toInt = 20 * b.toInt + a.toInt := ix20b (by omega) (by omega)
                have hin52 : inR ((20 * b) + a) 400 = true := inR_of (by omega) (by omega)
                obtain ⟨I53, eI53⟩ : ∃ X, X = up2 I49 98 (((20 * b) + a)).toNatClampNeg dd := ⟨_, rfl⟩
                refine XW.fam (S' := (116, [(8, .int ((20 * b) + a)), (7, .int 1), (6, .int dd), (5, .int v0), (0, .ref 94), (1, .int a), (2, .int b), (3, .int dd), (4, .int e)], [], (sh, I53, L, R))) (M := mr_239) rfl (show mcode 239 115 = some (115, .iastore, 1, 0, 0, 0, _) from rfl) (Or.inr (Or.inr (Or.inr (Or.inl ⟨_, _, by rw [eI53]; exact sta_i c98 hin52, rfl⟩)))) ?_
                have hwI53 : wOK (mkT vV []) (wE sh R) (sh, I53, L, R) := by rw [eI53]; exact wOK_u2 (q := 98) (k := (((20 * b) + a)).toNatClampNeg) (x := dd) wE_put hwI49 rfl (by show (0 : Int) ≤ _; omega) (by show _ ≤ (9 : Int); omega)
                have hfI53 : fresh (sh, I53, L, R) := by rw [eI53]; exact fresh_I hfI49 c98
                have v55 : I53 99 (((20 * a) + b)).toNatClampNeg = e := by rw [eI53, up2_ne (fun e => by cases e.1)]; exact v51
                have v56 : I53 98 (((20 * b) + a)).toNatClampNeg = dd := by rw [eI53]; exact up2_eq
                refine XW.fam (S' := (117, [(8, .int ((20 * b) + a)), (7, .int 1), (6, .int dd), (5, .int v0), (0, .ref 94), (1, .int a), (2, .int b), (3, .int dd), (4, .int e)], [.ref 94], (sh, I53, L, R))) (M := mr_239) rfl (show mcode 239 116 = some (116, .aload_n 0, 1, 0, 0, 0, _) from rfl) (Or.inl ⟨.ref 94, rfl, rfl⟩) ?_
                refine XW.fam (S' := (120, [(8, .int ((20 * b) + a)), (7, .int 1), (6, .int dd), (5, .int v0), (0, .ref 94), (1, .int a), (2, .int b), (3, .int dd), (4, .int e)], [.ref 99], (sh, I53, L, R))) (M := mr_239) rfl (show mcode 239 117 = some (117, .getfield 23, 3, 12, 7, 0, _) from rfl) (Or.inr (Or.inr (Or.inr (Or.inr (Or.inr (Or.inr (Or.inr (Or.inl ⟨_, _, rfl, fl_ld c94 r94_7 (by decide) (by decide), rfl⟩)))))))) ?_
                refine XW.fam (S' := (122, [(8, .int ((20 * b) + a)), (7, .int 1), (6, .int dd), (5, .int v0), (0, .ref 94), (1, .int a), (2, .int b), (3, .int dd), (4, .int e)], [.int ((20 * b) + a), .ref 99], (sh, I53, L, R))) (M := mr_239) rfl (show mcode 239 120 = some (120, .iload 8, 2, 0, 0, 0, _) from rfl) (Or.inl ⟨.int ((20 * b) + a), rfl, rfl⟩) ?_
                refine XW.fam (S' := (124, [(8, .int ((20 * b) + a)), (7, .int 1), (6, .int dd), (5, .int v0), (0, .ref 94), (1, .int a), (2, .int b), (3, .int dd), (4, .int e)], [.int e, .int ((20 * b) + a), .ref 99], (sh, I53, L, R))) (M := mr_239) rfl (show mcode 239 122 = some (122, .iload 4, 2, 0, 0, 0, _) from rfl) (Or.inl ⟨.int e, rfl, rfl⟩) ?_
                have xhin57 : (((20 * b) + a)).toInt = 20 * b.toInt + a.toInt := ix20b (by omega) (by omega)
                have hin57 : inR ((20 * b) + a) 400 = true := inR_of (by omega) (by omega)
                obtain ⟨I58, eI58⟩ : ∃ X, X = up2 I53 99 (((20 * b) + a)).toNatClampNeg e := ⟨_, rfl⟩
                refine XW.fam (S' := (125, [(8, .int ((20 * b) + a)), (7, .int 1), (6, .int dd), (5, .int v0), (0, .ref 94), (1, .int a), (2, .int b), (3, .int dd), (4, .int e)], [], (sh, I58, L, R))) (M := mr_239) rfl (show mcode 239 124 = some (124, .iastore, 1, 0, 0, 0, _) from rfl) (Or.inr (Or.inr (Or.inr (Or.inl ⟨_, _, by rw [eI58]; exact sta_i c99 hin57, rfl⟩)))) ?_
                have hwI58 : wOK (mkT vV []) (wE sh R) (sh, I58, L, R) := by rw [eI58]; exact wOK_u2 (q := 99) (k := (((20 * b) + a)).toNatClampNeg) (x := e) wE_put hwI53 rfl (by show (0 : Int) ≤ _; omega) (by show _ ≤ (99 : Int); omega)
                have hfI58 : fresh (sh, I58, L, R) := by rw [eI58]; exact fresh_I hfI53 c99
                have v60 : I58 98 (((20 * b) + a)).toNatClampNeg = dd := by rw [eI58, up2_ne (fun e => by cases e.1)]; exact v56
                have v61 : I58 99 (((20 * b) + a)).toNatClampNeg = e := by rw [eI58]; exact up2_eq
                refine XW.fam (S' := (128, [(7, .int 2), (8, .int ((20 * b) + a)), (6, .int dd), (5, .int v0), (0, .ref 94), (1, .int a), (2, .int b), (3, .int dd), (4, .int e)], [], (sh, I58, L, R))) (M := mr_239) rfl (show mcode 239 125 = some (125, .iinc 7 1, 3, 0, 0, 0, _) from rfl) (Or.inr (Or.inr (Or.inr (Or.inr (Or.inr (Or.inr (Or.inr (Or.inr (Or.inr ⟨7, 1, 1, rfl, rfl, by decide, rfl⟩))))))))) ?_
                refine XW.fam (S' := (79, [(7, .int 2), (8, .int ((20 * b) + a)), (6, .int dd), (5, .int v0), (0, .ref 94), (1, .int a), (2, .int b), (3, .int dd), (4, .int e)], [], (sh, I58, L, R))) (M := mr_239) rfl (show mcode 239 128 = some (128, .goto (-49), 3, 79, 0, 0, _) from rfl) (Or.inr (Or.inl ⟨79, [], rfl, rfl⟩)) ?_
                refine XW.fam (S' := (81, [(7, .int 2), (8, .int ((20 * b) + a)), (6, .int dd), (5, .int v0), (0, .ref 94), (1, .int a), (2, .int b), (3, .int dd), (4, .int e)], [.int 2], (sh, I58, L, R))) (M := mr_239) rfl (show mcode 239 79 = some (79, .iload 7, 2, 0, 0, 0, _) from rfl) (Or.inl ⟨.int 2, rfl, rfl⟩) ?_
                refine XW.fam (S' := (82, [(7, .int 2), (8, .int ((20 * b) + a)), (6, .int dd), (5, .int v0), (0, .ref 94), (1, .int a), (2, .int b), (3, .int dd), (4, .int e)], [.int 2, .int 2], (sh, I58, L, R))) (M := mr_239) rfl (show mcode 239 81 = some (81, .iconst 2, 1, 0, 0, 0, _) from rfl) (Or.inl ⟨.int 2, rfl, rfl⟩) ?_
                refine XW.fam (S' := (131, [(7, .int 2), (8, .int ((20 * b) + a)), (6, .int dd), (5, .int v0), (0, .ref 94), (1, .int a), (2, .int b), (3, .int dd), (4, .int e)], [], (sh, I58, L, R))) (M := mr_239) rfl (show mcode 239 82 = some (82, .if_icmp .ge 49, 3, 131, 0, 0, _) from rfl) (Or.inr (Or.inl ⟨131, [], rfl, rfl⟩)) ?_
                refine XW.fam (S' := (132, [(7, .int 2), (8, .int ((20 * b) + a)), (6, .int dd), (5, .int v0), (0, .ref 94), (1, .int a), (2, .int b), (3, .int dd), (4, .int e)], [.ref 94], (sh, I58, L, R))) (M := mr_239) rfl (show mcode 239 131 = some (131, .aload_n 0, 1, 0, 0, 0, _) from rfl) (Or.inl ⟨.ref 94, rfl, rfl⟩) ?_
                have em8 : I58 94 2 = I 94 2 := by rw [eI58, up2_ne (fun e => by cases e.1), eI53, up2_ne (fun e => by cases e.1), eI49, up2_ne (fun e => by cases e.1), eI46, up2_ne (fun e => by cases e.1)]
                refine XW.call (d' := d + 1) (mc' := 0) (ms' := 0) (av := [.ref 94]) (rest := []) (M := mr_239) (Ma := mr_237) rfl (show mcode 239 132 = some (132, .invokevirtual 266, 3, 237, 0, 0, _) from rfl) rfl (by decide) (by decide) ⟨rfl, 94, _, rfl, c94⟩ rfl rfl (show 0 ≤ 8 by decide) (tc_fars (d := d) (m := I 94 2) hwI58 hfI58 em8) (by omega) (Nat.zero_le _) (Nat.zero_le _) (fun rQ62 wQ62 Q62 => ?_)
                obtain ⟨hrQ62, hfQ62, hwQ62, hIQ62, hGQ62⟩ := Q62
                subst hrQ62
                obtain ⟨shQ62, IQ62, LQ62, RQ62⟩ := wQ62
                obtain rfl : sh = shQ62 := hwQ62.2.2.2.1.symm
                obtain rfl : R = RQ62 := hwQ62.2.2.2.2.1.symm
                have vQ62_0 : IQ62 98 (((20 * b) + a)).toNatClampNeg = dd := (hIQ62 98 (((20 * b) + a)).toNatClampNeg (by decide)).trans v60
                have vQ62_1 : IQ62 99 (((20 * b) + a)).toNatClampNeg = e := (hIQ62 99 (((20 * b) + a)).toNatClampNeg (by decide)).trans v61
                refine XW.fam (S' := (137, [(7, .int 2), (8, .int ((20 * b) + a)), (6, .int dd), (5, .int v0), (0, .ref 94), (1, .int a), (2, .int b), (3, .int dd), (4, .int e)], [.int dd], (sh, IQ62, LQ62, R))) (M := mr_239) rfl (show mcode 239 135 = some (135, .iload 6, 2, 0, 0, 0, _) from rfl) (Or.inl ⟨.int dd, rfl, rfl⟩) ?_
                refine XW.ret (r := some (.int dd)) ⟨⟨.int, rfl, rfl⟩, by decide +kernel⟩ ?_
                refine ⟨?_, fun _ => ?_⟩
                · skip
                  have hkp : ∀ q k, inm mdRM q k = false → IQ62 q k = I q k := by
                    intro q k h
                    rw [(show IQ62 q k = I58 q k from hIQ62 q k (fun e => by rw [e] at h; cases h)), eI58, up2_ne (fun e => by rw [e.1] at h; cases h), eI53, up2_ne (fun e => by rw [e.1] at h; cases h), eI49, up2_ne (fun e => by rw [e.1] at h; cases h), eI46, up2_ne (fun e => by rw [e.1] at h; cases h)]
                  have y1 : ((20 * a) + b).toNatClampNeg = (20 * a.toInt + b.toInt).toNat := by show ((20 * a) + b).toInt.toNat = _; rw [ix20b (a := a) (b := b) (by omega) (by omega)]
                  have y2 : ((20 * b) + a).toNatClampNeg = (20 * b.toInt + a.toInt).toNat := by show ((20 * b) + a).toInt.toNat = _; rw [ix20b (a := b) (b := a) (by omega) (by omega)]
                  have hat1 : IQ62 98 ((20 * a) + b).toNatClampNeg = dd := by
                    rw [(show IQ62 98 ((20 * a) + b).toNatClampNeg = I58 98 ((20 * a) + b).toNatClampNeg from hIQ62 98 ((20 * a) + b).toNatClampNeg (by decide)), eI58, up2_ne (fun e => by cases e.1), eI53]
                    exact up2_v (by rw [eI49, up2_ne (fun e => by cases e.1), eI46, up2_eq])
                  have hat2 : IQ62 98 ((20 * b) + a).toNatClampNeg = dd := by
                    rw [(show IQ62 98 ((20 * b) + a).toNatClampNeg = I58 98 ((20 * b) + a).toNatClampNeg from hIQ62 98 ((20 * b) + a).toNatClampNeg (by decide)), eI58, up2_ne (fun e => by cases e.1), eI53, up2_eq]
                  have hot : ∀ j, ¬ j = ((20 * a) + b).toNatClampNeg → ¬ j = ((20 * b) + a).toNatClampNeg → IQ62 98 j = I 98 j := by
                    intro j hj hj2
                    rw [(show IQ62 98 j = I58 98 j from hIQ62 98 j (by decide)), eI58, up2_ne (fun e => by cases e.1), eI53, up2_ne (fun e => hj2 e.2), eI49, up2_ne (fun e => by cases e.1), eI46, up2_ne (fun e => hj e.2)]
                  have hnd : newd v0 dd = dd := if_pos (by omega)
                  have h0 : I 98 (20 * a.toInt + b.toInt).toNat = v0 := by rw [← y1]; exact ev0
                  rw [y1] at hat1 hot
                  rw [y2] at hat2 hot
                  refine ⟨hfQ62, ⟨sh, R, hwQ62⟩, Or.inr ⟨show okR (I 94 2).toInt a b dd e by unfold okR; omega, ?_, ?_, ?_, hot, hkp⟩⟩
                  · show some (Value.int _) = some (Value.int (newd (I 98 (20 * a.toInt + b.toInt).toNat) dd))
                    rw [h0, hnd]
                  · show IQ62 98 (20 * a.toInt + b.toInt).toNat = newd (I 98 (20 * a.toInt + b.toInt).toNat) dd
                    rw [h0, hnd, hat1]
                  · show IQ62 98 (20 * b.toInt + a.toInt).toNat = newd (I 98 (20 * a.toInt + b.toInt).toNat) dd
                    rw [h0, hnd, hat2]
                · have e98 : rwT I58 98 = rwT IQ62 98 := by
                    funext x y
                    unfold rwT
                    rw [show IQ62 98 (20 * x + y) = I58 98 (20 * x + y) from hIQ62 98 _ (by decide)]
                  have e94 : IQ62 94 2 = I 94 2 := (hIQ62 94 2 (by decide)).trans em8
                  show Grt (IQ62 94 2).toInt.toNat 100000 (rwT IQ62 98) (rwT IQ62 102)
                  rw [e94, ← e98]
                  exact hGQ62
theorem grt_congr {n : Nat} {C : Int} {r r' W W' : Nat → Nat → Int} (hr : ∀ a b, a < n → b < n → r' a b = r a b) (hW : ∀ a b, a < n → b < n → W' a b = W a b) (h : Grt n C r W) : Grt n C r' W' := by
  obtain ⟨⟨w1, w2, w3, w4⟩, w5⟩ := h
  refine ⟨⟨fun a ha => by rw [hW a a ha ha]; exact w1 a ha, fun a b ha hb => by rw [hW a b ha hb]; exact w2 a b ha hb, fun a b ha hb q => ?_, fun a b c ha hb hc => by rw [hW a c ha hc, hW a b ha hb, hW b c hb hc]; exact w4 a b c ha hb hc⟩, fun V hV a b ha hb => ?_⟩
  · rw [hr a b ha hb] at q ⊢
    rw [hW a b ha hb]
    exact w3 a b ha hb q
  · rw [hW a b ha hb]
    exact w5 V ⟨hV.1, hV.2.1, fun x y hx hy q => by rw [← hr x y hx hy] at q ⊢; exact hV.2.2.1 x y hx hy q, hV.2.2.2⟩ a b ha hb
theorem rl_sym {w : mW} (h : RLr w) {a b : Nat} (ha : a < 20) (hb : b < 20) : rwT w.2.1 98 a b = rwT w.2.1 98 b a := by
  unfold rwT
  rcases Nat.lt_trichotomy a b with q | q | q
  · rw [(h a b q hb).2]
  · rw [q]
  · rw [(h b a q ha).2]
/-- both sides know the same rails, and the greatest table of ways by them -/
def RLf (w : mW) : Prop := RLr w ∧ Grt (w.2.1 1 1).toInt.toNat 1000000 (rwT w.2.1 98) (rwT w.2.1 8) ∧ Grt (w.2.1 1 1).toInt.toNat 100000 (rwT w.2.1 98) (rwT w.2.1 102) ∧ (∀ a b : Nat, a < 20 → b < 20 → ((w.2.1 1 1).toInt.toNat ≤ a ∨ (w.2.1 1 1).toInt.toNat ≤ b) → rwT w.2.1 98 a b = 0) ∧ ∀ a : Nat, a < 20 → rwT w.2.1 8 a a = 0
theorem rwT_keep {w w' : mW} {q : Nat} (h : ∀ k, w'.2.1 q k = w.2.1 q k) : rwT w'.2.1 q = rwT w.2.1 q := by
  funext a b
  unfold rwT
  rw [h]
theorem RLf_keep {w w' : mW} (h5 : ∀ k, w'.2.1 5 k = w.2.1 5 k) (h98 : ∀ k, w'.2.1 98 k = w.2.1 98 k) (h8 : ∀ k, w'.2.1 8 k = w.2.1 8 k) (h102 : ∀ k, w'.2.1 102 k = w.2.1 102 k) (h1 : w'.2.1 1 1 = w.2.1 1 1) (h : RLf w) : RLf w' := by
  have e98 := rwT_keep h98
  have e8 := rwT_keep h8
  have e102 := rwT_keep h102
  have hr := RLr_keep h5 h98 h.1
  refine ⟨hr, ?_⟩
  rw [e98, e8, e102, h1]
  exact h.2
theorem grt_zero {C : Int} {r W : Nat → Nat → Int} : Grt 0 C r W := ⟨⟨fun a ha => absurd ha (Nat.not_lt_zero _), fun a b ha => absurd ha (Nat.not_lt_zero _), fun a b ha => absurd ha (Nat.not_lt_zero _), fun a b c ha => absurd ha (Nat.not_lt_zero _)⟩, fun V _ a b ha => absurd ha (Nat.not_lt_zero _)⟩
theorem RLf_first {w : mW} (h1 : (w.2.1 1 1).toInt.toNat = 0) (hr : RLr w) (h98 : ∀ k, w.2.1 98 k = 0) (h8 : ∀ k, w.2.1 8 k = 0) : RLf w := by
  refine ⟨hr, ?_, ?_, fun a b _ _ _ => ?_, fun a _ => ?_⟩
  · rw [h1]
    exact grt_zero
  · rw [h1]
    exact grt_zero
  · unfold rwT
    rw [h98]
    rfl
  · unfold rwT
    rw [h8]
    rfl
theorem inc_ne {m : Int32} (h0 : 0 ≤ m.toInt) (h1 : m.toInt ≤ 20) : (m + 1).toInt = m.toInt + 1 := by
  rw [Int32.toInt_add]
  have e : (1 : Int32).toInt = 1 := rfl
  rw [e]
  exact bm32 (by unfold lo32; omega) (by unfold hi32; omega)
theorem pl_far {what n : Int32} {w w1 w2 : mW} {r1 r2 : Option Value} (hb : 0 ≤ (w.2.1 1 1).toInt ∧ (w.2.1 1 1).toInt ≤ 20) (hR : w.2.1 1 1 = w.2.1 94 2) (hF : RLf w) (h1 : Qpl 1 1 3 mdPC what n w r1 w1 ∧ R8p w w1) (h2 : Qpl 94 2 96 mdPM what n w1 r2 w2 ∧ R102p w1 w2) : RLf w2 := by
  obtain ⟨h1, g1⟩ := h1
  obtain ⟨h2, g2⟩ := h2
  have hi := inc_ne hb.1 hb.2
  have k94 : w1.2.1 94 2 = w.2.1 1 1 := (Qpl_keep h1 94 2 rfl).trans hR.symm
  have ref : w1.2.1 = w.2.1 → w2.2.1 = w1.2.1 → RLf w2 := by
    intro f1 f2
    unfold RLf RLr
    rw [f2, f1]
    exact hF
  rcases h1.2.2 with ⟨n1, -, f1⟩ | ⟨-, n1, -, f1⟩ | ⟨n1, m1, -, c1, -, -, -⟩
  · rcases h2.2.2 with ⟨-, -, f2⟩ | ⟨-, -, -, f2⟩ | ⟨n2, -⟩
    · exact ref f1 f2
    · exact ref f1 f2
    · exact absurd n2 n1
  · rcases h2.2.2 with ⟨-, -, f2⟩ | ⟨-, -, -, f2⟩ | ⟨-, m2, -⟩
    · exact ref f1 f2
    · exact ref f1 f2
    · rw [k94] at m2
      omega
  · rcases h2.2.2 with ⟨n2, -, f2⟩ | ⟨-, m2, -⟩ | ⟨-, -, -, c2, -, -, -⟩
    · exact absurd n1 n2
    · rw [k94] at m2
      omega
    · rcases g1 with f1 | ⟨-, p1, p2, p3⟩
      · exfalso
        rw [f1] at c1
        rw [← c1] at hi
        omega
      · rcases g2 with f2 | ⟨-, g⟩
        · exfalso
          rw [f2, k94] at c2
          rw [← c2] at hi
          omega
        · have k5 : ∀ k, w2.2.1 5 k = w.2.1 5 k := fun k => (Qpl_keep h2 5 k rfl).trans (Qpl_keep h1 5 k rfl)
          have k98 : ∀ k, w2.2.1 98 k = w.2.1 98 k := fun k => (Qpl_keep h2 98 k rfl).trans (Qpl_keep h1 98 k rfl)
          have k8 : ∀ k, w2.2.1 8 k = w1.2.1 8 k := fun k => Qpl_keep h2 8 k rfl
          have e98 := rwT_keep k98
          have e8 := rwT_keep k8
          have k1 : w2.2.1 1 1 = w.2.1 1 1 + 1 := (Qpl_keep h2 1 1 rfl).trans c1
          have kn : (w2.2.1 1 1).toInt.toNat = (w.2.1 1 1).toInt.toNat + 1 := by
            rw [k1, hi]
            omega
          have km : (w2.2.1 94 2).toInt.toNat = (w.2.1 1 1).toInt.toNat + 1 := by
            rw [c2, k94, hi]
            omega
          obtain ⟨q1, q2, q3, q4, q5⟩ := hF
          refine ⟨RLr_keep k5 k98 q1, ?_, ?_, ?_, ?_⟩
          · rw [kn, e98, e8]
            exact grt_new (by decide) q2 (fun _ _ _ _ => rfl) (fun a ha => ⟨q4 _ a (by omega) (by omega) (Or.inl (Nat.le_refl _)), q4 a _ (by omega) (by omega) (Or.inr (Nat.le_refl _))⟩) (by rw [p3 _ (by omega)]; exact q5 _ (by omega)) p1 p2
          · rw [km] at g
            rw [kn]
            exact g
          · intro a b ha hb hz
            rw [e98]
            exact q4 a b ha hb (by omega)
          · intro a ha
            rw [e8, p3 a ha]
            exact q5 a ha
theorem newd_rng {x d : Int32} (hx : 0 ≤ x.toInt) (hd : 1 ≤ d.toInt) : 1 ≤ (newd x d).toInt ∧ ((¬ x.toInt = 0 → (newd x d).toInt ≤ x.toInt)) ∧ ((newd x d).toInt = d.toInt ∨ (¬ x.toInt = 0 ∧ (newd x d).toInt = x.toInt)) ∧ ((x.toInt = 0 ∨ d.toInt < x.toInt) → (newd x d).toInt = d.toInt) := by
  unfold newd
  split
  · omega
  · omega
theorem rail_far {a b dd e : Int32} {w w1 w2 : mW} {r1 r2 : Option Value} (hb : 0 ≤ (w.2.1 1 1).toInt ∧ (w.2.1 1 1).toInt ≤ 20) (h98 : ∀ k, 0 ≤ (w.2.1 98 k).toInt ∧ (w.2.1 98 k).toInt ≤ 9) (hR : w.2.1 1 1 = w.2.1 94 2) (hF : RLf w) (h1 : Qrail 5 (okR (w.2.1 1 1).toInt a b dd e) (spI a b).toNat (spI a b).toNat dd mdRC w r1 w1 ∧ (okR (w.2.1 1 1).toInt a b dd e → R8r a b dd w w1)) (h2 : Qrail 98 (okR (w.2.1 1 1).toInt a b dd e) (20 * a.toInt + b.toInt).toNat (20 * b.toInt + a.toInt).toNat dd mdRM w1 r2 w2 ∧ (okR (w.2.1 1 1).toInt a b dd e → Grt (w2.2.1 94 2).toInt.toNat 100000 (rwT w2.2.1 98) (rwT w2.2.1 102))) : r1 = r2 ∧ RLf w2 := by
  have hl := rail_like hb.2 hF.1 h1.1 h2.1
  refine ⟨hl.1, hl.2, ?_⟩
  obtain ⟨q1, q2, q3, q4, q5⟩ := hF
  have k1 : w2.2.1 1 1 = w.2.1 1 1 := (Qrail_keep h2.1 1 1 rfl).trans (Qrail_keep h1.1 1 1 rfl)
  have k94 : w2.2.1 94 2 = w.2.1 1 1 := ((Qrail_keep h2.1 94 2 rfl).trans (Qrail_keep h1.1 94 2 rfl)).trans hR.symm
  have k8 : ∀ k, w2.2.1 8 k = w1.2.1 8 k := fun k => Qrail_keep h2.1 8 k rfl
  have kr : ∀ k, w1.2.1 98 k = w.2.1 98 k := fun k => Qrail_keep h1.1 98 k rfl
  have e8 := rwT_keep k8
  by_cases ok : okR (w.2.1 1 1).toInt a b dd e
  · have gM := h2.2 ok
    have g8 := h1.2 ok
    have ok' := ok
    obtain ⟨oa, ob, onn, od, -⟩ := ok'
    have hu : a.toInt.toNat < (w.2.1 1 1).toInt.toNat := by omega
    have hv : b.toInt.toNat < (w.2.1 1 1).toInt.toNat := by omega
    have ex : (20 * a.toInt + b.toInt).toNat = 20 * a.toInt.toNat + b.toInt.toNat := by omega
    have ey : (20 * b.toInt + a.toInt).toNat = 20 * b.toInt.toNat + a.toInt.toNat := by omega
    rcases h2.1.2.2 with ⟨n2, -⟩ | ⟨-, -, f2, s2, i2, -⟩
    · exact absurd ok n2
    · rw [ex, kr] at f2 s2
      rw [ey] at s2
      rw [ex, ey] at i2
      have hx := h98 (20 * a.toInt.toNat + b.toInt.toNat)
      have hnd := newd_rng (x := w.2.1 98 (20 * a.toInt.toNat + b.toInt.toNat)) (d := dd) hx.1 od.1
      have hrr : ∀ x y : Nat, x < 20 → y < 20 → rwT w2.2.1 98 x y = railU a.toInt.toNat b.toInt.toNat (newd (w.2.1 98 (20 * a.toInt.toNat + b.toInt.toNat)) dd).toInt (rwT w.2.1 98) x y := by
        intro x y hx hy
        unfold railU
        by_cases c1 : x = a.toInt.toNat ∧ y = b.toInt.toNat
        · rw [if_pos (Or.inl c1), c1.1, c1.2]
          unfold rwT
          rw [f2]
        · by_cases c2 : x = b.toInt.toNat ∧ y = a.toInt.toNat
          · rw [if_pos (Or.inr c2), c2.1, c2.2]
            unfold rwT
            rw [s2]
          · rw [if_neg (fun q => by rcases q with q | q; exact c1 q; exact c2 q)]
            unfold rwT
            rw [i2 _ (fun z => c1 (ix_inj hy (by omega) z)) (fun z => c2 (ix_inj hy (by omega) z)), kr]
      have ruv : rwT w.2.1 98 a.toInt.toNat b.toInt.toNat = (w.2.1 98 (20 * a.toInt.toNat + b.toInt.toNat)).toInt := rfl
      have rvu : rwT w.2.1 98 b.toInt.toNat a.toInt.toNat = (w.2.1 98 (20 * a.toInt.toNat + b.toInt.toNat)).toInt := by
        rw [← ruv]
        exact rl_sym q1 (by omega) (by omega)
      have syW : rwT w.2.1 8 a.toInt.toNat b.toInt.toNat = rwT w.2.1 8 b.toInt.toNat a.toInt.toNat := grt_sym (fun x y hx hy => rl_sym q1 (by omega) (by omega)) q2 hu hv
      have w3 := q2.1.2.2.1 a.toInt.toNat b.toInt.toNat hu hv
      rw [ruv] at w3
      rw [k1]
      have gn : Grt (w.2.1 1 1).toInt.toNat 1000000 (rwT w2.2.1 98) (rwT w2.2.1 8) := by
        rcases g8 with ⟨c, s⟩ | ⟨c, s, -⟩
        · refine grt_congr (fun x y hx hy => hrr x y (by omega) (by omega)) (fun x y hx hy => by rw [e8]; unfold rwT; rw [s]) (grt_same q2 hu hv hnd.1 (fun z => ?_) (fun z => ?_) ?_ ?_)
          · rw [ruv] at z ⊢
            exact hnd.2.1 z
          · rw [rvu] at z ⊢
            exact hnd.2.1 z
          · rcases hnd.2.2.1 with z | z
            · omega
            · have := w3 z.1
              omega
          · rw [← syW]
            rcases hnd.2.2.1 with z | z
            · omega
            · have := w3 z.1
              omega
        · have nd : (newd (w.2.1 98 (20 * a.toInt.toNat + b.toInt.toNat)) dd).toInt = dd.toInt := by
            refine hnd.2.2.2 ?_
            by_cases z : (w.2.1 98 (20 * a.toInt.toNat + b.toInt.toNat)).toInt = 0
            · exact Or.inl z
            · have := w3 z
              omega
          rw [nd] at hrr
          refine grt_congr (fun x y hx hy => hrr x y (by omega) (by omega)) (fun x y hx hy => by rw [e8]) (grt_rail (W' := rwT w1.2.1 8) q2 hu hv od.1 (fun z => ?_) (fun z => ?_) (fun x y hx hy => by rw [s x y hx hy]; exact shF_ok))
          · rw [ruv] at z ⊢
            have := w3 z
            omega
          · rw [rvu] at z ⊢
            have := w3 z
            omega
      refine ⟨gn, ?_, fun x y hx hy hz => ?_, fun x hx => ?_⟩
      · rw [k94] at gM
        exact gM
      · rw [hrr x y hx hy]
        unfold railU
        rw [if_neg (by omega)]
        exact q4 x y hx hy hz
      · rcases g8 with ⟨c, s⟩ | ⟨c, s, t⟩
        · rw [e8]
          have e1 := rwT_keep s
          rw [e1]
          exact q5 x hx
        · by_cases z : x < (w.2.1 1 1).toInt.toNat
          · exact gn.1.1 x z
          · rw [e8, t x x hx hx (fun q => z q.1)]
            exact q5 x hx
  · have f1 : w1.2.1 = w.2.1 := by
      rcases h1.1.2.2 with ⟨-, -, f⟩ | ⟨o, -⟩
      · exact f
      · exact absurd o ok
    have f2 : w2.2.1 = w1.2.1 := by
      rcases h2.1.2.2 with ⟨-, -, f⟩ | ⟨o, -⟩
      · exact f
      · exact absurd o ok
    rw [f2, f1]
    exact ⟨q2, q3, q4, q5⟩
theorem far_like {a b : Int32} {w w1 w2 : mW} {r1 r2 : Option Value} (hb : 0 ≤ (w.2.1 1 1).toInt ∧ (w.2.1 1 1).toInt ≤ 20) (h98 : ∀ k, 0 ≤ (w.2.1 98 k).toInt ∧ (w.2.1 98 k).toInt ≤ 9) (hR : w.2.1 1 1 = w.2.1 94 2) (hF : RLf w) (h1 : Qfar (w.2.1 1 1).toInt 1000000 8 a b w r1 w1) (h2 : Qfar (w1.2.1 94 2).toInt 100000 102 a b w1 r2 w2) : r1 = r2 := by
  obtain ⟨e1, h1⟩ := h1
  rw [e1, ← hR] at h2
  obtain ⟨-, h2⟩ := h2
  obtain ⟨q1, q2, q3, q4, q5⟩ := hF
  by_cases ok : okF (w.2.1 1 1).toInt a b
  · have ok' := ok
    obtain ⟨oa, ob⟩ := ok'
    have hA : a.toInt.toNat < (w.2.1 1 1).toInt.toNat := by omega
    have hB : b.toInt.toNat < (w.2.1 1 1).toInt.toNat := by omega
    have S := grt_short (by omega) (by decide) (fun x y hx hy => rl_sym q1 (by omega) (by omega)) (fun x y hx hy => (h98 (20 * x + y)).2) q2 hA hB
    have G := grt_cap (by decide) (by decide) q3 q2 hA hB
    rcases h1 with ⟨n1, -⟩ | ⟨-, c1, p1⟩ | ⟨-, c1, x, p1, ex⟩
    · exact absurd ok n1
    · rcases h2 with ⟨n2, -⟩ | ⟨-, c2, p2⟩ | ⟨-, c2, y, p2, ey⟩
      · exact absurd ok n2
      · rw [p1, p2]
      · exfalso
        split at G <;> omega
    · rcases h2 with ⟨n2, -⟩ | ⟨-, c2, p2⟩ | ⟨-, c2, y, p2, ey⟩
      · exact absurd ok n2
      · exfalso
        split at G <;> omega
      · have exy : x = y := Int32.toInt_inj.mp (by split at G <;> omega)
        rw [p1, p2, exy]
  · rcases h1 with ⟨-, p1⟩ | ⟨n1, -⟩ | ⟨n1, -⟩
    · rcases h2 with ⟨-, p2⟩ | ⟨n2, -⟩ | ⟨n2, -⟩
      · rw [p1, p2]
      · exact absurd n2 ok
      · exact absurd n2 ok
    · exact absurd n1 ok
    · exact absurd n1 ok
