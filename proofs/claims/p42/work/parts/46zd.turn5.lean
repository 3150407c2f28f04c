/-! ===== ship, turn with the rows that voyages needs (wip/genturn5.py) ===== -/
def R5s (qn kn rb rp : Nat) (n e : Int32) (w w' : mW) : Prop := (w'.2.1 qn kn = w.2.1 qn kn ∧ (∀ k, w'.2.1 rb k = w.2.1 rb k) ∧ ∀ k, w'.2.1 rp k = w.2.1 rp k) ∨ (w'.2.1 qn kn = w.2.1 qn kn + 1 ∧ (w'.2.1 rb (w.2.1 qn kn).toNatClampNeg = n ∧ ∀ k, ¬ k = (w.2.1 qn kn).toNatClampNeg → w'.2.1 rb k = w.2.1 rb k) ∧ (w'.2.1 rp (w.2.1 qn kn).toNatClampNeg = e ∧ ∀ k, ¬ k = (w.2.1 qn kn).toNatClampNeg → w'.2.1 rp k = w.2.1 rp k))
def R5p (qn kn rw : Nat) (u : Int32) (w w' : mW) : Prop := (w'.2.1 qn kn = w.2.1 qn kn ∧ ∀ k, w'.2.1 rw k = w.2.1 rw k) ∨ (w'.2.1 qn kn = w.2.1 qn kn + 1 ∧ (w'.2.1 rw (w.2.1 qn kn).toNatClampNeg = u ∧ ∀ k, ¬ k = (w.2.1 qn kn).toNatClampNeg → w'.2.1 rw k = w.2.1 rw k))
theorem tc_addC5 {d : Nat} {sh : List mE} {I : Nat → Nat → Int32} {L : Nat → Nat → Int64} {R : Nat → Nat → Option Nat} {p n e : Int32} (hw : wOK (mkT vV []) (wE sh R) (sh, I, L, R)) (hf : fresh (sh, I, L, R)) : Tc 141 (d + 2) 0 0 [.ref 53, .int p, .int n, .int e] (sh, I, L, R) (fun r w' => Qapp 53 3 16 (okSC I p n e) 0 mdSC (sh, I, L, R) r w' ∧ R5s 53 3 55 56 n e (sh, I, L, R) w') := by
  have c1 : sh[1]? = some (.inr 1) := hw.1 1 _ rfl
  have c53 : sh[53]? = some (.inr 7) := hw.1 53 _ rfl
  have c54 : sh[54]? = some (.inl (.int, 16)) := hw.1 54 _ rfl
  have c55 : sh[55]? = some (.inl (.int, 16)) := hw.1 55 _ rfl
  have c56 : sh[56]? = some (.inl (.int, 16)) := hw.1 56 _ rfl
  have c58 : sh[58]? = some (.inl (.int, 16)) := hw.1 58 _ rfl
  have r53_0 : R 53 0 = some 1 := hw.2.1 53 0 _ rfl
  have r53_4 : R 53 4 = some 54 := hw.2.1 53 4 _ rfl
  have r53_5 : R 53 5 = some 55 := hw.2.1 53 5 _ rfl
  have r53_6 : R 53 6 = some 56 := hw.2.1 53 6 _ rfl
  have r53_8 : R 53 8 = some 58 := hw.2.1 53 8 _ rfl
  have zm3 : ((-3) : Int32).toInt = (-3) := rfl
  have zm1 : ((-1) : Int32).toInt = (-1) := rfl
  have z1 : (1 : Int32).toInt = 1 := rfl
  have z2 : (2 : Int32).toInt = 2 := rfl
  have z16 : (16 : Int32).toInt = 16 := rfl
  have z30 : (30 : Int32).toInt = 30 := rfl
  have z60 : (60 : Int32).toInt = 60 := rfl
  have hm : 0 ≤ (I 1 1).toInt ∧ (I 1 1).toInt ≤ 20 := hw.2.2.1 1 1
  have hmc : 0 ≤ (I 53 3).toInt ∧ (I 53 3).toInt ≤ 16 := hw.2.2.1 53 3
  obtain ⟨m, em⟩ : ∃ m, I 53 3 = m := ⟨_, rfl⟩
  rw [em] at hmc
  refine Tc.of mr_141 rfl (show 4 ≤ mr_141.2.2.2.1 by decide) ?_
  refine XW.fam (S' := (1, [(0, .ref 53), (1, .int p), (2, .int n), (3, .int e)], [.ref 53], (sh, I, L, R))) (M := mr_141) rfl (show mcode 141 0 = some (0, .aload_n 0, 1, 0, 0, 0, _) from rfl) (Or.inl ⟨.ref 53, rfl, rfl⟩) ?_
  refine XW.fam (S' := (4, [(0, .ref 53), (1, .int p), (2, .int n), (3, .int e)], [.ref 1], (sh, I, L, R))) (M := mr_141) rfl (show mcode 141 1 = some (1, .getfield 49, 3, 7, 0, 0, _) from rfl) (Or.inr (Or.inr (Or.inr (Or.inr (Or.inr (Or.inr (Or.inr (Or.inl ⟨_, _, rfl, fl_ld c53 r53_0 (by decide) (by decide), rfl⟩)))))))) ?_
  refine XW.fam (S' := (5, [(0, .ref 53), (1, .int p), (2, .int n), (3, .int e)], [.int p, .ref 1], (sh, I, L, R))) (M := mr_141) rfl (show mcode 141 4 = some (4, .iload_n 1, 1, 0, 0, 0, _) from rfl) (Or.inl ⟨.int p, rfl, rfl⟩) ?_
  refine XW.call (d' := d + 1) (mc' := 0) (ms' := 0) (av := [.ref 1, .int p]) (rest := []) (M := mr_141) (Ma := mr_128) rfl (show mcode 141 5 = some (5, .invokevirtual 69, 3, 128, 0, 0, _) from rfl) rfl (by decide) (by decide) ⟨rfl, 1, _, rfl, c1⟩ rfl rfl (show 0 ≤ 8 by decide) (tc_isPoC (d := d) hw) (by omega) (Nat.zero_le _) (Nat.zero_le _) (fun rQ1 wQ1 Q1 => ?_)
  obtain ⟨hQ1, rfl⟩ := Q1
  rcases hQ1 with ⟨rfl, gQ1⟩ | ⟨rfl, gQ1⟩
  · skip
    refine XW.fam (S' := (31, [(0, .ref 53), (1, .int p), (2, .int n), (3, .int e)], [], (sh, I, L, R))) (M := mr_141) rfl (show mcode 141 8 = some (8, .ifCond .eq 23, 3, 31, 0, 0, _) from rfl) (Or.inr (Or.inl ⟨31, [], rfl, rfl⟩)) ?_
    refine XW.fam (S' := (32, [(0, .ref 53), (1, .int p), (2, .int n), (3, .int e)], [.int (-1)], (sh, I, L, R))) (M := mr_141) rfl (show mcode 141 31 = some (31, .iconst (-1), 1, 0, 0, 0, _) from rfl) (Or.inl ⟨.int (-1), rfl, rfl⟩) ?_
    refine XW.ret (r := some (.int (-1))) ⟨⟨.int, rfl, rfl⟩, by decide +kernel⟩ ?_
    refine ⟨?_, Or.inl ⟨rfl, fun _ => rfl, fun _ => rfl⟩⟩
    exact ⟨hf, ⟨sh, R, hw⟩, Or.inl ⟨fun q => by have q1 : okSC I p n e := q; unfold okSC at q1; omega, rfl, rfl⟩⟩
  · skip
    refine XW.fam (S' := (11, [(0, .ref 53), (1, .int p), (2, .int n), (3, .int e)], [], (sh, I, L, R))) (M := mr_141) rfl (show mcode 141 8 = some (8, .ifCond .eq 23, 3, 31, 0, 0, _) from rfl) (Or.inr (Or.inl ⟨11, [], rfl, rfl⟩)) ?_
    refine XW.fam (S' := (12, [(0, .ref 53), (1, .int p), (2, .int n), (3, .int e)], [.int n], (sh, I, L, R))) (M := mr_141) rfl (show mcode 141 11 = some (11, .iload_n 2, 1, 0, 0, 0, _) from rfl) (Or.inl ⟨.int n, rfl, rfl⟩) ?_
    refine XW.fam (S' := (13, [(0, .ref 53), (1, .int p), (2, .int n), (3, .int e)], [.int 1, .int n], (sh, I, L, R))) (M := mr_141) rfl (show mcode 141 12 = some (12, .iconst 1, 1, 0, 0, 0, _) from rfl) (Or.inl ⟨.int 1, rfl, rfl⟩) ?_
    refine XW.fam (S' := (15, [(0, .ref 53), (1, .int p), (2, .int n), (3, .int e)], [.int 60, .int 1, .int n], (sh, I, L, R))) (M := mr_141) rfl (show mcode 141 13 = some (13, .bipush 60, 2, 0, 0, 0, _) from rfl) (Or.inl ⟨.int 60, rfl, rfl⟩) ?_
    refine XW.call (d' := d) (mc' := 0) (ms' := 0) (av := [.int n, .int 1, .int 60]) (rest := []) (M := mr_141) (Ma := mr_15) rfl (show mcode 141 15 = some (15, .invokestatic 74, 3, 15, 1, 0, _) from rfl) rfl (by decide) (by decide) rfl rfl rfl (show 0 ≤ 8 by decide) (tc_inC) (by omega) (Nat.zero_le _) (Nat.zero_le _) (fun rQ2 wQ2 Q2 => ?_)
    obtain ⟨hQ2, rfl⟩ := Q2
    rcases hQ2 with ⟨rfl, gQ2⟩ | ⟨rfl, gQ2⟩
    · skip
      refine XW.fam (S' := (31, [(0, .ref 53), (1, .int p), (2, .int n), (3, .int e)], [], (sh, I, L, R))) (M := mr_141) rfl (show mcode 141 18 = some (18, .ifCond .eq 13, 3, 31, 0, 0, _) from rfl) (Or.inr (Or.inl ⟨31, [], rfl, rfl⟩)) ?_
      refine XW.fam (S' := (32, [(0, .ref 53), (1, .int p), (2, .int n), (3, .int e)], [.int (-1)], (sh, I, L, R))) (M := mr_141) rfl (show mcode 141 31 = some (31, .iconst (-1), 1, 0, 0, 0, _) from rfl) (Or.inl ⟨.int (-1), rfl, rfl⟩) ?_
      refine XW.ret (r := some (.int (-1))) ⟨⟨.int, rfl, rfl⟩, by decide +kernel⟩ ?_
      refine ⟨?_, Or.inl ⟨rfl, fun _ => rfl, fun _ => rfl⟩⟩
      exact ⟨hf, ⟨sh, R, hw⟩, Or.inl ⟨fun q => by have q1 : okSC I p n e := q; unfold okSC at q1; omega, rfl, rfl⟩⟩
    · skip
      refine XW.fam (S' := (21, [(0, .ref 53), (1, .int p), (2, .int n), (3, .int e)], [], (sh, I, L, R))) (M := mr_141) rfl (show mcode 141 18 = some (18, .ifCond .eq 13, 3, 31, 0, 0, _) from rfl) (Or.inr (Or.inl ⟨21, [], rfl, rfl⟩)) ?_
      refine XW.fam (S' := (22, [(0, .ref 53), (1, .int p), (2, .int n), (3, .int e)], [.int e], (sh, I, L, R))) (M := mr_141) rfl (show mcode 141 21 = some (21, .iload_n 3, 1, 0, 0, 0, _) from rfl) (Or.inl ⟨.int e, rfl, rfl⟩) ?_
      refine XW.fam (S' := (23, [(0, .ref 53), (1, .int p), (2, .int n), (3, .int e)], [.int 2, .int e], (sh, I, L, R))) (M := mr_141) rfl (show mcode 141 22 = some (22, .iconst 2, 1, 0, 0, 0, _) from rfl) (Or.inl ⟨.int 2, rfl, rfl⟩) ?_
      refine XW.fam (S' := (25, [(0, .ref 53), (1, .int p), (2, .int n), (3, .int e)], [.int 30, .int 2, .int e], (sh, I, L, R))) (M := mr_141) rfl (show mcode 141 23 = some (23, .bipush 30, 2, 0, 0, 0, _) from rfl) (Or.inl ⟨.int 30, rfl, rfl⟩) ?_
      refine XW.call (d' := d) (mc' := 0) (ms' := 0) (av := [.int e, .int 2, .int 30]) (rest := []) (M := mr_141) (Ma := mr_15) rfl (show mcode 141 25 = some (25, .invokestatic 74, 3, 15, 1, 0, _) from rfl) rfl (by decide) (by decide) rfl rfl rfl (show 0 ≤ 8 by decide) (tc_inC) (by omega) (Nat.zero_le _) (Nat.zero_le _) (fun rQ3 wQ3 Q3 => ?_)
      obtain ⟨hQ3, rfl⟩ := Q3
      rcases hQ3 with ⟨rfl, gQ3⟩ | ⟨rfl, gQ3⟩
      · skip
        refine XW.fam (S' := (31, [(0, .ref 53), (1, .int p), (2, .int n), (3, .int e)], [], (sh, I, L, R))) (M := mr_141) rfl (show mcode 141 28 = some (28, .ifCond .ne 5, 3, 33, 0, 0, _) from rfl) (Or.inr (Or.inl ⟨31, [], rfl, rfl⟩)) ?_
        refine XW.fam (S' := (32, [(0, .ref 53), (1, .int p), (2, .int n), (3, .int e)], [.int (-1)], (sh, I, L, R))) (M := mr_141) rfl (show mcode 141 31 = some (31, .iconst (-1), 1, 0, 0, 0, _) from rfl) (Or.inl ⟨.int (-1), rfl, rfl⟩) ?_
        refine XW.ret (r := some (.int (-1))) ⟨⟨.int, rfl, rfl⟩, by decide +kernel⟩ ?_
        refine ⟨?_, Or.inl ⟨rfl, fun _ => rfl, fun _ => rfl⟩⟩
        exact ⟨hf, ⟨sh, R, hw⟩, Or.inl ⟨fun q => by have q1 : okSC I p n e := q; unfold okSC at q1; omega, rfl, rfl⟩⟩
      · skip
        refine XW.fam (S' := (33, [(0, .ref 53), (1, .int p), (2, .int n), (3, .int e)], [], (sh, I, L, R))) (M := mr_141) rfl (show mcode 141 28 = some (28, .ifCond .ne 5, 3, 33, 0, 0, _) from rfl) (Or.inr (Or.inl ⟨33, [], rfl, rfl⟩)) ?_
        refine XW.fam (S' := (34, [(0, .ref 53), (1, .int p), (2, .int n), (3, .int e)], [.ref 53], (sh, I, L, R))) (M := mr_141) rfl (show mcode 141 33 = some (33, .aload_n 0, 1, 0, 0, 0, _) from rfl) (Or.inl ⟨.ref 53, rfl, rfl⟩) ?_
        refine XW.fam (S' := (37, [(0, .ref 53), (1, .int p), (2, .int n), (3, .int e)], [.int (I 53 3)], (sh, I, L, R))) (M := mr_141) rfl (show mcode 141 34 = some (34, .getfield 61, 3, 7, 3, 0, _) from rfl) (Or.inr (Or.inr (Or.inr (Or.inr (Or.inr (Or.inr (Or.inr (Or.inl ⟨_, _, rfl, fl_ldI c53 (by decide) (by decide), rfl⟩)))))))) ?_
        rw [em]
        refine XW.fam (S' := (39, [(0, .ref 53), (1, .int p), (2, .int n), (3, .int e)], [.int 16, .int m], (sh, I, L, R))) (M := mr_141) rfl (show mcode 141 37 = some (37, .bipush 16, 2, 0, 0, 0, _) from rfl) (Or.inl ⟨.int 16, rfl, rfl⟩) ?_
        cases k4 : bcmp .lt m 16 with
        | true =>
          have gk4 : (m).toInt < 16 := icT (c := .lt) (a := (m).toInt) (b := 16) rfl (by decide) k4
          refine XW.fam (S' := (45, [(0, .ref 53), (1, .int p), (2, .int n), (3, .int e)], [], (sh, I, L, R))) (M := mr_141) rfl (show mcode 141 39 = some (39, .if_icmp .lt 6, 3, 45, 0, 0, _) from rfl) (Or.inr (Or.inl ⟨45, [], by simp [brn, k4], rfl⟩)) ?_
          refine XW.fam (S' := (46, [(0, .ref 53), (1, .int p), (2, .int n), (3, .int e)], [.ref 53], (sh, I, L, R))) (M := mr_141) rfl (show mcode 141 45 = some (45, .aload_n 0, 1, 0, 0, 0, _) from rfl) (Or.inl ⟨.ref 53, rfl, rfl⟩) ?_
          refine XW.fam (S' := (49, [(0, .ref 53), (1, .int p), (2, .int n), (3, .int e)], [.ref 54], (sh, I, L, R))) (M := mr_141) rfl (show mcode 141 46 = some (46, .getfield 9, 3, 7, 4, 0, _) from rfl) (Or.inr (Or.inr (Or.inr (Or.inr (Or.inr (Or.inr (Or.inr (Or.inl ⟨_, _, rfl, fl_ld c53 r53_4 (by decide) (by decide), rfl⟩)))))))) ?_
          refine XW.fam (S' := (50, [(0, .ref 53), (1, .int p), (2, .int n), (3, .int e)], [.ref 53, .ref 54], (sh, I, L, R))) (M := mr_141) rfl (show mcode 141 49 = some (49, .aload_n 0, 1, 0, 0, 0, _) from rfl) (Or.inl ⟨.ref 53, rfl, rfl⟩) ?_
          refine XW.fam (S' := (53, [(0, .ref 53), (1, .int p), (2, .int n), (3, .int e)], [.int (I 53 3), .ref 54], (sh, I, L, R))) (M := mr_141) rfl (show mcode 141 50 = some (50, .getfield 61, 3, 7, 3, 0, _) from rfl) (Or.inr (Or.inr (Or.inr (Or.inr (Or.inr (Or.inr (Or.inr (Or.inl ⟨_, _, rfl, fl_ldI c53 (by decide) (by decide), rfl⟩)))))))) ?_
          rw [em]
          refine XW.fam (S' := (54, [(0, .ref 53), (1, .int p), (2, .int n), (3, .int e)], [.int p, .int m, .ref 54], (sh, I, L, R))) (M := mr_141) rfl (show mcode 141 53 = some (53, .iload_n 1, 1, 0, 0, 0, _) from rfl) (Or.inl ⟨.int p, rfl, rfl⟩) ?_
          have hin5 : inR m 16 = true := inR_of (by omega) (by omega)
          obtain ⟨I6, eI6⟩ : ∃ X, X = up2 I 54 (m).toNatClampNeg p := ⟨_, rfl⟩
          refine XW.fam (S' := (55, [(0, .ref 53), (1, .int p), (2, .int n), (3, .int e)], [], (sh, I6, L, R))) (M := mr_141) rfl (show mcode 141 54 = some (54, .iastore, 1, 0, 0, 0, _) from rfl) (Or.inr (Or.inr (Or.inr (Or.inl ⟨_, _, by rw [eI6]; exact sta_i c54 hin5, rfl⟩)))) ?_
          have hwI6 : wOK (mkT vV []) (wE sh R) (sh, I6, L, R) := by rw [eI6]; exact wOK_u2 (q := 54) (k := (m).toNatClampNeg) (x := p) wE_put hw rfl (by show (0 : Int) ≤ _; omega) (by show _ ≤ (19 : Int); omega)
          have hfI6 : fresh (sh, I6, L, R) := by rw [eI6]; exact fresh_I hf c54
          have v7 : I6 53 3 = m := by rw [eI6, up2_ne (fun e => by cases e.1)]; exact em
          have v8 : I6 54 (m).toNatClampNeg = p := by rw [eI6]; exact up2_eq
          refine XW.fam (S' := (56, [(0, .ref 53), (1, .int p), (2, .int n), (3, .int e)], [.ref 53], (sh, I6, L, R))) (M := mr_141) rfl (show mcode 141 55 = some (55, .aload_n 0, 1, 0, 0, 0, _) from rfl) (Or.inl ⟨.ref 53, rfl, rfl⟩) ?_
          refine XW.fam (S' := (59, [(0, .ref 53), (1, .int p), (2, .int n), (3, .int e)], [.ref 55], (sh, I6, L, R))) (M := mr_141) rfl (show mcode 141 56 = some (56, .getfield 15, 3, 7, 5, 0, _) from rfl) (Or.inr (Or.inr (Or.inr (Or.inr (Or.inr (Or.inr (Or.inr (Or.inl ⟨_, _, rfl, fl_ld c53 r53_5 (by decide) (by decide), rfl⟩)))))))) ?_
          refine XW.fam (S' := (60, [(0, .ref 53), (1, .int p), (2, .int n), (3, .int e)], [.ref 53, .ref 55], (sh, I6, L, R))) (M := mr_141) rfl (show mcode 141 59 = some (59, .aload_n 0, 1, 0, 0, 0, _) from rfl) (Or.inl ⟨.ref 53, rfl, rfl⟩) ?_
          refine XW.fam (S' := (63, [(0, .ref 53), (1, .int p), (2, .int n), (3, .int e)], [.int (I6 53 3), .ref 55], (sh, I6, L, R))) (M := mr_141) rfl (show mcode 141 60 = some (60, .getfield 61, 3, 7, 3, 0, _) from rfl) (Or.inr (Or.inr (Or.inr (Or.inr (Or.inr (Or.inr (Or.inr (Or.inl ⟨_, _, rfl, fl_ldI c53 (by decide) (by decide), rfl⟩)))))))) ?_
          rw [v7]
          refine XW.fam (S' := (64, [(0, .ref 53), (1, .int p), (2, .int n), (3, .int e)], [.int n, .int m, .ref 55], (sh, I6, L, R))) (M := mr_141) rfl (show mcode 141 63 = some (63, .iload_n 2, 1, 0, 0, 0, _) from rfl) (Or.inl ⟨.int n, rfl, rfl⟩) ?_
          have hin9 : inR m 16 = true := inR_of (by omega) (by omega)
          obtain ⟨I10, eI10⟩ : ∃ X, X = up2 I6 55 (m).toNatClampNeg n := ⟨_, rfl⟩
          refine XW.fam (S' := (65, [(0, .ref 53), (1, .int p), (2, .int n), (3, .int e)], [], (sh, I10, L, R))) (M := mr_141) rfl (show mcode 141 64 = some (64, .iastore, 1, 0, 0, 0, _) from rfl) (Or.inr (Or.inr (Or.inr (Or.inl ⟨_, _, by rw [eI10]; exact sta_i c55 hin9, rfl⟩)))) ?_
          have hwI10 : wOK (mkT vV []) (wE sh R) (sh, I10, L, R) := by rw [eI10]; exact wOK_u2 (q := 55) (k := (m).toNatClampNeg) (x := n) wE_put hwI6 rfl (by show (0 : Int) ≤ _; omega) (by show _ ≤ (60 : Int); omega)
          have hfI10 : fresh (sh, I10, L, R) := by rw [eI10]; exact fresh_I hfI6 c55
          have v11 : I10 53 3 = m := by rw [eI10, up2_ne (fun e => by cases e.1)]; exact v7
          have v12 : I10 54 (m).toNatClampNeg = p := by rw [eI10, up2_ne (fun e => by cases e.1)]; exact v8
          have v13 : I10 55 (m).toNatClampNeg = n := by rw [eI10]; exact up2_eq
          refine XW.fam (S' := (66, [(0, .ref 53), (1, .int p), (2, .int n), (3, .int e)], [.ref 53], (sh, I10, L, R))) (M := mr_141) rfl (show mcode 141 65 = some (65, .aload_n 0, 1, 0, 0, 0, _) from rfl) (Or.inl ⟨.ref 53, rfl, rfl⟩) ?_
          refine XW.fam (S' := (69, [(0, .ref 53), (1, .int p), (2, .int n), (3, .int e)], [.ref 56], (sh, I10, L, R))) (M := mr_141) rfl (show mcode 141 66 = some (66, .getfield 18, 3, 7, 6, 0, _) from rfl) (Or.inr (Or.inr (Or.inr (Or.inr (Or.inr (Or.inr (Or.inr (Or.inl ⟨_, _, rfl, fl_ld c53 r53_6 (by decide) (by decide), rfl⟩)))))))) ?_
          refine XW.fam (S' := (70, [(0, .ref 53), (1, .int p), (2, .int n), (3, .int e)], [.ref 53, .ref 56], (sh, I10, L, R))) (M := mr_141) rfl (show mcode 141 69 = some (69, .aload_n 0, 1, 0, 0, 0, _) from rfl) (Or.inl ⟨.ref 53, rfl, rfl⟩) ?_
          refine XW.fam (S' := (73, [(0, .ref 53), (1, .int p), (2, .int n), (3, .int e)], [.int (I10 53 3), .ref 56], (sh, I10, L, R))) (M := mr_141) rfl (show mcode 141 70 = some (70, .getfield 61, 3, 7, 3, 0, _) from rfl) (Or.inr (Or.inr (Or.inr (Or.inr (Or.inr (Or.inr (Or.inr (Or.inl ⟨_, _, rfl, fl_ldI c53 (by decide) (by decide), rfl⟩)))))))) ?_
          rw [v11]
          refine XW.fam (S' := (74, [(0, .ref 53), (1, .int p), (2, .int n), (3, .int e)], [.int e, .int m, .ref 56], (sh, I10, L, R))) (M := mr_141) rfl (show mcode 141 73 = some (73, .iload_n 3, 1, 0, 0, 0, _) from rfl) (Or.inl ⟨.int e, rfl, rfl⟩) ?_
          have hin14 : inR m 16 = true := inR_of (by omega) (by omega)
          obtain ⟨I15, eI15⟩ : ∃ X, X = up2 I10 56 (m).toNatClampNeg e := ⟨_, rfl⟩
          refine XW.fam (S' := (75, [(0, .ref 53), (1, .int p), (2, .int n), (3, .int e)], [], (sh, I15, L, R))) (M := mr_141) rfl (show mcode 141 74 = some (74, .iastore, 1, 0, 0, 0, _) from rfl) (Or.inr (Or.inr (Or.inr (Or.inl ⟨_, _, by rw [eI15]; exact sta_i c56 hin14, rfl⟩)))) ?_
          have hwI15 : wOK (mkT vV []) (wE sh R) (sh, I15, L, R) := by rw [eI15]; exact wOK_u2 (q := 56) (k := (m).toNatClampNeg) (x := e) wE_put hwI10 rfl (by show (0 : Int) ≤ _; omega) (by show _ ≤ (30 : Int); omega)
          have hfI15 : fresh (sh, I15, L, R) := by rw [eI15]; exact fresh_I hfI10 c56
          have v16 : I15 53 3 = m := by rw [eI15, up2_ne (fun e => by cases e.1)]; exact v11
          have v17 : I15 54 (m).toNatClampNeg = p := by rw [eI15, up2_ne (fun e => by cases e.1)]; exact v12
          have v18 : I15 55 (m).toNatClampNeg = n := by rw [eI15, up2_ne (fun e => by cases e.1)]; exact v13
          have v19 : I15 56 (m).toNatClampNeg = e := by rw [eI15]; exact up2_eq
          refine XW.fam (S' := (76, [(0, .ref 53), (1, .int p), (2, .int n), (3, .int e)], [.ref 53], (sh, I15, L, R))) (M := mr_141) rfl (show mcode 141 75 = some (75, .aload_n 0, 1, 0, 0, 0, _) from rfl) (Or.inl ⟨.ref 53, rfl, rfl⟩) ?_
          refine XW.fam (S' := (79, [(0, .ref 53), (1, .int p), (2, .int n), (3, .int e)], [.ref 58], (sh, I15, L, R))) (M := mr_141) rfl (show mcode 141 76 = some (76, .getfield 24, 3, 7, 8, 0, _) from rfl) (Or.inr (Or.inr (Or.inr (Or.inr (Or.inr (Or.inr (Or.inr (Or.inl ⟨_, _, rfl, fl_ld c53 r53_8 (by decide) (by decide), rfl⟩)))))))) ?_
          refine XW.fam (S' := (80, [(0, .ref 53), (1, .int p), (2, .int n), (3, .int e)], [.ref 53, .ref 58], (sh, I15, L, R))) (M := mr_141) rfl (show mcode 141 79 = some (79, .aload_n 0, 1, 0, 0, 0, _) from rfl) (Or.inl ⟨.ref 53, rfl, rfl⟩) ?_
          refine XW.fam (S' := (83, [(0, .ref 53), (1, .int p), (2, .int n), (3, .int e)], [.int (I15 53 3), .ref 58], (sh, I15, L, R))) (M := mr_141) rfl (show mcode 141 80 = some (80, .getfield 61, 3, 7, 3, 0, _) from rfl) (Or.inr (Or.inr (Or.inr (Or.inr (Or.inr (Or.inr (Or.inr (Or.inl ⟨_, _, rfl, fl_ldI c53 (by decide) (by decide), rfl⟩)))))))) ?_
          rw [v16]
          refine XW.fam (S' := (84, [(0, .ref 53), (1, .int p), (2, .int n), (3, .int e)], [.int (-1), .int m, .ref 58], (sh, I15, L, R))) (M := mr_141) rfl (show mcode 141 83 = some (83, .iconst (-1), 1, 0, 0, 0, _) from rfl) (Or.inl ⟨.int (-1), rfl, rfl⟩) ?_
          have hin20 : inR m 16 = true := inR_of (by omega) (by omega)
          obtain ⟨I21, eI21⟩ : ∃ X, X = up2 I15 58 (m).toNatClampNeg (-1) := ⟨_, rfl⟩
          refine XW.fam (S' := (85, [(0, .ref 53), (1, .int p), (2, .int n), (3, .int e)], [], (sh, I21, L, R))) (M := mr_141) rfl (show mcode 141 84 = some (84, .iastore, 1, 0, 0, 0, _) from rfl) (Or.inr (Or.inr (Or.inr (Or.inl ⟨_, _, by rw [eI21]; exact sta_i c58 hin20, rfl⟩)))) ?_
          have hwI21 : wOK (mkT vV []) (wE sh R) (sh, I21, L, R) := by rw [eI21]; exact wOK_u2 (q := 58) (k := (m).toNatClampNeg) (x := (-1)) wE_put hwI15 rfl (by show ((-1) : Int) ≤ _; omega) (by show _ ≤ (730 : Int); omega)
          have hfI21 : fresh (sh, I21, L, R) := by rw [eI21]; exact fresh_I hfI15 c58
          have v22 : I21 53 3 = m := by rw [eI21, up2_ne (fun e => by cases e.1)]; exact v16
          have v23 : I21 54 (m).toNatClampNeg = p := by rw [eI21, up2_ne (fun e => by cases e.1)]; exact v17
          have v24 : I21 55 (m).toNatClampNeg = n := by rw [eI21, up2_ne (fun e => by cases e.1)]; exact v18
          have v25 : I21 56 (m).toNatClampNeg = e := by rw [eI21, up2_ne (fun e => by cases e.1)]; exact v19
          have v26 : I21 58 (m).toNatClampNeg = (-1) := by rw [eI21]; exact up2_eq
          refine XW.fam (S' := (86, [(0, .ref 53), (1, .int p), (2, .int n), (3, .int e)], [.ref 53], (sh, I21, L, R))) (M := mr_141) rfl (show mcode 141 85 = some (85, .aload_n 0, 1, 0, 0, 0, _) from rfl) (Or.inl ⟨.ref 53, rfl, rfl⟩) ?_
          refine XW.fam (S' := (87, [(0, .ref 53), (1, .int p), (2, .int n), (3, .int e)], [.ref 53, .ref 53], (sh, I21, L, R))) (M := mr_141) rfl (show mcode 141 86 = some (86, .dup, 1, 0, 0, 0, _) from rfl) (Or.inr (Or.inr (Or.inr (Or.inr (Or.inr (Or.inl ⟨_, rfl, rfl⟩)))))) ?_
          refine XW.fam (S' := (90, [(0, .ref 53), (1, .int p), (2, .int n), (3, .int e)], [.int (I21 53 3), .ref 53], (sh, I21, L, R))) (M := mr_141) rfl (show mcode 141 87 = some (87, .getfield 61, 3, 7, 3, 0, _) from rfl) (Or.inr (Or.inr (Or.inr (Or.inr (Or.inr (Or.inr (Or.inr (Or.inl ⟨_, _, rfl, fl_ldI c53 (by decide) (by decide), rfl⟩)))))))) ?_
          rw [v22]
          refine XW.fam (S' := (91, [(0, .ref 53), (1, .int p), (2, .int n), (3, .int e)], [.int 1, .int m, .ref 53], (sh, I21, L, R))) (M := mr_141) rfl (show mcode 141 90 = some (90, .iconst 1, 1, 0, 0, 0, _) from rfl) (Or.inl ⟨.int 1, rfl, rfl⟩) ?_
          refine XW.fam (S' := (92, [(0, .ref 53), (1, .int p), (2, .int n), (3, .int e)], [.int (m + 1), .ref 53], (sh, I21, L, R))) (M := mr_141) rfl (show mcode 141 91 = some (91, .iadd, 1, 0, 0, 0, _) from rfl) (Or.inr (Or.inr (Or.inr (Or.inr (Or.inr (Or.inl ⟨_, rfl, rfl⟩)))))) ?_
          obtain ⟨I27, eI27⟩ : ∃ X, X = up2 I21 53 3 (m + 1) := ⟨_, rfl⟩
          refine XW.fam (S' := (95, [(0, .ref 53), (1, .int p), (2, .int n), (3, .int e)], [], (sh, I27, L, R))) (M := mr_141) rfl (show mcode 141 92 = some (92, .putfield 61, 3, 7, 3, 0, _) from rfl) (Or.inr (Or.inr (Or.inr (Or.inr (Or.inr (Or.inr (Or.inr (Or.inr (Or.inl ⟨_, _, _, rfl, by rw [eI27]; exact stf_I c53 (by decide) (by decide) (by decide), rfl⟩))))))))) ?_
          have xi := inc32 (m := m) (by omega) (by omega)
          have hwI27 : wOK (mkT vV []) (wE sh R) (sh, I27, L, R) := by rw [eI27]; exact wOK_u2 (q := 53) (k := 3) (x := (m + 1)) wE_put hwI21 rfl (by show (0 : Int) ≤ _; omega) (by show _ ≤ (16 : Int); omega)
          have hfI27 : fresh (sh, I27, L, R) := by rw [eI27]; exact fresh_I hfI21 c53
          have v29 : I27 54 (m).toNatClampNeg = p := by rw [eI27, up2_ne (fun e => by cases e.1)]; exact v23
          have v30 : I27 55 (m).toNatClampNeg = n := by rw [eI27, up2_ne (fun e => by cases e.1)]; exact v24
          have v31 : I27 56 (m).toNatClampNeg = e := by rw [eI27, up2_ne (fun e => by cases e.1)]; exact v25
          have v32 : I27 58 (m).toNatClampNeg = (-1) := by rw [eI27, up2_ne (fun e => by cases e.1)]; exact v26
          have v33 : I27 53 3 = (m + 1) := by rw [eI27]; exact up2_eq
          refine XW.fam (S' := (96, [(0, .ref 53), (1, .int p), (2, .int n), (3, .int e)], [.ref 53], (sh, I27, L, R))) (M := mr_141) rfl (show mcode 141 95 = some (95, .aload_n 0, 1, 0, 0, 0, _) from rfl) (Or.inl ⟨.ref 53, rfl, rfl⟩) ?_
          refine XW.fam (S' := (99, [(0, .ref 53), (1, .int p), (2, .int n), (3, .int e)], [.int (I27 53 3)], (sh, I27, L, R))) (M := mr_141) rfl (show mcode 141 96 = some (96, .getfield 61, 3, 7, 3, 0, _) from rfl) (Or.inr (Or.inr (Or.inr (Or.inr (Or.inr (Or.inr (Or.inr (Or.inl ⟨_, _, rfl, fl_ldI c53 (by decide) (by decide), rfl⟩)))))))) ?_
          rw [v33]
          refine XW.fam (S' := (100, [(0, .ref 53), (1, .int p), (2, .int n), (3, .int e)], [.int 1, .int (m + 1)], (sh, I27, L, R))) (M := mr_141) rfl (show mcode 141 99 = some (99, .iconst 1, 1, 0, 0, 0, _) from rfl) (Or.inl ⟨.int 1, rfl, rfl⟩) ?_
          refine XW.fam (S' := (101, [(0, .ref 53), (1, .int p), (2, .int n), (3, .int e)], [.int ((m + 1) - 1)], (sh, I27, L, R))) (M := mr_141) rfl (show mcode 141 100 = some (100, .isub, 1, 0, 0, 0, _) from rfl) (Or.inr (Or.inr (Or.inr (Or.inr (Or.inr (Or.inl ⟨_, rfl, rfl⟩)))))) ?_
          refine XW.ret (r := some (.int ((m + 1) - 1))) ⟨⟨.int, rfl, rfl⟩, by decide +kernel⟩ ?_
          refine ⟨?_, Or.inr ⟨?_, ?_, ?_⟩⟩
          · skip
            have hkp : ∀ q k, inm mdSC q k = false → I27 q k = I q k := by
              intro q k h
              rw [eI27, up2_ne (fun e => by rw [e.1, e.2] at h; cases h), eI21, up2_ne (fun e => by rw [e.1] at h; cases h), eI15, up2_ne (fun e => by rw [e.1] at h; cases h), eI10, up2_ne (fun e => by rw [e.1] at h; cases h), eI6, up2_ne (fun e => by rw [e.1] at h; cases h)]
            refine ⟨hfI27, ⟨sh, R, hwI27⟩, Or.inr (Or.inr ⟨show okSC I p n e by unfold okSC; omega, by show (I 53 3).toInt < (16 : Int); rw [em]; omega, ?_, ?_, hkp⟩)⟩
            · show some (Value.int _) = some (Value.int (I 53 3 + 0))
              rw [em, decr32, Int32.add_zero]
            · show I27 53 3 = I 53 3 + 1
              rw [em]
              exact v33
          · show I27 53 3 = I 53 3 + 1
            rw [em]
            exact v33
          · have hrw : ∀ k, I27 55 k = I10 55 k := by
              intro k
              rw [eI27, up2_ne (fun e => by cases e.1), eI21, up2_ne (fun e => by cases e.1), eI15, up2_ne (fun e => by cases e.1)]
            refine ⟨?_, fun k hk => ?_⟩
            · show I27 55 (I 53 3).toNatClampNeg = _
              rw [hrw, em, eI10, up2_eq]
            · have hk : ¬ k = (I 53 3).toNatClampNeg := hk
              rw [em] at hk
              show I27 55 k = I 55 k
              rw [hrw, eI10, up2_ne (fun e => hk e.2), eI6, up2_ne (fun e => by cases e.1)]
          · have hrw : ∀ k, I27 56 k = I15 56 k := by
              intro k
              rw [eI27, up2_ne (fun e => by cases e.1), eI21, up2_ne (fun e => by cases e.1)]
            refine ⟨?_, fun k hk => ?_⟩
            · show I27 56 (I 53 3).toNatClampNeg = _
              rw [hrw, em, eI15, up2_eq]
            · have hk : ¬ k = (I 53 3).toNatClampNeg := hk
              rw [em] at hk
              show I27 56 k = I 56 k
              rw [hrw, eI15, up2_ne (fun e => hk e.2), eI10, up2_ne (fun e => by cases e.1), eI6, up2_ne (fun e => by cases e.1)]
        | false =>
          have gk4 : ¬ ((m).toInt < 16) := icF (c := .lt) (a := (m).toInt) (b := 16) rfl (by decide) k4
          refine XW.fam (S' := (42, [(0, .ref 53), (1, .int p), (2, .int n), (3, .int e)], [], (sh, I, L, R))) (M := mr_141) rfl (show mcode 141 39 = some (39, .if_icmp .lt 6, 3, 45, 0, 0, _) from rfl) (Or.inr (Or.inl ⟨42, [], by simp [brn, k4], rfl⟩)) ?_
          refine XW.fam (S' := (44, [(0, .ref 53), (1, .int p), (2, .int n), (3, .int e)], [.int (-3)], (sh, I, L, R))) (M := mr_141) rfl (show mcode 141 42 = some (42, .bipush (-3), 2, 0, 0, 0, _) from rfl) (Or.inl ⟨.int (-3), rfl, rfl⟩) ?_
          refine XW.ret (r := some (.int (-3))) ⟨⟨.int, rfl, rfl⟩, by decide +kernel⟩ ?_
          refine ⟨?_, Or.inl ⟨rfl, fun _ => rfl, fun _ => rfl⟩⟩
          exact ⟨hf, ⟨sh, R, hw⟩, Or.inr (Or.inl ⟨show okSC I p n e by unfold okSC; omega, by show (16 : Int) ≤ (I 53 3).toInt; rw [em]; omega, rfl, rfl⟩)⟩
theorem tc_shipC5 {d : Nat} {sh : List mE} {R : Nat → Nat → Option Nat} {w : mW} {p n e : Int32} (hw : wOK (mkT vV []) (wE sh R) w) (hf : fresh w) : Tc 140 (d + 3) 0 0 [.ref 0, .int p, .int n, .int e] w (fun r w' => Qapp 53 3 16 (okSC w.2.1 p n e) 0 mdSC w r w' ∧ R5s 53 3 55 56 n e w w') := by
  obtain ⟨sh0, I, L, R0⟩ := w
  obtain rfl : sh = sh0 := hw.2.2.2.1.symm
  obtain rfl : R = R0 := hw.2.2.2.2.1.symm
  have c0 : sh[0]? = some (.inr 0) := hw.1 0 _ rfl
  have c53 : sh[53]? = some (.inr 7) := hw.1 53 _ rfl
  have r0_6 : R 0 6 = some 53 := hw.2.1 0 6 _ rfl
  refine Tc.of mr_140 rfl (show 4 ≤ mr_140.2.2.2.1 by decide) ?_
  refine XW.fam (S' := (1, [(0, .ref 0), (1, .int p), (2, .int n), (3, .int e)], [.ref 0], (sh, I, L, R))) (M := mr_140) rfl (show mcode 140 0 = some (0, .aload_n 0, 1, 0, 0, 0, _) from rfl) (Or.inl ⟨.ref 0, rfl, rfl⟩) ?_
  refine XW.fam (S' := (4, [(0, .ref 0), (1, .int p), (2, .int n), (3, .int e)], [.ref 53], (sh, I, L, R))) (M := mr_140) rfl (show mcode 140 1 = some (1, .getfield 62, 3, 0, 6, 0, _) from rfl) (Or.inr (Or.inr (Or.inr (Or.inr (Or.inr (Or.inr (Or.inr (Or.inl ⟨_, _, rfl, fl_ld c0 r0_6 (by decide) (by decide), rfl⟩)))))))) ?_
  refine XW.fam (S' := (5, [(0, .ref 0), (1, .int p), (2, .int n), (3, .int e)], [.int p, .ref 53], (sh, I, L, R))) (M := mr_140) rfl (show mcode 140 4 = some (4, .iload_n 1, 1, 0, 0, 0, _) from rfl) (Or.inl ⟨.int p, rfl, rfl⟩) ?_
  refine XW.fam (S' := (6, [(0, .ref 0), (1, .int p), (2, .int n), (3, .int e)], [.int n, .int p, .ref 53], (sh, I, L, R))) (M := mr_140) rfl (show mcode 140 5 = some (5, .iload_n 2, 1, 0, 0, 0, _) from rfl) (Or.inl ⟨.int n, rfl, rfl⟩) ?_
  refine XW.fam (S' := (7, [(0, .ref 0), (1, .int p), (2, .int n), (3, .int e)], [.int e, .int n, .int p, .ref 53], (sh, I, L, R))) (M := mr_140) rfl (show mcode 140 6 = some (6, .iload_n 3, 1, 0, 0, 0, _) from rfl) (Or.inl ⟨.int e, rfl, rfl⟩) ?_
  refine XW.call (d' := d + 2) (mc' := 0) (ms' := 0) (av := [.ref 53, .int p, .int n, .int e]) (rest := []) (M := mr_140) (Ma := mr_141) rfl (show mcode 140 7 = some (7, .invokevirtual 253, 3, 141, 0, 0, _) from rfl) rfl (by decide) (by decide) ⟨rfl, 53, _, rfl, c53⟩ rfl rfl (show 0 ≤ 8 by decide) (tc_addC5 (d := d) hw hf) (by omega) (Nat.zero_le _) (Nat.zero_le _) (fun rQ1 wQ1 Q1 => ?_)
  obtain ⟨yQ1, eyQ1⟩ := Qapp_int Q1.1
  subst eyQ1
  refine XW.ret (r := some (.int yQ1)) ⟨⟨.int, rfl, rfl⟩, by decide +kernel⟩ ?_
  exact Q1
theorem tc_shipM5 {d : Nat} {sh : List mE} {R : Nat → Nat → Option Nat} {w : mW} {p n e : Int32} (hw : wOK (mkT vV []) (wE sh R) w) (hf : fresh w) : Tc 308 (d + 3) 0 0 [.ref 94, .int p, .int n, .int e] w (fun r w' => Qapp 94 60 16 (okSM w.2.1 p n e) 0 mdSM w r w' ∧ R5s 94 60 135 136 n e w w') := by
  obtain ⟨sh0, I, L, R0⟩ := w
  obtain rfl : sh = sh0 := hw.2.2.2.1.symm
  obtain rfl : R = R0 := hw.2.2.2.2.1.symm
  have c94 : sh[94]? = some (.inr 12) := hw.1 94 _ rfl
  have c135 : sh[135]? = some (.inl (.int, 16)) := hw.1 135 _ rfl
  have c136 : sh[136]? = some (.inl (.int, 16)) := hw.1 136 _ rfl
  have c138 : sh[138]? = some (.inl (.int, 16)) := hw.1 138 _ rfl
  have c139 : sh[139]? = some (.inl (.int, 16)) := hw.1 139 _ rfl
  have c140 : sh[140]? = some (.inl (.int, 16)) := hw.1 140 _ rfl
  have r94_61 : R 94 61 = some 135 := hw.2.1 94 61 _ rfl
  have r94_62 : R 94 62 = some 136 := hw.2.1 94 62 _ rfl
  have r94_64 : R 94 64 = some 138 := hw.2.1 94 64 _ rfl
  have r94_65 : R 94 65 = some 139 := hw.2.1 94 65 _ rfl
  have r94_66 : R 94 66 = some 140 := hw.2.1 94 66 _ rfl
  have zm3 : ((-3) : Int32).toInt = (-3) := rfl
  have zm1 : ((-1) : Int32).toInt = (-1) := rfl
  have z1 : (1 : Int32).toInt = 1 := rfl
  have z2 : (2 : Int32).toInt = 2 := rfl
  have z16 : (16 : Int32).toInt = 16 := rfl
  have z30 : (30 : Int32).toInt = 30 := rfl
  have z60 : (60 : Int32).toInt = 60 := rfl
  have hm : 0 ≤ (I 94 2).toInt ∧ (I 94 2).toInt ≤ 20 := hw.2.2.1 94 2
  have hmc : 0 ≤ (I 94 60).toInt ∧ (I 94 60).toInt ≤ 16 := hw.2.2.1 94 60
  obtain ⟨m, em⟩ : ∃ m, I 94 60 = m := ⟨_, rfl⟩
  rw [em] at hmc
  refine Tc.of mr_308 rfl (show 4 ≤ mr_308.2.2.2.1 by decide) ?_
  refine XW.fam (S' := (1, [(0, .ref 94), (1, .int p), (2, .int n), (3, .int e)], [.ref 94], (sh, I, L, R))) (M := mr_308) rfl (show mcode 308 0 = some (0, .aload_n 0, 1, 0, 0, 0, _) from rfl) (Or.inl ⟨.ref 94, rfl, rfl⟩) ?_
  refine XW.fam (S' := (2, [(0, .ref 94), (1, .int p), (2, .int n), (3, .int e)], [.int p, .ref 94], (sh, I, L, R))) (M := mr_308) rfl (show mcode 308 1 = some (1, .iload_n 1, 1, 0, 0, 0, _) from rfl) (Or.inl ⟨.int p, rfl, rfl⟩) ?_
  refine XW.call (d' := d + 2) (mc' := 0) (ms' := 0) (av := [.ref 94, .int p]) (rest := []) (M := mr_308) (Ma := mr_309) rfl (show mcode 308 2 = some (2, .invokevirtual 496, 3, 309, 0, 0, _) from rfl) rfl (by decide) (by decide) ⟨rfl, 94, _, rfl, c94⟩ rfl rfl (show 0 ≤ 8 by decide) (tc_isPoM (d := d) hw) (by omega) (Nat.zero_le _) (Nat.zero_le _) (fun rQ1 wQ1 Q1 => ?_)
  obtain ⟨hQ1, rfl⟩ := Q1
  rcases hQ1 with ⟨rfl, gQ1⟩ | ⟨rfl, gQ1⟩
  · skip
    refine XW.fam (S' := (28, [(0, .ref 94), (1, .int p), (2, .int n), (3, .int e)], [], (sh, I, L, R))) (M := mr_308) rfl (show mcode 308 5 = some (5, .ifCond .eq 23, 3, 28, 0, 0, _) from rfl) (Or.inr (Or.inl ⟨28, [], rfl, rfl⟩)) ?_
    refine XW.fam (S' := (29, [(0, .ref 94), (1, .int p), (2, .int n), (3, .int e)], [.int (-1)], (sh, I, L, R))) (M := mr_308) rfl (show mcode 308 28 = some (28, .iconst (-1), 1, 0, 0, 0, _) from rfl) (Or.inl ⟨.int (-1), rfl, rfl⟩) ?_
    refine XW.ret (r := some (.int (-1))) ⟨⟨.int, rfl, rfl⟩, by decide +kernel⟩ ?_
    refine ⟨?_, Or.inl ⟨rfl, fun _ => rfl, fun _ => rfl⟩⟩
    exact ⟨hf, ⟨sh, R, hw⟩, Or.inl ⟨fun q => by have q1 : okSM I p n e := q; unfold okSM at q1; omega, rfl, rfl⟩⟩
  · skip
    refine XW.fam (S' := (8, [(0, .ref 94), (1, .int p), (2, .int n), (3, .int e)], [], (sh, I, L, R))) (M := mr_308) rfl (show mcode 308 5 = some (5, .ifCond .eq 23, 3, 28, 0, 0, _) from rfl) (Or.inr (Or.inl ⟨8, [], rfl, rfl⟩)) ?_
    refine XW.fam (S' := (9, [(0, .ref 94), (1, .int p), (2, .int n), (3, .int e)], [.int n], (sh, I, L, R))) (M := mr_308) rfl (show mcode 308 8 = some (8, .iload_n 2, 1, 0, 0, 0, _) from rfl) (Or.inl ⟨.int n, rfl, rfl⟩) ?_
    refine XW.fam (S' := (10, [(0, .ref 94), (1, .int p), (2, .int n), (3, .int e)], [.int 1, .int n], (sh, I, L, R))) (M := mr_308) rfl (show mcode 308 9 = some (9, .iconst 1, 1, 0, 0, 0, _) from rfl) (Or.inl ⟨.int 1, rfl, rfl⟩) ?_
    refine XW.fam (S' := (12, [(0, .ref 94), (1, .int p), (2, .int n), (3, .int e)], [.int 60, .int 1, .int n], (sh, I, L, R))) (M := mr_308) rfl (show mcode 308 10 = some (10, .bipush 60, 2, 0, 0, 0, _) from rfl) (Or.inl ⟨.int 60, rfl, rfl⟩) ?_
    refine XW.call (d' := d) (mc' := 0) (ms' := 0) (av := [.int n, .int 1, .int 60]) (rest := []) (M := mr_308) (Ma := mr_236) rfl (show mcode 308 12 = some (12, .invokestatic 254, 3, 236, 0, 0, _) from rfl) rfl (by decide) (by decide) rfl rfl rfl (show 0 ≤ 8 by decide) (tc_inM) (by omega) (Nat.zero_le _) (Nat.zero_le _) (fun rQ2 wQ2 Q2 => ?_)
    obtain ⟨hQ2, rfl⟩ := Q2
    rcases hQ2 with ⟨rfl, gQ2⟩ | ⟨rfl, gQ2⟩
    · skip
      refine XW.fam (S' := (28, [(0, .ref 94), (1, .int p), (2, .int n), (3, .int e)], [], (sh, I, L, R))) (M := mr_308) rfl (show mcode 308 15 = some (15, .ifCond .eq 13, 3, 28, 0, 0, _) from rfl) (Or.inr (Or.inl ⟨28, [], rfl, rfl⟩)) ?_
      refine XW.fam (S' := (29, [(0, .ref 94), (1, .int p), (2, .int n), (3, .int e)], [.int (-1)], (sh, I, L, R))) (M := mr_308) rfl (show mcode 308 28 = some (28, .iconst (-1), 1, 0, 0, 0, _) from rfl) (Or.inl ⟨.int (-1), rfl, rfl⟩) ?_
      refine XW.ret (r := some (.int (-1))) ⟨⟨.int, rfl, rfl⟩, by decide +kernel⟩ ?_
      refine ⟨?_, Or.inl ⟨rfl, fun _ => rfl, fun _ => rfl⟩⟩
      exact ⟨hf, ⟨sh, R, hw⟩, Or.inl ⟨fun q => by have q1 : okSM I p n e := q; unfold okSM at q1; omega, rfl, rfl⟩⟩
    · skip
      refine XW.fam (S' := (18, [(0, .ref 94), (1, .int p), (2, .int n), (3, .int e)], [], (sh, I, L, R))) (M := mr_308) rfl (show mcode 308 15 = some (15, .ifCond .eq 13, 3, 28, 0, 0, _) from rfl) (Or.inr (Or.inl ⟨18, [], rfl, rfl⟩)) ?_
      refine XW.fam (S' := (19, [(0, .ref 94), (1, .int p), (2, .int n), (3, .int e)], [.int e], (sh, I, L, R))) (M := mr_308) rfl (show mcode 308 18 = some (18, .iload_n 3, 1, 0, 0, 0, _) from rfl) (Or.inl ⟨.int e, rfl, rfl⟩) ?_
      refine XW.fam (S' := (20, [(0, .ref 94), (1, .int p), (2, .int n), (3, .int e)], [.int 2, .int e], (sh, I, L, R))) (M := mr_308) rfl (show mcode 308 19 = some (19, .iconst 2, 1, 0, 0, 0, _) from rfl) (Or.inl ⟨.int 2, rfl, rfl⟩) ?_
      refine XW.fam (S' := (22, [(0, .ref 94), (1, .int p), (2, .int n), (3, .int e)], [.int 30, .int 2, .int e], (sh, I, L, R))) (M := mr_308) rfl (show mcode 308 20 = some (20, .bipush 30, 2, 0, 0, 0, _) from rfl) (Or.inl ⟨.int 30, rfl, rfl⟩) ?_
      refine XW.call (d' := d) (mc' := 0) (ms' := 0) (av := [.int e, .int 2, .int 30]) (rest := []) (M := mr_308) (Ma := mr_236) rfl (show mcode 308 22 = some (22, .invokestatic 254, 3, 236, 0, 0, _) from rfl) rfl (by decide) (by decide) rfl rfl rfl (show 0 ≤ 8 by decide) (tc_inM) (by omega) (Nat.zero_le _) (Nat.zero_le _) (fun rQ3 wQ3 Q3 => ?_)
      obtain ⟨hQ3, rfl⟩ := Q3
      rcases hQ3 with ⟨rfl, gQ3⟩ | ⟨rfl, gQ3⟩
      · skip
        refine XW.fam (S' := (28, [(0, .ref 94), (1, .int p), (2, .int n), (3, .int e)], [], (sh, I, L, R))) (M := mr_308) rfl (show mcode 308 25 = some (25, .ifCond .ne 5, 3, 30, 0, 0, _) from rfl) (Or.inr (Or.inl ⟨28, [], rfl, rfl⟩)) ?_
        refine XW.fam (S' := (29, [(0, .ref 94), (1, .int p), (2, .int n), (3, .int e)], [.int (-1)], (sh, I, L, R))) (M := mr_308) rfl (show mcode 308 28 = some (28, .iconst (-1), 1, 0, 0, 0, _) from rfl) (Or.inl ⟨.int (-1), rfl, rfl⟩) ?_
        refine XW.ret (r := some (.int (-1))) ⟨⟨.int, rfl, rfl⟩, by decide +kernel⟩ ?_
        refine ⟨?_, Or.inl ⟨rfl, fun _ => rfl, fun _ => rfl⟩⟩
        exact ⟨hf, ⟨sh, R, hw⟩, Or.inl ⟨fun q => by have q1 : okSM I p n e := q; unfold okSM at q1; omega, rfl, rfl⟩⟩
      · skip
        refine XW.fam (S' := (30, [(0, .ref 94), (1, .int p), (2, .int n), (3, .int e)], [], (sh, I, L, R))) (M := mr_308) rfl (show mcode 308 25 = some (25, .ifCond .ne 5, 3, 30, 0, 0, _) from rfl) (Or.inr (Or.inl ⟨30, [], rfl, rfl⟩)) ?_
        refine XW.fam (S' := (31, [(0, .ref 94), (1, .int p), (2, .int n), (3, .int e)], [.ref 94], (sh, I, L, R))) (M := mr_308) rfl (show mcode 308 30 = some (30, .aload_n 0, 1, 0, 0, 0, _) from rfl) (Or.inl ⟨.ref 94, rfl, rfl⟩) ?_
        refine XW.fam (S' := (34, [(0, .ref 94), (1, .int p), (2, .int n), (3, .int e)], [.int (I 94 60)], (sh, I, L, R))) (M := mr_308) rfl (show mcode 308 31 = some (31, .getfield 493, 3, 12, 60, 0, _) from rfl) (Or.inr (Or.inr (Or.inr (Or.inr (Or.inr (Or.inr (Or.inr (Or.inl ⟨_, _, rfl, fl_ldI c94 (by decide) (by decide), rfl⟩)))))))) ?_
        rw [em]
        refine XW.fam (S' := (36, [(0, .ref 94), (1, .int p), (2, .int n), (3, .int e)], [.int 16, .int m], (sh, I, L, R))) (M := mr_308) rfl (show mcode 308 34 = some (34, .bipush 16, 2, 0, 0, 0, _) from rfl) (Or.inl ⟨.int 16, rfl, rfl⟩) ?_
        cases k4 : bcmp .ne m 16 with
        | true =>
          have gk4 : ¬ (m).toInt = 16 := icT (c := .ne) (a := (m).toInt) (b := 16) rfl (by decide) k4
          refine XW.fam (S' := (42, [(0, .ref 94), (1, .int p), (2, .int n), (3, .int e)], [], (sh, I, L, R))) (M := mr_308) rfl (show mcode 308 36 = some (36, .if_icmp .ne 6, 3, 42, 0, 0, _) from rfl) (Or.inr (Or.inl ⟨42, [], by simp [brn, k4], rfl⟩)) ?_
          refine XW.fam (S' := (43, [(0, .ref 94), (1, .int p), (2, .int n), (3, .int e)], [.ref 94], (sh, I, L, R))) (M := mr_308) rfl (show mcode 308 42 = some (42, .aload_n 0, 1, 0, 0, 0, _) from rfl) (Or.inl ⟨.ref 94, rfl, rfl⟩) ?_
          refine XW.fam (S' := (46, [(0, .ref 94), (1, .int p), (2, .int n), (3, .int e)], [.ref 135], (sh, I, L, R))) (M := mr_308) rfl (show mcode 308 43 = some (43, .getfield 136, 3, 12, 61, 0, _) from rfl) (Or.inr (Or.inr (Or.inr (Or.inr (Or.inr (Or.inr (Or.inr (Or.inl ⟨_, _, rfl, fl_ld c94 r94_61 (by decide) (by decide), rfl⟩)))))))) ?_
          refine XW.fam (S' := (47, [(0, .ref 94), (1, .int p), (2, .int n), (3, .int e)], [.ref 94, .ref 135], (sh, I, L, R))) (M := mr_308) rfl (show mcode 308 46 = some (46, .aload_n 0, 1, 0, 0, 0, _) from rfl) (Or.inl ⟨.ref 94, rfl, rfl⟩) ?_
          refine XW.fam (S' := (50, [(0, .ref 94), (1, .int p), (2, .int n), (3, .int e)], [.int (I 94 60), .ref 135], (sh, I, L, R))) (M := mr_308) rfl (show mcode 308 47 = some (47, .getfield 493, 3, 12, 60, 0, _) from rfl) (Or.inr (Or.inr (Or.inr (Or.inr (Or.inr (Or.inr (Or.inr (Or.inl ⟨_, _, rfl, fl_ldI c94 (by decide) (by decide), rfl⟩)))))))) ?_
          rw [em]
          refine XW.fam (S' := (51, [(0, .ref 94), (1, .int p), (2, .int n), (3, .int e)], [.int n, .int m, .ref 135], (sh, I, L, R))) (M := mr_308) rfl (show mcode 308 50 = some (50, .iload_n 2, 1, 0, 0, 0, _) from rfl) (Or.inl ⟨.int n, rfl, rfl⟩) ?_
          have hin5 : inR m 16 = true := inR_of (by omega) (by omega)
          obtain ⟨I6, eI6⟩ : ∃ X, X = up2 I 135 (m).toNatClampNeg n := ⟨_, rfl⟩
          refine XW.fam (S' := (52, [(0, .ref 94), (1, .int p), (2, .int n), (3, .int e)], [], (sh, I6, L, R))) (M := mr_308) rfl (show mcode 308 51 = some (51, .iastore, 1, 0, 0, 0, _) from rfl) (Or.inr (Or.inr (Or.inr (Or.inl ⟨_, _, by rw [eI6]; exact sta_i c135 hin5, rfl⟩)))) ?_
          have hwI6 : wOK (mkT vV []) (wE sh R) (sh, I6, L, R) := by rw [eI6]; exact wOK_u3 (q := 135) (k := (m).toNatClampNeg) (x := n) hw (wE_b _ _ _ _ _ _ (by omega) hw.2.2.2) (by show (0 : Int) ≤ _; omega) (by show _ ≤ (60 : Int); omega)
          have hfI6 : fresh (sh, I6, L, R) := by rw [eI6]; exact fresh_I hf c135
          have v7 : I6 94 60 = m := by rw [eI6, up2_ne (fun e => by cases e.1)]; exact em
          refine XW.fam (S' := (53, [(0, .ref 94), (1, .int p), (2, .int n), (3, .int e)], [.ref 94], (sh, I6, L, R))) (M := mr_308) rfl (show mcode 308 52 = some (52, .aload_n 0, 1, 0, 0, 0, _) from rfl) (Or.inl ⟨.ref 94, rfl, rfl⟩) ?_
          refine XW.fam (S' := (56, [(0, .ref 94), (1, .int p), (2, .int n), (3, .int e)], [.ref 136], (sh, I6, L, R))) (M := mr_308) rfl (show mcode 308 53 = some (53, .getfield 139, 3, 12, 62, 0, _) from rfl) (Or.inr (Or.inr (Or.inr (Or.inr (Or.inr (Or.inr (Or.inr (Or.inl ⟨_, _, rfl, fl_ld c94 r94_62 (by decide) (by decide), rfl⟩)))))))) ?_
          refine XW.fam (S' := (57, [(0, .ref 94), (1, .int p), (2, .int n), (3, .int e)], [.ref 94, .ref 136], (sh, I6, L, R))) (M := mr_308) rfl (show mcode 308 56 = some (56, .aload_n 0, 1, 0, 0, 0, _) from rfl) (Or.inl ⟨.ref 94, rfl, rfl⟩) ?_
          refine XW.fam (S' := (60, [(0, .ref 94), (1, .int p), (2, .int n), (3, .int e)], [.int (I6 94 60), .ref 136], (sh, I6, L, R))) (M := mr_308) rfl (show mcode 308 57 = some (57, .getfield 493, 3, 12, 60, 0, _) from rfl) (Or.inr (Or.inr (Or.inr (Or.inr (Or.inr (Or.inr (Or.inr (Or.inl ⟨_, _, rfl, fl_ldI c94 (by decide) (by decide), rfl⟩)))))))) ?_
          rw [v7]
          refine XW.fam (S' := (61, [(0, .ref 94), (1, .int p), (2, .int n), (3, .int e)], [.int e, .int m, .ref 136], (sh, I6, L, R))) (M := mr_308) rfl (show mcode 308 60 = some (60, .iload_n 3, 1, 0, 0, 0, _) from rfl) (Or.inl ⟨.int e, rfl, rfl⟩) ?_
          have hin8 : inR m 16 = true := inR_of (by omega) (by omega)
          obtain ⟨I9, eI9⟩ : ∃ X, X = up2 I6 136 (m).toNatClampNeg e := ⟨_, rfl⟩
          refine XW.fam (S' := (62, [(0, .ref 94), (1, .int p), (2, .int n), (3, .int e)], [], (sh, I9, L, R))) (M := mr_308) rfl (show mcode 308 61 = some (61, .iastore, 1, 0, 0, 0, _) from rfl) (Or.inr (Or.inr (Or.inr (Or.inl ⟨_, _, by rw [eI9]; exact sta_i c136 hin8, rfl⟩)))) ?_
          have hwI9 : wOK (mkT vV []) (wE sh R) (sh, I9, L, R) := by rw [eI9]; exact wOK_u2 (q := 136) (k := (m).toNatClampNeg) (x := e) wE_put hwI6 rfl (by show (0 : Int) ≤ _; omega) (by show _ ≤ (30 : Int); omega)
          have hfI9 : fresh (sh, I9, L, R) := by rw [eI9]; exact fresh_I hfI6 c136
          have v10 : I9 94 60 = m := by rw [eI9, up2_ne (fun e => by cases e.1)]; exact v7
          have v11 : I9 136 (m).toNatClampNeg = e := by rw [eI9]; exact up2_eq
          refine XW.fam (S' := (63, [(0, .ref 94), (1, .int p), (2, .int n), (3, .int e)], [.ref 94], (sh, I9, L, R))) (M := mr_308) rfl (show mcode 308 62 = some (62, .aload_n 0, 1, 0, 0, 0, _) from rfl) (Or.inl ⟨.ref 94, rfl, rfl⟩) ?_
          refine XW.fam (S' := (66, [(0, .ref 94), (1, .int p), (2, .int n), (3, .int e)], [.ref 138], (sh, I9, L, R))) (M := mr_308) rfl (show mcode 308 63 = some (63, .getfield 145, 3, 12, 64, 0, _) from rfl) (Or.inr (Or.inr (Or.inr (Or.inr (Or.inr (Or.inr (Or.inr (Or.inl ⟨_, _, rfl, fl_ld c94 r94_64 (by decide) (by decide), rfl⟩)))))))) ?_
          refine XW.fam (S' := (67, [(0, .ref 94), (1, .int p), (2, .int n), (3, .int e)], [.ref 94, .ref 138], (sh, I9, L, R))) (M := mr_308) rfl (show mcode 308 66 = some (66, .aload_n 0, 1, 0, 0, 0, _) from rfl) (Or.inl ⟨.ref 94, rfl, rfl⟩) ?_
          refine XW.fam (S' := (70, [(0, .ref 94), (1, .int p), (2, .int n), (3, .int e)], [.int (I9 94 60), .ref 138], (sh, I9, L, R))) (M := mr_308) rfl (show mcode 308 67 = some (67, .getfield 493, 3, 12, 60, 0, _) from rfl) (Or.inr (Or.inr (Or.inr (Or.inr (Or.inr (Or.inr (Or.inr (Or.inl ⟨_, _, rfl, fl_ldI c94 (by decide) (by decide), rfl⟩)))))))) ?_
          rw [v10]
          refine XW.fam (S' := (71, [(0, .ref 94), (1, .int p), (2, .int n), (3, .int e)], [.int p, .int m, .ref 138], (sh, I9, L, R))) (M := mr_308) rfl (show mcode 308 70 = some (70, .iload_n 1, 1, 0, 0, 0, _) from rfl) (Or.inl ⟨.int p, rfl, rfl⟩) ?_
          have hin12 : inR m 16 = true := inR_of (by omega) (by omega)
          obtain ⟨I13, eI13⟩ : ∃ X, X = up2 I9 138 (m).toNatClampNeg p := ⟨_, rfl⟩
          refine XW.fam (S' := (72, [(0, .ref 94), (1, .int p), (2, .int n), (3, .int e)], [], (sh, I13, L, R))) (M := mr_308) rfl (show mcode 308 71 = some (71, .iastore, 1, 0, 0, 0, _) from rfl) (Or.inr (Or.inr (Or.inr (Or.inl ⟨_, _, by rw [eI13]; exact sta_i c138 hin12, rfl⟩)))) ?_
          have hwI13 : wOK (mkT vV []) (wE sh R) (sh, I13, L, R) := by rw [eI13]; exact wOK_u2 (q := 138) (k := (m).toNatClampNeg) (x := p) wE_put hwI9 rfl (by show (0 : Int) ≤ _; omega) (by show _ ≤ (19 : Int); omega)
          have hfI13 : fresh (sh, I13, L, R) := by rw [eI13]; exact fresh_I hfI9 c138
          have v14 : I13 94 60 = m := by rw [eI13, up2_ne (fun e => by cases e.1)]; exact v10
          have v15 : I13 136 (m).toNatClampNeg = e := by rw [eI13, up2_ne (fun e => by cases e.1)]; exact v11
          have v16 : I13 138 (m).toNatClampNeg = p := by rw [eI13]; exact up2_eq
          refine XW.fam (S' := (73, [(0, .ref 94), (1, .int p), (2, .int n), (3, .int e)], [.ref 94], (sh, I13, L, R))) (M := mr_308) rfl (show mcode 308 72 = some (72, .aload_n 0, 1, 0, 0, 0, _) from rfl) (Or.inl ⟨.ref 94, rfl, rfl⟩) ?_
          refine XW.fam (S' := (76, [(0, .ref 94), (1, .int p), (2, .int n), (3, .int e)], [.ref 139], (sh, I13, L, R))) (M := mr_308) rfl (show mcode 308 73 = some (73, .getfield 148, 3, 12, 65, 0, _) from rfl) (Or.inr (Or.inr (Or.inr (Or.inr (Or.inr (Or.inr (Or.inr (Or.inl ⟨_, _, rfl, fl_ld c94 r94_65 (by decide) (by decide), rfl⟩)))))))) ?_
          refine XW.fam (S' := (77, [(0, .ref 94), (1, .int p), (2, .int n), (3, .int e)], [.ref 94, .ref 139], (sh, I13, L, R))) (M := mr_308) rfl (show mcode 308 76 = some (76, .aload_n 0, 1, 0, 0, 0, _) from rfl) (Or.inl ⟨.ref 94, rfl, rfl⟩) ?_
          refine XW.fam (S' := (80, [(0, .ref 94), (1, .int p), (2, .int n), (3, .int e)], [.int (I13 94 60), .ref 139], (sh, I13, L, R))) (M := mr_308) rfl (show mcode 308 77 = some (77, .getfield 493, 3, 12, 60, 0, _) from rfl) (Or.inr (Or.inr (Or.inr (Or.inr (Or.inr (Or.inr (Or.inr (Or.inl ⟨_, _, rfl, fl_ldI c94 (by decide) (by decide), rfl⟩)))))))) ?_
          rw [v14]
          refine XW.fam (S' := (81, [(0, .ref 94), (1, .int p), (2, .int n), (3, .int e)], [.int (-1), .int m, .ref 139], (sh, I13, L, R))) (M := mr_308) rfl (show mcode 308 80 = some (80, .iconst (-1), 1, 0, 0, 0, _) from rfl) (Or.inl ⟨.int (-1), rfl, rfl⟩) ?_
          have hin17 : inR m 16 = true := inR_of (by omega) (by omega)
          obtain ⟨I18, eI18⟩ : ∃ X, X = up2 I13 139 (m).toNatClampNeg (-1) := ⟨_, rfl⟩
          refine XW.fam (S' := (82, [(0, .ref 94), (1, .int p), (2, .int n), (3, .int e)], [], (sh, I18, L, R))) (M := mr_308) rfl (show mcode 308 81 = some (81, .iastore, 1, 0, 0, 0, _) from rfl) (Or.inr (Or.inr (Or.inr (Or.inl ⟨_, _, by rw [eI18]; exact sta_i c139 hin17, rfl⟩)))) ?_
          have hwI18 : wOK (mkT vV []) (wE sh R) (sh, I18, L, R) := by rw [eI18]; exact wOK_u2 (q := 139) (k := (m).toNatClampNeg) (x := (-1)) wE_put hwI13 rfl (by show ((-1) : Int) ≤ _; omega) (by show _ ≤ (730 : Int); omega)
          have hfI18 : fresh (sh, I18, L, R) := by rw [eI18]; exact fresh_I hfI13 c139
          have v19 : I18 94 60 = m := by rw [eI18, up2_ne (fun e => by cases e.1)]; exact v14
          have v20 : I18 136 (m).toNatClampNeg = e := by rw [eI18, up2_ne (fun e => by cases e.1)]; exact v15
          have v21 : I18 138 (m).toNatClampNeg = p := by rw [eI18, up2_ne (fun e => by cases e.1)]; exact v16
          have v22 : I18 139 (m).toNatClampNeg = (-1) := by rw [eI18]; exact up2_eq
          refine XW.fam (S' := (83, [(0, .ref 94), (1, .int p), (2, .int n), (3, .int e)], [.ref 94], (sh, I18, L, R))) (M := mr_308) rfl (show mcode 308 82 = some (82, .aload_n 0, 1, 0, 0, 0, _) from rfl) (Or.inl ⟨.ref 94, rfl, rfl⟩) ?_
          refine XW.fam (S' := (86, [(0, .ref 94), (1, .int p), (2, .int n), (3, .int e)], [.ref 140], (sh, I18, L, R))) (M := mr_308) rfl (show mcode 308 83 = some (83, .getfield 151, 3, 12, 66, 0, _) from rfl) (Or.inr (Or.inr (Or.inr (Or.inr (Or.inr (Or.inr (Or.inr (Or.inl ⟨_, _, rfl, fl_ld c94 r94_66 (by decide) (by decide), rfl⟩)))))))) ?_
          refine XW.fam (S' := (87, [(0, .ref 94), (1, .int p), (2, .int n), (3, .int e)], [.ref 94, .ref 140], (sh, I18, L, R))) (M := mr_308) rfl (show mcode 308 86 = some (86, .aload_n 0, 1, 0, 0, 0, _) from rfl) (Or.inl ⟨.ref 94, rfl, rfl⟩) ?_
          refine XW.fam (S' := (90, [(0, .ref 94), (1, .int p), (2, .int n), (3, .int e)], [.int (I18 94 60), .ref 140], (sh, I18, L, R))) (M := mr_308) rfl (show mcode 308 87 = some (87, .getfield 493, 3, 12, 60, 0, _) from rfl) (Or.inr (Or.inr (Or.inr (Or.inr (Or.inr (Or.inr (Or.inr (Or.inl ⟨_, _, rfl, fl_ldI c94 (by decide) (by decide), rfl⟩)))))))) ?_
          rw [v19]
          refine XW.fam (S' := (91, [(0, .ref 94), (1, .int p), (2, .int n), (3, .int e)], [.int (-1), .int m, .ref 140], (sh, I18, L, R))) (M := mr_308) rfl (show mcode 308 90 = some (90, .iconst (-1), 1, 0, 0, 0, _) from rfl) (Or.inl ⟨.int (-1), rfl, rfl⟩) ?_
          have hin23 : inR m 16 = true := inR_of (by omega) (by omega)
          obtain ⟨I24, eI24⟩ : ∃ X, X = up2 I18 140 (m).toNatClampNeg (-1) := ⟨_, rfl⟩
          refine XW.fam (S' := (92, [(0, .ref 94), (1, .int p), (2, .int n), (3, .int e)], [], (sh, I24, L, R))) (M := mr_308) rfl (show mcode 308 91 = some (91, .iastore, 1, 0, 0, 0, _) from rfl) (Or.inr (Or.inr (Or.inr (Or.inl ⟨_, _, by rw [eI24]; exact sta_i c140 hin23, rfl⟩)))) ?_
          have hwI24 : wOK (mkT vV []) (wE sh R) (sh, I24, L, R) := by rw [eI24]; exact wOK_u2 (q := 140) (k := (m).toNatClampNeg) (x := (-1)) wE_put hwI18 rfl (by show ((-1) : Int) ≤ _; omega) (by show _ ≤ (700 : Int); omega)
          have hfI24 : fresh (sh, I24, L, R) := by rw [eI24]; exact fresh_I hfI18 c140
          have v25 : I24 94 60 = m := by rw [eI24, up2_ne (fun e => by cases e.1)]; exact v19
          have v26 : I24 136 (m).toNatClampNeg = e := by rw [eI24, up2_ne (fun e => by cases e.1)]; exact v20
          have v27 : I24 138 (m).toNatClampNeg = p := by rw [eI24, up2_ne (fun e => by cases e.1)]; exact v21
          have v28 : I24 139 (m).toNatClampNeg = (-1) := by rw [eI24, up2_ne (fun e => by cases e.1)]; exact v22
          have v29 : I24 140 (m).toNatClampNeg = (-1) := by rw [eI24]; exact up2_eq
          refine XW.fam (S' := (93, [(0, .ref 94), (1, .int p), (2, .int n), (3, .int e)], [.ref 94], (sh, I24, L, R))) (M := mr_308) rfl (show mcode 308 92 = some (92, .aload_n 0, 1, 0, 0, 0, _) from rfl) (Or.inl ⟨.ref 94, rfl, rfl⟩) ?_
          refine XW.fam (S' := (94, [(0, .ref 94), (1, .int p), (2, .int n), (3, .int e)], [.ref 94, .ref 94], (sh, I24, L, R))) (M := mr_308) rfl (show mcode 308 93 = some (93, .dup, 1, 0, 0, 0, _) from rfl) (Or.inr (Or.inr (Or.inr (Or.inr (Or.inr (Or.inl ⟨_, rfl, rfl⟩)))))) ?_
          refine XW.fam (S' := (97, [(0, .ref 94), (1, .int p), (2, .int n), (3, .int e)], [.int (I24 94 60), .ref 94], (sh, I24, L, R))) (M := mr_308) rfl (show mcode 308 94 = some (94, .getfield 493, 3, 12, 60, 0, _) from rfl) (Or.inr (Or.inr (Or.inr (Or.inr (Or.inr (Or.inr (Or.inr (Or.inl ⟨_, _, rfl, fl_ldI c94 (by decide) (by decide), rfl⟩)))))))) ?_
          rw [v25]
          refine XW.fam (S' := (98, [(0, .ref 94), (1, .int p), (2, .int n), (3, .int e)], [.int 1, .int m, .ref 94], (sh, I24, L, R))) (M := mr_308) rfl (show mcode 308 97 = some (97, .iconst 1, 1, 0, 0, 0, _) from rfl) (Or.inl ⟨.int 1, rfl, rfl⟩) ?_
          refine XW.fam (S' := (99, [(0, .ref 94), (1, .int p), (2, .int n), (3, .int e)], [.int (m + 1), .ref 94], (sh, I24, L, R))) (M := mr_308) rfl (show mcode 308 98 = some (98, .iadd, 1, 0, 0, 0, _) from rfl) (Or.inr (Or.inr (Or.inr (Or.inr (Or.inr (Or.inl ⟨_, rfl, rfl⟩)))))) ?_
          obtain ⟨I30, eI30⟩ : ∃ X, X = up2 I24 94 60 (m + 1) := ⟨_, rfl⟩
          refine XW.fam (S' := (102, [(0, .ref 94), (1, .int p), (2, .int n), (3, .int e)], [], (sh, I30, L, R))) (M := mr_308) rfl (show mcode 308 99 = some (99, .putfield 493, 3, 12, 60, 0, _) from rfl) (Or.inr (Or.inr (Or.inr (Or.inr (Or.inr (Or.inr (Or.inr (Or.inr (Or.inl ⟨_, _, _, rfl, by rw [eI30]; exact stf_I c94 (by decide) (by decide) (by decide), rfl⟩))))))))) ?_
          have xi := inc32 (m := m) (by omega) (by omega)
          have hbe : I24 135 (I24 94 60).toInt.toNat = n := by rw [v25]; show I24 135 (m).toNatClampNeg = _; rw [eI24, up2_ne (fun e => by cases e.1), eI18, up2_ne (fun e => by cases e.1), eI13, up2_ne (fun e => by cases e.1), eI9, up2_ne (fun e => by cases e.1), eI6, up2_eq]
          have hwI30 : wOK (mkT vV []) (wE sh R) (sh, I30, L, R) := by rw [eI30]; exact wOK_u3 (q := 94) (k := 60) (x := (m + 1)) hwI24 (wE_s _ _ _ _ _ (by rw [v25]; exact xi) (by rw [v25]; omega) (by rw [hbe]; omega) hwI24.2.2.2) (by show (0 : Int) ≤ _; omega) (by show _ ≤ (16 : Int); omega)
          have hfI30 : fresh (sh, I30, L, R) := by rw [eI30]; exact fresh_I hfI24 c94
          have v32 : I30 136 (m).toNatClampNeg = e := by rw [eI30, up2_ne (fun e => by cases e.1)]; exact v26
          have v33 : I30 138 (m).toNatClampNeg = p := by rw [eI30, up2_ne (fun e => by cases e.1)]; exact v27
          have v34 : I30 139 (m).toNatClampNeg = (-1) := by rw [eI30, up2_ne (fun e => by cases e.1)]; exact v28
          have v35 : I30 140 (m).toNatClampNeg = (-1) := by rw [eI30, up2_ne (fun e => by cases e.1)]; exact v29
          have v36 : I30 94 60 = (m + 1) := by rw [eI30]; exact up2_eq
          refine XW.fam (S' := (103, [(0, .ref 94), (1, .int p), (2, .int n), (3, .int e)], [.ref 94], (sh, I30, L, R))) (M := mr_308) rfl (show mcode 308 102 = some (102, .aload_n 0, 1, 0, 0, 0, _) from rfl) (Or.inl ⟨.ref 94, rfl, rfl⟩) ?_
          refine XW.fam (S' := (106, [(0, .ref 94), (1, .int p), (2, .int n), (3, .int e)], [.int (I30 94 60)], (sh, I30, L, R))) (M := mr_308) rfl (show mcode 308 103 = some (103, .getfield 493, 3, 12, 60, 0, _) from rfl) (Or.inr (Or.inr (Or.inr (Or.inr (Or.inr (Or.inr (Or.inr (Or.inl ⟨_, _, rfl, fl_ldI c94 (by decide) (by decide), rfl⟩)))))))) ?_
          rw [v36]
          refine XW.fam (S' := (107, [(0, .ref 94), (1, .int p), (2, .int n), (3, .int e)], [.int 1, .int (m + 1)], (sh, I30, L, R))) (M := mr_308) rfl (show mcode 308 106 = some (106, .iconst 1, 1, 0, 0, 0, _) from rfl) (Or.inl ⟨.int 1, rfl, rfl⟩) ?_
          refine XW.fam (S' := (108, [(0, .ref 94), (1, .int p), (2, .int n), (3, .int e)], [.int ((m + 1) - 1)], (sh, I30, L, R))) (M := mr_308) rfl (show mcode 308 107 = some (107, .isub, 1, 0, 0, 0, _) from rfl) (Or.inr (Or.inr (Or.inr (Or.inr (Or.inr (Or.inl ⟨_, rfl, rfl⟩)))))) ?_
          refine XW.ret (r := some (.int ((m + 1) - 1))) ⟨⟨.int, rfl, rfl⟩, by decide +kernel⟩ ?_
          refine ⟨?_, Or.inr ⟨?_, ?_, ?_⟩⟩
          · skip
            have hkp : ∀ q k, inm mdSM q k = false → I30 q k = I q k := by
              intro q k h
              rw [eI30, up2_ne (fun e => by rw [e.1, e.2] at h; cases h), eI24, up2_ne (fun e => by rw [e.1] at h; cases h), eI18, up2_ne (fun e => by rw [e.1] at h; cases h), eI13, up2_ne (fun e => by rw [e.1] at h; cases h), eI9, up2_ne (fun e => by rw [e.1] at h; cases h), eI6, up2_ne (fun e => by rw [e.1] at h; cases h)]
            refine ⟨hfI30, ⟨sh, R, hwI30⟩, Or.inr (Or.inr ⟨show okSM I p n e by unfold okSM; omega, by show (I 94 60).toInt < (16 : Int); rw [em]; omega, ?_, ?_, hkp⟩)⟩
            · show some (Value.int _) = some (Value.int (I 94 60 + 0))
              rw [em, decr32, Int32.add_zero]
            · show I30 94 60 = I 94 60 + 1
              rw [em]
              exact v36
          · show I30 94 60 = I 94 60 + 1
            rw [em]
            exact v36
          · have hrw : ∀ k, I30 135 k = I6 135 k := by
              intro k
              rw [eI30, up2_ne (fun e => by cases e.1), eI24, up2_ne (fun e => by cases e.1), eI18, up2_ne (fun e => by cases e.1), eI13, up2_ne (fun e => by cases e.1), eI9, up2_ne (fun e => by cases e.1)]
            refine ⟨?_, fun k hk => ?_⟩
            · show I30 135 (I 94 60).toNatClampNeg = _
              rw [hrw, em, eI6, up2_eq]
            · have hk : ¬ k = (I 94 60).toNatClampNeg := hk
              rw [em] at hk
              show I30 135 k = I 135 k
              rw [hrw, eI6, up2_ne (fun e => hk e.2)]
          · have hrw : ∀ k, I30 136 k = I9 136 k := by
              intro k
              rw [eI30, up2_ne (fun e => by cases e.1), eI24, up2_ne (fun e => by cases e.1), eI18, up2_ne (fun e => by cases e.1), eI13, up2_ne (fun e => by cases e.1)]
            refine ⟨?_, fun k hk => ?_⟩
            · show I30 136 (I 94 60).toNatClampNeg = _
              rw [hrw, em, eI9, up2_eq]
            · have hk : ¬ k = (I 94 60).toNatClampNeg := hk
              rw [em] at hk
              show I30 136 k = I 136 k
              rw [hrw, eI9, up2_ne (fun e => hk e.2), eI6, up2_ne (fun e => by cases e.1)]
        | false =>
          have gk4 : ¬ (¬ (m).toInt = 16) := icF (c := .ne) (a := (m).toInt) (b := 16) rfl (by decide) k4
          refine XW.fam (S' := (39, [(0, .ref 94), (1, .int p), (2, .int n), (3, .int e)], [], (sh, I, L, R))) (M := mr_308) rfl (show mcode 308 36 = some (36, .if_icmp .ne 6, 3, 42, 0, 0, _) from rfl) (Or.inr (Or.inl ⟨39, [], by simp [brn, k4], rfl⟩)) ?_
          refine XW.fam (S' := (41, [(0, .ref 94), (1, .int p), (2, .int n), (3, .int e)], [.int (-3)], (sh, I, L, R))) (M := mr_308) rfl (show mcode 308 39 = some (39, .bipush (-3), 2, 0, 0, 0, _) from rfl) (Or.inl ⟨.int (-3), rfl, rfl⟩) ?_
          refine XW.ret (r := some (.int (-3))) ⟨⟨.int, rfl, rfl⟩, by decide +kernel⟩ ?_
          refine ⟨?_, Or.inl ⟨rfl, fun _ => rfl, fun _ => rfl⟩⟩
          exact ⟨hf, ⟨sh, R, hw⟩, Or.inr (Or.inl ⟨show okSM I p n e by unfold okSM; omega, by show (16 : Int) ≤ (I 94 60).toInt; rw [em]; omega, rfl, rfl⟩)⟩
theorem tc_tellPort5 {d : Nat} {sh : List mE} {I : Nat → Nat → Int32} {L : Nat → Nat → Int64} {R : Nat → Nat → Option Nat} {v u : Int32} (hw : wOK (mkT vV []) (wE sh R) (sh, I, L, R)) (hf : fresh (sh, I, L, R)) (hv : 0 ≤ v.toInt ∧ v.toInt ≤ 2147483) : Tc 181 (d + 1) 0 0 [.ref 75, .int v, .int u] (sh, I, L, R) (fun r w' => Qapr 75 3 3 (¬ told I 77 (I 75 3).toInt v) 77 v mdWC (sh, I, L, R) r w' ∧ R5p 75 3 78 u (sh, I, L, R) w') := by
  have c75 : sh[75]? = some (.inr 9) := hw.1 75 _ rfl
  have c77 : sh[77]? = some (.inl (.int, 3)) := hw.1 77 _ rfl
  have c78 : sh[78]? = some (.inl (.int, 3)) := hw.1 78 _ rfl
  have r75_5 : R 75 5 = some 77 := hw.2.1 75 5 _ rfl
  have r75_6 : R 75 6 = some 78 := hw.2.1 75 6 _ rfl
  have zm3 : ((-3) : Int32).toInt = (-3) := rfl
  have zm1 : ((-1) : Int32).toInt = (-1) := rfl
  have z1 : (1 : Int32).toInt = 1 := rfl
  have z3 : (3 : Int32).toInt = 3 := rfl
  have hmc : 0 ≤ (I 75 3).toInt ∧ (I 75 3).toInt ≤ 3 := hw.2.2.1 75 3
  obtain ⟨m, em⟩ : ∃ m, I 75 3 = m := ⟨_, rfl⟩
  rw [em] at hmc
  refine Tc.of mr_181 rfl (show 3 ≤ mr_181.2.2.2.1 by decide) ?_
  refine XW.fam (S' := (1, [(0, .ref 75), (1, .int v), (2, .int u)], [.ref 75], (sh, I, L, R))) (M := mr_181) rfl (show mcode 181 0 = some (0, .aload_n 0, 1, 0, 0, 0, _) from rfl) (Or.inl ⟨.ref 75, rfl, rfl⟩) ?_
  refine XW.fam (S' := (4, [(0, .ref 75), (1, .int v), (2, .int u)], [.ref 77], (sh, I, L, R))) (M := mr_181) rfl (show mcode 181 1 = some (1, .getfield 15, 3, 9, 5, 0, _) from rfl) (Or.inr (Or.inr (Or.inr (Or.inr (Or.inr (Or.inr (Or.inr (Or.inl ⟨_, _, rfl, fl_ld c75 r75_5 (by decide) (by decide), rfl⟩)))))))) ?_
  refine XW.fam (S' := (5, [(0, .ref 75), (1, .int v), (2, .int u)], [.ref 75, .ref 77], (sh, I, L, R))) (M := mr_181) rfl (show mcode 181 4 = some (4, .aload_n 0, 1, 0, 0, 0, _) from rfl) (Or.inl ⟨.ref 75, rfl, rfl⟩) ?_
  refine XW.fam (S' := (8, [(0, .ref 75), (1, .int v), (2, .int u)], [.int (I 75 3), .ref 77], (sh, I, L, R))) (M := mr_181) rfl (show mcode 181 5 = some (5, .getfield 68, 3, 9, 3, 0, _) from rfl) (Or.inr (Or.inr (Or.inr (Or.inr (Or.inr (Or.inr (Or.inr (Or.inl ⟨_, _, rfl, fl_ldI c75 (by decide) (by decide), rfl⟩)))))))) ?_
  rw [em]
  refine XW.fam (S' := (9, [(0, .ref 75), (1, .int v), (2, .int u)], [.int v, .int m, .ref 77], (sh, I, L, R))) (M := mr_181) rfl (show mcode 181 8 = some (8, .iload_n 1, 1, 0, 0, 0, _) from rfl) (Or.inl ⟨.int v, rfl, rfl⟩) ?_
  refine XW.call (d' := d) (mc' := 0) (ms' := 0) (av := [.ref 77, .int m, .int v]) (rest := []) (M := mr_181) (Ma := mr_180) rfl (show mcode 181 9 = some (9, .invokestatic 64, 3, 180, 0, 0, _) from rfl) rfl (by decide) (by decide) rfl rfl rfl (show 0 ≤ 8 by decide) (tc_toldP (d := d) hw (by omega)) (by omega) (Nat.zero_le _) (Nat.zero_le _) (fun rQ1 wQ1 Q1 => ?_)
  obtain ⟨hQ1, rfl⟩ := Q1
  rcases hQ1 with ⟨rfl, ht⟩ | ⟨rfl, ht⟩
  · skip
    refine XW.fam (S' := (17, [(0, .ref 75), (1, .int v), (2, .int u)], [], (sh, I, L, R))) (M := mr_181) rfl (show mcode 181 12 = some (12, .ifCond .eq 5, 3, 17, 0, 0, _) from rfl) (Or.inr (Or.inl ⟨17, [], rfl, rfl⟩)) ?_
    refine XW.fam (S' := (18, [(0, .ref 75), (1, .int v), (2, .int u)], [.ref 75], (sh, I, L, R))) (M := mr_181) rfl (show mcode 181 17 = some (17, .aload_n 0, 1, 0, 0, 0, _) from rfl) (Or.inl ⟨.ref 75, rfl, rfl⟩) ?_
    refine XW.fam (S' := (21, [(0, .ref 75), (1, .int v), (2, .int u)], [.int (I 75 3)], (sh, I, L, R))) (M := mr_181) rfl (show mcode 181 18 = some (18, .getfield 68, 3, 9, 3, 0, _) from rfl) (Or.inr (Or.inr (Or.inr (Or.inr (Or.inr (Or.inr (Or.inr (Or.inl ⟨_, _, rfl, fl_ldI c75 (by decide) (by decide), rfl⟩)))))))) ?_
    rw [em]
    refine XW.fam (S' := (22, [(0, .ref 75), (1, .int v), (2, .int u)], [.int 3, .int m], (sh, I, L, R))) (M := mr_181) rfl (show mcode 181 21 = some (21, .iconst 3, 1, 0, 0, 0, _) from rfl) (Or.inl ⟨.int 3, rfl, rfl⟩) ?_
    cases k2 : bcmp .lt m 3 with
    | true =>
      have gk2 : (m).toInt < 3 := icT (c := .lt) (a := (m).toInt) (b := 3) rfl (by decide) k2
      refine XW.fam (S' := (28, [(0, .ref 75), (1, .int v), (2, .int u)], [], (sh, I, L, R))) (M := mr_181) rfl (show mcode 181 22 = some (22, .if_icmp .lt 6, 3, 28, 0, 0, _) from rfl) (Or.inr (Or.inl ⟨28, [], by simp [brn, k2], rfl⟩)) ?_
      refine XW.fam (S' := (29, [(0, .ref 75), (1, .int v), (2, .int u)], [.ref 75], (sh, I, L, R))) (M := mr_181) rfl (show mcode 181 28 = some (28, .aload_n 0, 1, 0, 0, 0, _) from rfl) (Or.inl ⟨.ref 75, rfl, rfl⟩) ?_
      refine XW.fam (S' := (32, [(0, .ref 75), (1, .int v), (2, .int u)], [.ref 77], (sh, I, L, R))) (M := mr_181) rfl (show mcode 181 29 = some (29, .getfield 15, 3, 9, 5, 0, _) from rfl) (Or.inr (Or.inr (Or.inr (Or.inr (Or.inr (Or.inr (Or.inr (Or.inl ⟨_, _, rfl, fl_ld c75 r75_5 (by decide) (by decide), rfl⟩)))))))) ?_
      refine XW.fam (S' := (33, [(0, .ref 75), (1, .int v), (2, .int u)], [.ref 75, .ref 77], (sh, I, L, R))) (M := mr_181) rfl (show mcode 181 32 = some (32, .aload_n 0, 1, 0, 0, 0, _) from rfl) (Or.inl ⟨.ref 75, rfl, rfl⟩) ?_
      refine XW.fam (S' := (36, [(0, .ref 75), (1, .int v), (2, .int u)], [.int (I 75 3), .ref 77], (sh, I, L, R))) (M := mr_181) rfl (show mcode 181 33 = some (33, .getfield 68, 3, 9, 3, 0, _) from rfl) (Or.inr (Or.inr (Or.inr (Or.inr (Or.inr (Or.inr (Or.inr (Or.inl ⟨_, _, rfl, fl_ldI c75 (by decide) (by decide), rfl⟩)))))))) ?_
      rw [em]
      refine XW.fam (S' := (37, [(0, .ref 75), (1, .int v), (2, .int u)], [.int v, .int m, .ref 77], (sh, I, L, R))) (M := mr_181) rfl (show mcode 181 36 = some (36, .iload_n 1, 1, 0, 0, 0, _) from rfl) (Or.inl ⟨.int v, rfl, rfl⟩) ?_
      have hin3 : inR m 3 = true := inR_of (by omega) (by omega)
      obtain ⟨I4, eI4⟩ : ∃ X, X = up2 I 77 (m).toNatClampNeg v := ⟨_, rfl⟩
      refine XW.fam (S' := (38, [(0, .ref 75), (1, .int v), (2, .int u)], [], (sh, I4, L, R))) (M := mr_181) rfl (show mcode 181 37 = some (37, .iastore, 1, 0, 0, 0, _) from rfl) (Or.inr (Or.inr (Or.inr (Or.inl ⟨_, _, by rw [eI4]; exact sta_i c77 hin3, rfl⟩)))) ?_
      have hwI4 : wOK (mkT vV []) (wE sh R) (sh, I4, L, R) := by rw [eI4]; exact wOK_u2 (q := 77) (k := (m).toNatClampNeg) (x := v) wE_put hw rfl (by show (0 : Int) ≤ _; omega) (by show _ ≤ (2147483 : Int); omega)
      have hfI4 : fresh (sh, I4, L, R) := by rw [eI4]; exact fresh_I hf c77
      have v5 : I4 75 3 = m := by rw [eI4, up2_ne (fun e => by cases e.1)]; exact em
      have v6 : I4 77 (m).toNatClampNeg = v := by rw [eI4]; exact up2_eq
      refine XW.fam (S' := (39, [(0, .ref 75), (1, .int v), (2, .int u)], [.ref 75], (sh, I4, L, R))) (M := mr_181) rfl (show mcode 181 38 = some (38, .aload_n 0, 1, 0, 0, 0, _) from rfl) (Or.inl ⟨.ref 75, rfl, rfl⟩) ?_
      refine XW.fam (S' := (42, [(0, .ref 75), (1, .int v), (2, .int u)], [.ref 78], (sh, I4, L, R))) (M := mr_181) rfl (show mcode 181 39 = some (39, .getfield 18, 3, 9, 6, 0, _) from rfl) (Or.inr (Or.inr (Or.inr (Or.inr (Or.inr (Or.inr (Or.inr (Or.inl ⟨_, _, rfl, fl_ld c75 r75_6 (by decide) (by decide), rfl⟩)))))))) ?_
      refine XW.fam (S' := (43, [(0, .ref 75), (1, .int v), (2, .int u)], [.ref 75, .ref 78], (sh, I4, L, R))) (M := mr_181) rfl (show mcode 181 42 = some (42, .aload_n 0, 1, 0, 0, 0, _) from rfl) (Or.inl ⟨.ref 75, rfl, rfl⟩) ?_
      refine XW.fam (S' := (46, [(0, .ref 75), (1, .int v), (2, .int u)], [.int (I4 75 3), .ref 78], (sh, I4, L, R))) (M := mr_181) rfl (show mcode 181 43 = some (43, .getfield 68, 3, 9, 3, 0, _) from rfl) (Or.inr (Or.inr (Or.inr (Or.inr (Or.inr (Or.inr (Or.inr (Or.inl ⟨_, _, rfl, fl_ldI c75 (by decide) (by decide), rfl⟩)))))))) ?_
      rw [v5]
      refine XW.fam (S' := (47, [(0, .ref 75), (1, .int v), (2, .int u)], [.int u, .int m, .ref 78], (sh, I4, L, R))) (M := mr_181) rfl (show mcode 181 46 = some (46, .iload_n 2, 1, 0, 0, 0, _) from rfl) (Or.inl ⟨.int u, rfl, rfl⟩) ?_
      have hin7 : inR m 3 = true := inR_of (by omega) (by omega)
      obtain ⟨I8, eI8⟩ : ∃ X, X = up2 I4 78 (m).toNatClampNeg u := ⟨_, rfl⟩
      refine XW.fam (S' := (48, [(0, .ref 75), (1, .int v), (2, .int u)], [], (sh, I8, L, R))) (M := mr_181) rfl (show mcode 181 47 = some (47, .iastore, 1, 0, 0, 0, _) from rfl) (Or.inr (Or.inr (Or.inr (Or.inl ⟨_, _, by rw [eI8]; exact sta_i c78 hin7, rfl⟩)))) ?_
      have xb := i32b (u)
      unfold lo32 hi32 at xb
      have hwI8 : wOK (mkT vV []) (wE sh R) (sh, I8, L, R) := by rw [eI8]; exact wOK_u2 (q := 78) (k := (m).toNatClampNeg) (x := u) wE_put hwI4 rfl (by show ((-2147483648) : Int) ≤ _; omega) (by show _ ≤ (2147483647 : Int); omega)
      have hfI8 : fresh (sh, I8, L, R) := by rw [eI8]; exact fresh_I hfI4 c78
      have v9 : I8 75 3 = m := by rw [eI8, up2_ne (fun e => by cases e.1)]; exact v5
      have v10 : I8 77 (m).toNatClampNeg = v := by rw [eI8, up2_ne (fun e => by cases e.1)]; exact v6
      have v11 : I8 78 (m).toNatClampNeg = u := by rw [eI8]; exact up2_eq
      refine XW.fam (S' := (49, [(0, .ref 75), (1, .int v), (2, .int u)], [.ref 75], (sh, I8, L, R))) (M := mr_181) rfl (show mcode 181 48 = some (48, .aload_n 0, 1, 0, 0, 0, _) from rfl) (Or.inl ⟨.ref 75, rfl, rfl⟩) ?_
      refine XW.fam (S' := (50, [(0, .ref 75), (1, .int v), (2, .int u)], [.ref 75, .ref 75], (sh, I8, L, R))) (M := mr_181) rfl (show mcode 181 49 = some (49, .dup, 1, 0, 0, 0, _) from rfl) (Or.inr (Or.inr (Or.inr (Or.inr (Or.inr (Or.inl ⟨_, rfl, rfl⟩)))))) ?_
      refine XW.fam (S' := (53, [(0, .ref 75), (1, .int v), (2, .int u)], [.int (I8 75 3), .ref 75], (sh, I8, L, R))) (M := mr_181) rfl (show mcode 181 50 = some (50, .getfield 68, 3, 9, 3, 0, _) from rfl) (Or.inr (Or.inr (Or.inr (Or.inr (Or.inr (Or.inr (Or.inr (Or.inl ⟨_, _, rfl, fl_ldI c75 (by decide) (by decide), rfl⟩)))))))) ?_
      rw [v9]
      refine XW.fam (S' := (54, [(0, .ref 75), (1, .int v), (2, .int u)], [.int 1, .int m, .ref 75], (sh, I8, L, R))) (M := mr_181) rfl (show mcode 181 53 = some (53, .iconst 1, 1, 0, 0, 0, _) from rfl) (Or.inl ⟨.int 1, rfl, rfl⟩) ?_
      refine XW.fam (S' := (55, [(0, .ref 75), (1, .int v), (2, .int u)], [.int (m + 1), .ref 75], (sh, I8, L, R))) (M := mr_181) rfl (show mcode 181 54 = some (54, .iadd, 1, 0, 0, 0, _) from rfl) (Or.inr (Or.inr (Or.inr (Or.inr (Or.inr (Or.inl ⟨_, rfl, rfl⟩)))))) ?_
      obtain ⟨I12, eI12⟩ : ∃ X, X = up2 I8 75 3 (m + 1) := ⟨_, rfl⟩
      refine XW.fam (S' := (58, [(0, .ref 75), (1, .int v), (2, .int u)], [], (sh, I12, L, R))) (M := mr_181) rfl (show mcode 181 55 = some (55, .putfield 68, 3, 9, 3, 0, _) from rfl) (Or.inr (Or.inr (Or.inr (Or.inr (Or.inr (Or.inr (Or.inr (Or.inr (Or.inl ⟨_, _, _, rfl, by rw [eI12]; exact stf_I c75 (by decide) (by decide) (by decide), rfl⟩))))))))) ?_
      have xi := inc32 (m := m) (by omega) (by omega)
      have hwI12 : wOK (mkT vV []) (wE sh R) (sh, I12, L, R) := by rw [eI12]; exact wOK_u2 (q := 75) (k := 3) (x := (m + 1)) wE_put hwI8 rfl (by show (0 : Int) ≤ _; omega) (by show _ ≤ (3 : Int); omega)
      have hfI12 : fresh (sh, I12, L, R) := by rw [eI12]; exact fresh_I hfI8 c75
      have v14 : I12 77 (m).toNatClampNeg = v := by rw [eI12, up2_ne (fun e => by cases e.1)]; exact v10
      have v15 : I12 78 (m).toNatClampNeg = u := by rw [eI12, up2_ne (fun e => by cases e.1)]; exact v11
      have v16 : I12 75 3 = (m + 1) := by rw [eI12]; exact up2_eq
      refine XW.fam (S' := (59, [(0, .ref 75), (1, .int v), (2, .int u)], [.ref 75], (sh, I12, L, R))) (M := mr_181) rfl (show mcode 181 58 = some (58, .aload_n 0, 1, 0, 0, 0, _) from rfl) (Or.inl ⟨.ref 75, rfl, rfl⟩) ?_
      refine XW.fam (S' := (62, [(0, .ref 75), (1, .int v), (2, .int u)], [.int (I12 75 3)], (sh, I12, L, R))) (M := mr_181) rfl (show mcode 181 59 = some (59, .getfield 68, 3, 9, 3, 0, _) from rfl) (Or.inr (Or.inr (Or.inr (Or.inr (Or.inr (Or.inr (Or.inr (Or.inl ⟨_, _, rfl, fl_ldI c75 (by decide) (by decide), rfl⟩)))))))) ?_
      rw [v16]
      refine XW.ret (r := some (.int (m + 1))) ⟨⟨.int, rfl, rfl⟩, by decide +kernel⟩ ?_
      refine ⟨?_, Or.inr ⟨?_, ?_⟩⟩
      · skip
        have hkp : ∀ q k, inm mdWC q k = false → I12 q k = I q k := by
          intro q k h
          rw [eI12, up2_ne (fun e => by rw [e.1, e.2] at h; cases h), eI8, up2_ne (fun e => by rw [e.1] at h; cases h), eI4, up2_ne (fun e => by rw [e.1] at h; cases h)]
        have hrw : ∀ k, I12 77 k = I4 77 k := by
          intro k
          rw [eI12, up2_ne (fun e => by cases e.1), eI8, up2_ne (fun e => by cases e.1)]
        refine ⟨hfI12, ⟨sh, R, hwI12⟩, Or.inr (Or.inr ⟨ht, by show (I 75 3).toInt < (3 : Int); rw [em]; omega, ?_, ?_, ?_, fun k hk => ?_, hkp⟩)⟩
        · show some (Value.int _) = some (Value.int (I 75 3 + 1))
          rw [em]
        · show I12 75 3 = I 75 3 + 1
          rw [em]
          exact v16
        · show I12 77 (I 75 3).toNatClampNeg = _
          rw [hrw, em, eI4, up2_eq]
        · have hk : ¬ k = (I 75 3).toNatClampNeg := hk
          rw [em] at hk
          show I12 77 k = I 77 k
          rw [hrw, eI4, up2_ne (fun e => hk e.2)]
      · show I12 75 3 = I 75 3 + 1
        rw [em]
        exact v16
      · have hrw : ∀ k, I12 78 k = I8 78 k := by
          intro k
          rw [eI12, up2_ne (fun e => by cases e.1)]
        refine ⟨?_, fun k hk => ?_⟩
        · show I12 78 (I 75 3).toNatClampNeg = _
          rw [hrw, em, eI8, up2_eq]
        · have hk : ¬ k = (I 75 3).toNatClampNeg := hk
          rw [em] at hk
          show I12 78 k = I 78 k
          rw [hrw, eI8, up2_ne (fun e => hk e.2), eI4, up2_ne (fun e => by cases e.1)]
    | false =>
      have gk2 : ¬ ((m).toInt < 3) := icF (c := .lt) (a := (m).toInt) (b := 3) rfl (by decide) k2
      refine XW.fam (S' := (25, [(0, .ref 75), (1, .int v), (2, .int u)], [], (sh, I, L, R))) (M := mr_181) rfl (show mcode 181 22 = some (22, .if_icmp .lt 6, 3, 28, 0, 0, _) from rfl) (Or.inr (Or.inl ⟨25, [], by simp [brn, k2], rfl⟩)) ?_
      refine XW.fam (S' := (27, [(0, .ref 75), (1, .int v), (2, .int u)], [.int (-3)], (sh, I, L, R))) (M := mr_181) rfl (show mcode 181 25 = some (25, .bipush (-3), 2, 0, 0, 0, _) from rfl) (Or.inl ⟨.int (-3), rfl, rfl⟩) ?_
      refine XW.ret (r := some (.int (-3))) ⟨⟨.int, rfl, rfl⟩, by decide +kernel⟩ ?_
      refine ⟨?_, Or.inl ⟨rfl, fun _ => rfl⟩⟩
      exact ⟨hf, ⟨sh, R, hw⟩, Or.inr (Or.inl ⟨ht, by show (3 : Int) ≤ (I 75 3).toInt; rw [em]; omega, rfl, rfl⟩)⟩
  · skip
    refine XW.fam (S' := (15, [(0, .ref 75), (1, .int v), (2, .int u)], [], (sh, I, L, R))) (M := mr_181) rfl (show mcode 181 12 = some (12, .ifCond .eq 5, 3, 17, 0, 0, _) from rfl) (Or.inr (Or.inl ⟨15, [], rfl, rfl⟩)) ?_
    refine XW.fam (S' := (16, [(0, .ref 75), (1, .int v), (2, .int u)], [.int (-1)], (sh, I, L, R))) (M := mr_181) rfl (show mcode 181 15 = some (15, .iconst (-1), 1, 0, 0, 0, _) from rfl) (Or.inl ⟨.int (-1), rfl, rfl⟩) ?_
    refine XW.ret (r := some (.int (-1))) ⟨⟨.int, rfl, rfl⟩, by decide +kernel⟩ ?_
    refine ⟨?_, Or.inl ⟨rfl, fun _ => rfl⟩⟩
    exact ⟨hf, ⟨sh, R, hw⟩, Or.inl ⟨fun q => q ht, rfl, rfl⟩⟩
theorem tc_tell5 {d : Nat} {sh : List mE} {I : Nat → Nat → Int32} {L : Nat → Nat → Int64} {R : Nat → Nat → Option Nat} {sort v : Int32} (hw : wOK (mkT vV []) (wE sh R) (sh, I, L, R)) (hf : fresh (sh, I, L, R)) : Tc 178 (d + 2) 0 0 [.ref 75, .int sort, .int v] (sh, I, L, R) (fun r w' => QTC sort v (sh, I, L, R) r w' ∧ R5p 75 3 78 (v - v / 1000 * 1000) (sh, I, L, R) w') := by
  have c1 : sh[1]? = some (.inr 1) := hw.1 1 _ rfl
  have c53 : sh[53]? = some (.inr 7) := hw.1 53 _ rfl
  have c75 : sh[75]? = some (.inr 9) := hw.1 75 _ rfl
  have r75_0 : R 75 0 = some 1 := hw.2.1 75 0 _ rfl
  have r75_1 : R 75 1 = some 53 := hw.2.1 75 1 _ rfl
  have zm1 : ((-1) : Int32).toInt = (-1) := rfl
  have z0 : (0 : Int32).toInt = 0 := rfl
  have z1 : (1 : Int32).toInt = 1 := rfl
  have z1000 : (1000 : Int32).toInt = 1000 := rfl
  have hsh : 0 ≤ (I 53 3).toInt ∧ (I 53 3).toInt ≤ 16 := hw.2.2.1 53 3
  have hm : 0 ≤ (I 1 1).toInt ∧ (I 1 1).toInt ≤ 20 := hw.2.2.1 1 1
  refine Tc.of mr_178 rfl (show 3 ≤ mr_178.2.2.2.1 by decide) ?_
  refine XW.fam (S' := (1, [(0, .ref 75), (1, .int sort), (2, .int v)], [.int sort], (sh, I, L, R))) (M := mr_178) rfl (show mcode 178 0 = some (0, .iload_n 1, 1, 0, 0, 0, _) from rfl) (Or.inl ⟨.int sort, rfl, rfl⟩) ?_
  cases k1 : bcmp .ne sort 0 with
  | true =>
    have gk1 : ¬ (sort).toInt = 0 := icT (c := .ne) (a := (sort).toInt) (b := 0) rfl (by decide) k1
    refine XW.fam (S' := (25, [(0, .ref 75), (1, .int sort), (2, .int v)], [], (sh, I, L, R))) (M := mr_178) rfl (show mcode 178 1 = some (1, .ifCond .ne 24, 3, 25, 0, 0, _) from rfl) (Or.inr (Or.inl ⟨25, [], by simp [brn, k1], rfl⟩)) ?_
    refine XW.fam (S' := (26, [(0, .ref 75), (1, .int sort), (2, .int v)], [.int sort], (sh, I, L, R))) (M := mr_178) rfl (show mcode 178 25 = some (25, .iload_n 1, 1, 0, 0, 0, _) from rfl) (Or.inl ⟨.int sort, rfl, rfl⟩) ?_
    refine XW.fam (S' := (27, [(0, .ref 75), (1, .int sort), (2, .int v)], [.int 1, .int sort], (sh, I, L, R))) (M := mr_178) rfl (show mcode 178 26 = some (26, .iconst 1, 1, 0, 0, 0, _) from rfl) (Or.inl ⟨.int 1, rfl, rfl⟩) ?_
    cases k2 : bcmp .ne sort 1 with
    | true =>
      have gk2 : ¬ (sort).toInt = 1 := icT (c := .ne) (a := (sort).toInt) (b := 1) rfl (by decide) k2
      refine XW.fam (S' := (49, [(0, .ref 75), (1, .int sort), (2, .int v)], [], (sh, I, L, R))) (M := mr_178) rfl (show mcode 178 27 = some (27, .if_icmp .ne 22, 3, 49, 0, 0, _) from rfl) (Or.inr (Or.inl ⟨49, [], by simp [brn, k2], rfl⟩)) ?_
      refine XW.fam (S' := (50, [(0, .ref 75), (1, .int sort), (2, .int v)], [.int (-1)], (sh, I, L, R))) (M := mr_178) rfl (show mcode 178 49 = some (49, .iconst (-1), 1, 0, 0, 0, _) from rfl) (Or.inl ⟨.int (-1), rfl, rfl⟩) ?_
      refine XW.ret (r := some (.int (-1))) ⟨⟨.int, rfl, rfl⟩, by decide +kernel⟩ ?_
      refine ⟨?_, Or.inl ⟨rfl, fun _ => rfl⟩⟩
      exact Or.inr (Or.inr ⟨by omega, fun q => by omega, hf, ⟨sh, R, hw⟩, rfl, rfl⟩)
    | false =>
      have gk2 : ¬ (¬ (sort).toInt = 1) := icF (c := .ne) (a := (sort).toInt) (b := 1) rfl (by decide) k2
      refine XW.fam (S' := (30, [(0, .ref 75), (1, .int sort), (2, .int v)], [], (sh, I, L, R))) (M := mr_178) rfl (show mcode 178 27 = some (27, .if_icmp .ne 22, 3, 49, 0, 0, _) from rfl) (Or.inr (Or.inl ⟨30, [], by simp [brn, k2], rfl⟩)) ?_
      refine XW.fam (S' := (31, [(0, .ref 75), (1, .int sort), (2, .int v)], [.int v], (sh, I, L, R))) (M := mr_178) rfl (show mcode 178 30 = some (30, .iload_n 2, 1, 0, 0, 0, _) from rfl) (Or.inl ⟨.int v, rfl, rfl⟩) ?_
      cases k3 : bcmp .lt v 0 with
      | true =>
        have gk3 : (v).toInt < 0 := icT (c := .lt) (a := (v).toInt) (b := 0) rfl (by decide) k3
        refine XW.fam (S' := (49, [(0, .ref 75), (1, .int sort), (2, .int v)], [], (sh, I, L, R))) (M := mr_178) rfl (show mcode 178 31 = some (31, .ifCond .lt 18, 3, 49, 0, 0, _) from rfl) (Or.inr (Or.inl ⟨49, [], by simp [brn, k3], rfl⟩)) ?_
        refine XW.fam (S' := (50, [(0, .ref 75), (1, .int sort), (2, .int v)], [.int (-1)], (sh, I, L, R))) (M := mr_178) rfl (show mcode 178 49 = some (49, .iconst (-1), 1, 0, 0, 0, _) from rfl) (Or.inl ⟨.int (-1), rfl, rfl⟩) ?_
        refine XW.ret (r := some (.int (-1))) ⟨⟨.int, rfl, rfl⟩, by decide +kernel⟩ ?_
        refine ⟨?_, Or.inl ⟨rfl, fun _ => rfl⟩⟩
        exact Or.inr (Or.inr ⟨by omega, fun q => by omega, hf, ⟨sh, R, hw⟩, rfl, rfl⟩)
      | false =>
        have gk3 : ¬ ((v).toInt < 0) := icF (c := .lt) (a := (v).toInt) (b := 0) rfl (by decide) k3
        refine XW.fam (S' := (34, [(0, .ref 75), (1, .int sort), (2, .int v)], [], (sh, I, L, R))) (M := mr_178) rfl (show mcode 178 31 = some (31, .ifCond .lt 18, 3, 49, 0, 0, _) from rfl) (Or.inr (Or.inl ⟨34, [], by simp [brn, k3], rfl⟩)) ?_
        refine XW.fam (S' := (35, [(0, .ref 75), (1, .int sort), (2, .int v)], [.ref 75], (sh, I, L, R))) (M := mr_178) rfl (show mcode 178 34 = some (34, .aload_n 0, 1, 0, 0, 0, _) from rfl) (Or.inl ⟨.ref 75, rfl, rfl⟩) ?_
        refine XW.fam (S' := (38, [(0, .ref 75), (1, .int sort), (2, .int v)], [.ref 1], (sh, I, L, R))) (M := mr_178) rfl (show mcode 178 35 = some (35, .getfield 33, 3, 9, 0, 0, _) from rfl) (Or.inr (Or.inr (Or.inr (Or.inr (Or.inr (Or.inr (Or.inr (Or.inl ⟨_, _, rfl, fl_ld c75 r75_0 (by decide) (by decide), rfl⟩)))))))) ?_
        refine XW.fam (S' := (39, [(0, .ref 75), (1, .int sort), (2, .int v)], [.int v, .ref 1], (sh, I, L, R))) (M := mr_178) rfl (show mcode 178 38 = some (38, .iload_n 2, 1, 0, 0, 0, _) from rfl) (Or.inl ⟨.int v, rfl, rfl⟩) ?_
        refine XW.fam (S' := (42, [(0, .ref 75), (1, .int sort), (2, .int v)], [.int 1000, .int v, .ref 1], (sh, I, L, R))) (M := mr_178) rfl (show mcode 178 39 = some (39, .sipush 1000, 3, 0, 0, 0, _) from rfl) (Or.inl ⟨.int 1000, rfl, rfl⟩) ?_
        refine XW.fam (S' := (43, [(0, .ref 75), (1, .int sort), (2, .int v)], [.int (v / 1000), .ref 1], (sh, I, L, R))) (M := mr_178) rfl (show mcode 178 42 = some (42, .idiv, 1, 0, 0, 0, _) from rfl) (Or.inr (Or.inr (Or.inr (Or.inr (Or.inr (Or.inl ⟨_, stk_bin (by simp only [ibin]; rw [if_neg (by decide)]), rfl⟩)))))) ?_
        refine XW.call (d' := d + 1) (mc' := 0) (ms' := 0) (av := [.ref 1, .int (v / 1000)]) (rest := []) (M := mr_178) (Ma := mr_128) rfl (show mcode 178 43 = some (43, .invokevirtual 51, 3, 128, 0, 0, _) from rfl) rfl (by decide) (by decide) ⟨rfl, 1, _, rfl, c1⟩ rfl rfl (show 0 ≤ 8 by decide) (tc_isPoC (d := d) hw) (by omega) (Nat.zero_le _) (Nat.zero_le _) (fun rQ4 wQ4 Q4 => ?_)
        obtain ⟨hQ4, rfl⟩ := Q4
        rcases hQ4 with ⟨rfl, gQ4⟩ | ⟨rfl, gQ4⟩
        · skip
          refine XW.fam (S' := (49, [(0, .ref 75), (1, .int sort), (2, .int v)], [], (sh, I, L, R))) (M := mr_178) rfl (show mcode 178 46 = some (46, .ifCond .ne 5, 3, 51, 0, 0, _) from rfl) (Or.inr (Or.inl ⟨49, [], rfl, rfl⟩)) ?_
          refine XW.fam (S' := (50, [(0, .ref 75), (1, .int sort), (2, .int v)], [.int (-1)], (sh, I, L, R))) (M := mr_178) rfl (show mcode 178 49 = some (49, .iconst (-1), 1, 0, 0, 0, _) from rfl) (Or.inl ⟨.int (-1), rfl, rfl⟩) ?_
          refine XW.ret (r := some (.int (-1))) ⟨⟨.int, rfl, rfl⟩, by decide +kernel⟩ ?_
          refine ⟨?_, Or.inl ⟨rfl, fun _ => rfl⟩⟩
          exact Or.inr (Or.inl ⟨by omega, by omega, hf, ⟨sh, R, hw⟩, Or.inl ⟨fun q => by have q1 : okWC I v := q.1; unfold okWC at q1; omega, rfl, rfl⟩⟩)
        · skip
          refine XW.fam (S' := (51, [(0, .ref 75), (1, .int sort), (2, .int v)], [], (sh, I, L, R))) (M := mr_178) rfl (show mcode 178 46 = some (46, .ifCond .ne 5, 3, 51, 0, 0, _) from rfl) (Or.inr (Or.inl ⟨51, [], rfl, rfl⟩)) ?_
          refine XW.fam (S' := (52, [(0, .ref 75), (1, .int sort), (2, .int v)], [.ref 75], (sh, I, L, R))) (M := mr_178) rfl (show mcode 178 51 = some (51, .aload_n 0, 1, 0, 0, 0, _) from rfl) (Or.inl ⟨.ref 75, rfl, rfl⟩) ?_
          refine XW.fam (S' := (53, [(0, .ref 75), (1, .int sort), (2, .int v)], [.int v, .ref 75], (sh, I, L, R))) (M := mr_178) rfl (show mcode 178 52 = some (52, .iload_n 2, 1, 0, 0, 0, _) from rfl) (Or.inl ⟨.int v, rfl, rfl⟩) ?_
          refine XW.fam (S' := (56, [(0, .ref 75), (1, .int sort), (2, .int v)], [.int 1000, .int v, .ref 75], (sh, I, L, R))) (M := mr_178) rfl (show mcode 178 53 = some (53, .sipush 1000, 3, 0, 0, 0, _) from rfl) (Or.inl ⟨.int 1000, rfl, rfl⟩) ?_
          refine XW.fam (S' := (57, [(0, .ref 75), (1, .int sort), (2, .int v)], [.int (v / 1000), .ref 75], (sh, I, L, R))) (M := mr_178) rfl (show mcode 178 56 = some (56, .idiv, 1, 0, 0, 0, _) from rfl) (Or.inr (Or.inr (Or.inr (Or.inr (Or.inr (Or.inl ⟨_, stk_bin (by simp only [ibin]; rw [if_neg (by decide)]), rfl⟩)))))) ?_
          refine XW.fam (S' := (58, [(0, .ref 75), (1, .int sort), (2, .int v)], [.int v, .int (v / 1000), .ref 75], (sh, I, L, R))) (M := mr_178) rfl (show mcode 178 57 = some (57, .iload_n 2, 1, 0, 0, 0, _) from rfl) (Or.inl ⟨.int v, rfl, rfl⟩) ?_
          refine XW.fam (S' := (61, [(0, .ref 75), (1, .int sort), (2, .int v)], [.int 1000, .int v, .int (v / 1000), .ref 75], (sh, I, L, R))) (M := mr_178) rfl (show mcode 178 58 = some (58, .sipush 1000, 3, 0, 0, 0, _) from rfl) (Or.inl ⟨.int 1000, rfl, rfl⟩) ?_
          refine XW.fam (S' := (62, [(0, .ref 75), (1, .int sort), (2, .int v)], [.int (v - v / 1000 * 1000), .int (v / 1000), .ref 75], (sh, I, L, R))) (M := mr_178) rfl (show mcode 178 61 = some (61, .irem, 1, 0, 0, 0, _) from rfl) (Or.inr (Or.inr (Or.inr (Or.inr (Or.inr (Or.inl ⟨_, stk_bin (by simp only [ibin]; rw [if_neg (by decide)]), rfl⟩)))))) ?_
          have xd := dv1000 (x := v) (by omega)
          have xv : v.toInt ≤ 2147483647 := by have h := i32b v; unfold lo32 hi32 at h; omega
          refine XW.call (d' := d + 1) (mc' := 0) (ms' := 0) (av := [.ref 75, .int (v / 1000), .int (v - v / 1000 * 1000)]) (rest := []) (M := mr_178) (Ma := mr_181) rfl (show mcode 178 62 = some (62, .invokevirtual 56, 3, 181, 0, 0, _) from rfl) rfl (by decide) (by decide) ⟨rfl, 75, _, rfl, c75⟩ rfl rfl (show 0 ≤ 8 by decide) (tc_tellPort5 (d := d) hw hf (by omega)) (by omega) (Nat.zero_le _) (Nat.zero_le _) (fun rQ5 wQ5 Q5 => ?_)
          have Q5b := Qapr_ok (ok' := okWC I v ∧ ¬ told I 77 (I 75 3).toInt (v / 1000)) ⟨fun q => ⟨by unfold okWC; omega, q⟩, fun q => q.2⟩ Q5.1
          obtain ⟨yQ5, eyQ5⟩ := Qapr_int Q5.1
          subst eyQ5
          refine XW.ret (r := some (.int yQ5)) ⟨⟨.int, rfl, rfl⟩, by decide +kernel⟩ ?_
          refine ⟨?_, Q5.2⟩
          exact Or.inr (Or.inl ⟨by omega, by omega, Q5b⟩)
  | false =>
    have gk1 : ¬ (¬ (sort).toInt = 0) := icF (c := .ne) (a := (sort).toInt) (b := 0) rfl (by decide) k1
    refine XW.fam (S' := (4, [(0, .ref 75), (1, .int sort), (2, .int v)], [], (sh, I, L, R))) (M := mr_178) rfl (show mcode 178 1 = some (1, .ifCond .ne 24, 3, 25, 0, 0, _) from rfl) (Or.inr (Or.inl ⟨4, [], by simp [brn, k1], rfl⟩)) ?_
    refine XW.fam (S' := (5, [(0, .ref 75), (1, .int sort), (2, .int v)], [.ref 75], (sh, I, L, R))) (M := mr_178) rfl (show mcode 178 4 = some (4, .aload_n 0, 1, 0, 0, 0, _) from rfl) (Or.inl ⟨.ref 75, rfl, rfl⟩) ?_
    refine XW.fam (S' := (8, [(0, .ref 75), (1, .int sort), (2, .int v)], [.ref 53], (sh, I, L, R))) (M := mr_178) rfl (show mcode 178 5 = some (5, .getfield 37, 3, 9, 1, 0, _) from rfl) (Or.inr (Or.inr (Or.inr (Or.inr (Or.inr (Or.inr (Or.inr (Or.inl ⟨_, _, rfl, fl_ld c75 r75_1 (by decide) (by decide), rfl⟩)))))))) ?_
    refine XW.fam (S' := (9, [(0, .ref 75), (1, .int sort), (2, .int v)], [.int v, .ref 53], (sh, I, L, R))) (M := mr_178) rfl (show mcode 178 8 = some (8, .iload_n 2, 1, 0, 0, 0, _) from rfl) (Or.inl ⟨.int v, rfl, rfl⟩) ?_
    refine XW.call (d' := d) (mc' := 0) (ms' := 0) (av := [.ref 53, .int v]) (rest := []) (M := mr_178) (Ma := mr_62) rfl (show mcode 178 9 = some (9, .invokevirtual 41, 3, 62, 0, 0, _) from rfl) rfl (by decide) (by decide) ⟨rfl, 53, _, rfl, c53⟩ rfl rfl (show 0 ≤ 8 by decide) (tc_isShC (d := d) hw) (by omega) (Nat.zero_le _) (Nat.zero_le _) (fun rQ6 wQ6 Q6 => ?_)
    obtain ⟨hQ6, rfl⟩ := Q6
    rcases hQ6 with ⟨rfl, gQ6⟩ | ⟨rfl, gQ6⟩
    · skip
      refine XW.fam (S' := (23, [(0, .ref 75), (1, .int sort), (2, .int v)], [], (sh, I, L, R))) (M := mr_178) rfl (show mcode 178 12 = some (12, .ifCond .eq 11, 3, 23, 0, 0, _) from rfl) (Or.inr (Or.inl ⟨23, [], rfl, rfl⟩)) ?_
      refine XW.fam (S' := (24, [(0, .ref 75), (1, .int sort), (2, .int v)], [.int (-1)], (sh, I, L, R))) (M := mr_178) rfl (show mcode 178 23 = some (23, .iconst (-1), 1, 0, 0, 0, _) from rfl) (Or.inl ⟨.int (-1), rfl, rfl⟩) ?_
      refine XW.ret (r := some (.int (-1))) ⟨⟨.int, rfl, rfl⟩, by decide +kernel⟩ ?_
      refine ⟨?_, Or.inl ⟨rfl, fun _ => rfl⟩⟩
      exact Or.inl ⟨by omega, hf, ⟨sh, R, hw⟩, Or.inl ⟨fun q => by have q1 : okVC I v := q.1; unfold okVC at q1; omega, rfl, rfl⟩⟩
    · skip
      refine XW.fam (S' := (15, [(0, .ref 75), (1, .int sort), (2, .int v)], [], (sh, I, L, R))) (M := mr_178) rfl (show mcode 178 12 = some (12, .ifCond .eq 11, 3, 23, 0, 0, _) from rfl) (Or.inr (Or.inl ⟨15, [], rfl, rfl⟩)) ?_
      refine XW.fam (S' := (16, [(0, .ref 75), (1, .int sort), (2, .int v)], [.ref 75], (sh, I, L, R))) (M := mr_178) rfl (show mcode 178 15 = some (15, .aload_n 0, 1, 0, 0, 0, _) from rfl) (Or.inl ⟨.ref 75, rfl, rfl⟩) ?_
      refine XW.fam (S' := (17, [(0, .ref 75), (1, .int sort), (2, .int v)], [.int v, .ref 75], (sh, I, L, R))) (M := mr_178) rfl (show mcode 178 16 = some (16, .iload_n 2, 1, 0, 0, 0, _) from rfl) (Or.inl ⟨.int v, rfl, rfl⟩) ?_
      refine XW.call (d' := d + 1) (mc' := 0) (ms' := 0) (av := [.ref 75, .int v]) (rest := []) (M := mr_178) (Ma := mr_179) rfl (show mcode 178 17 = some (17, .invokevirtual 47, 3, 179, 0, 0, _) from rfl) rfl (by decide) (by decide) ⟨rfl, 75, _, rfl, c75⟩ rfl rfl (show 0 ≤ 8 by decide) (tc_tellShip (d := d) hw hf (by omega)) (by omega) (Nat.zero_le _) (Nat.zero_le _) (fun rQ7 wQ7 Q7 => ?_)
      have Q7b := Qapr_ok (ok' := okVC I v ∧ ¬ told I 76 (I 75 2).toInt v) ⟨fun q => ⟨by unfold okVC; omega, q⟩, fun q => q.2⟩ Q7
      obtain ⟨yQ7, eyQ7⟩ := Qapr_int Q7
      subst eyQ7
      refine XW.fam (S' := (24, [(0, .ref 75), (1, .int sort), (2, .int v)], [.int yQ7], wQ7)) (M := mr_178) rfl (show mcode 178 20 = some (20, .goto 4, 3, 24, 0, 0, _) from rfl) (Or.inr (Or.inl ⟨24, [.int yQ7], rfl, rfl⟩)) ?_
      refine XW.ret (r := some (.int yQ7)) ⟨⟨.int, rfl, rfl⟩, by decide +kernel⟩ ?_
      refine ⟨?_, Or.inl ⟨Qapr_keep Q7 75 3 rfl, fun k => Qapr_keep Q7 78 k rfl⟩⟩
      exact Or.inl ⟨by omega, Q7b⟩
theorem tc_turnC5 {d : Nat} {sh : List mE} {R : Nat → Nat → Option Nat} {w : mW} {sort v : Int32} (hw : wOK (mkT vV []) (wE sh R) w) (hf : fresh w) : Tc 177 (d + 3) 0 0 [.ref 0, .int sort, .int v] w (fun r w' => QTC sort v w r w' ∧ R5p 75 3 78 (v - v / 1000 * 1000) w w') := by
  obtain ⟨sh0, I, L, R0⟩ := w
  obtain rfl : sh = sh0 := hw.2.2.2.1.symm
  obtain rfl : R = R0 := hw.2.2.2.2.1.symm
  have c0 : sh[0]? = some (.inr 0) := hw.1 0 _ rfl
  have c75 : sh[75]? = some (.inr 9) := hw.1 75 _ rfl
  have r0_8 : R 0 8 = some 75 := hw.2.1 0 8 _ rfl
  refine Tc.of mr_177 rfl (show 3 ≤ mr_177.2.2.2.1 by decide) ?_
  refine XW.fam (S' := (1, [(0, .ref 0), (1, .int sort), (2, .int v)], [.ref 0], (sh, I, L, R))) (M := mr_177) rfl (show mcode 177 0 = some (0, .aload_n 0, 1, 0, 0, 0, _) from rfl) (Or.inl ⟨.ref 0, rfl, rfl⟩) ?_
  refine XW.fam (S' := (4, [(0, .ref 0), (1, .int sort), (2, .int v)], [.ref 75], (sh, I, L, R))) (M := mr_177) rfl (show mcode 177 1 = some (1, .getfield 78, 3, 0, 8, 0, _) from rfl) (Or.inr (Or.inr (Or.inr (Or.inr (Or.inr (Or.inr (Or.inr (Or.inl ⟨_, _, rfl, fl_ld c0 r0_8 (by decide) (by decide), rfl⟩)))))))) ?_
  refine XW.fam (S' := (5, [(0, .ref 0), (1, .int sort), (2, .int v)], [.int sort, .ref 75], (sh, I, L, R))) (M := mr_177) rfl (show mcode 177 4 = some (4, .iload_n 1, 1, 0, 0, 0, _) from rfl) (Or.inl ⟨.int sort, rfl, rfl⟩) ?_
  refine XW.fam (S' := (6, [(0, .ref 0), (1, .int sort), (2, .int v)], [.int v, .int sort, .ref 75], (sh, I, L, R))) (M := mr_177) rfl (show mcode 177 5 = some (5, .iload_n 2, 1, 0, 0, 0, _) from rfl) (Or.inl ⟨.int v, rfl, rfl⟩) ?_
  refine XW.call (d' := d + 2) (mc' := 0) (ms' := 0) (av := [.ref 75, .int sort, .int v]) (rest := []) (M := mr_177) (Ma := mr_178) rfl (show mcode 177 6 = some (6, .invokevirtual 292, 3, 178, 0, 0, _) from rfl) rfl (by decide) (by decide) ⟨rfl, 75, _, rfl, c75⟩ rfl rfl (show 0 ≤ 8 by decide) (tc_tell5 (d := d) hw hf) (by omega) (Nat.zero_le _) (Nat.zero_le _) (fun rQ1 wQ1 Q1 => ?_)
  obtain ⟨yQ1, eyQ1⟩ := (QTC_of Q1.1).2.2.1
  subst eyQ1
  refine XW.ret (r := some (.int yQ1)) ⟨⟨.int, rfl, rfl⟩, by decide +kernel⟩ ?_
  exact Q1
theorem tc_turnM5 {d : Nat} {sh : List mE} {R : Nat → Nat → Option Nat} {w : mW} {sort v : Int32} (hw : wOK (mkT vV []) (wE sh R) w) (hf : fresh w) : Tc 333 (d + 3) 0 0 [.ref 94, .int sort, .int v] w (fun r w' => QTM sort v w r w' ∧ R5p 94 81 150 (v - v / 1000 * 1000) w w') := by
  obtain ⟨sh0, I, L, R0⟩ := w
  obtain rfl : sh = sh0 := hw.2.2.2.1.symm
  obtain rfl : R = R0 := hw.2.2.2.2.1.symm
  have c94 : sh[94]? = some (.inr 12) := hw.1 94 _ rfl
  have c148 : sh[148]? = some (.inl (.int, 3)) := hw.1 148 _ rfl
  have c149 : sh[149]? = some (.inl (.int, 3)) := hw.1 149 _ rfl
  have c150 : sh[150]? = some (.inl (.int, 3)) := hw.1 150 _ rfl
  have r94_80 : R 94 80 = some 148 := hw.2.1 94 80 _ rfl
  have r94_82 : R 94 82 = some 149 := hw.2.1 94 82 _ rfl
  have r94_83 : R 94 83 = some 150 := hw.2.1 94 83 _ rfl
  have zm3 : ((-3) : Int32).toInt = (-3) := rfl
  have zm1 : ((-1) : Int32).toInt = (-1) := rfl
  have z0 : (0 : Int32).toInt = 0 := rfl
  have z1 : (1 : Int32).toInt = 1 := rfl
  have z3 : (3 : Int32).toInt = 3 := rfl
  have z1000 : (1000 : Int32).toInt = 1000 := rfl
  have hmc : 0 ≤ (I 94 79).toInt ∧ (I 94 79).toInt ≤ 3 := hw.2.2.1 94 79
  obtain ⟨m, em⟩ : ∃ m, I 94 79 = m := ⟨_, rfl⟩
  rw [em] at hmc
  have hmp : 0 ≤ (I 94 81).toInt ∧ (I 94 81).toInt ≤ 3 := hw.2.2.1 94 81
  obtain ⟨mp, emp⟩ : ∃ m, I 94 81 = m := ⟨_, rfl⟩
  rw [emp] at hmp
  have hsh : 0 ≤ (I 94 60).toInt ∧ (I 94 60).toInt ≤ 16 := hw.2.2.1 94 60
  have hm : 0 ≤ (I 94 2).toInt ∧ (I 94 2).toInt ≤ 20 := hw.2.2.1 94 2
  refine Tc.of mr_333 rfl (show 3 ≤ mr_333.2.2.2.1 by decide) ?_
  refine XW.fam (S' := (1, [(0, .ref 94), (1, .int sort), (2, .int v)], [.int sort], (sh, I, L, R))) (M := mr_333) rfl (show mcode 333 0 = some (0, .iload_n 1, 1, 0, 0, 0, _) from rfl) (Or.inl ⟨.int sort, rfl, rfl⟩) ?_
  refine XW.fam (S' := (2, [(0, .ref 94), (1, .int sort), (2, .int v)], [.int 0, .int sort], (sh, I, L, R))) (M := mr_333) rfl (show mcode 333 1 = some (1, .iconst 0, 1, 0, 0, 0, _) from rfl) (Or.inl ⟨.int 0, rfl, rfl⟩) ?_
  refine XW.fam (S' := (3, [(0, .ref 94), (1, .int sort), (2, .int v)], [.int 1, .int 0, .int sort], (sh, I, L, R))) (M := mr_333) rfl (show mcode 333 2 = some (2, .iconst 1, 1, 0, 0, 0, _) from rfl) (Or.inl ⟨.int 1, rfl, rfl⟩) ?_
  refine XW.call (d' := d) (mc' := 0) (ms' := 0) (av := [.int sort, .int 0, .int 1]) (rest := []) (M := mr_333) (Ma := mr_236) rfl (show mcode 333 3 = some (3, .invokestatic 254, 3, 236, 0, 0, _) from rfl) rfl (by decide) (by decide) rfl rfl rfl (show 0 ≤ 8 by decide) (tc_inM) (by omega) (Nat.zero_le _) (Nat.zero_le _) (fun rQ1 wQ1 Q1 => ?_)
  obtain ⟨hQ1, rfl⟩ := Q1
  rcases hQ1 with ⟨rfl, gQ1⟩ | ⟨rfl, gQ1⟩
  · skip
    refine XW.fam (S' := (9, [(0, .ref 94), (1, .int sort), (2, .int v)], [], (sh, I, L, R))) (M := mr_333) rfl (show mcode 333 6 = some (6, .ifCond .ne 5, 3, 11, 0, 0, _) from rfl) (Or.inr (Or.inl ⟨9, [], rfl, rfl⟩)) ?_
    refine XW.fam (S' := (10, [(0, .ref 94), (1, .int sort), (2, .int v)], [.int (-1)], (sh, I, L, R))) (M := mr_333) rfl (show mcode 333 9 = some (9, .iconst (-1), 1, 0, 0, 0, _) from rfl) (Or.inl ⟨.int (-1), rfl, rfl⟩) ?_
    refine XW.ret (r := some (.int (-1))) ⟨⟨.int, rfl, rfl⟩, by decide +kernel⟩ ?_
    refine ⟨?_, Or.inl ⟨rfl, fun _ => rfl⟩⟩
    exact Or.inr (Or.inr ⟨by omega, fun q => by omega, hf, ⟨sh, R, hw⟩, rfl, rfl⟩)
  · skip
    refine XW.fam (S' := (11, [(0, .ref 94), (1, .int sort), (2, .int v)], [], (sh, I, L, R))) (M := mr_333) rfl (show mcode 333 6 = some (6, .ifCond .ne 5, 3, 11, 0, 0, _) from rfl) (Or.inr (Or.inl ⟨11, [], rfl, rfl⟩)) ?_
    refine XW.fam (S' := (12, [(0, .ref 94), (1, .int sort), (2, .int v)], [.int sort], (sh, I, L, R))) (M := mr_333) rfl (show mcode 333 11 = some (11, .iload_n 1, 1, 0, 0, 0, _) from rfl) (Or.inl ⟨.int sort, rfl, rfl⟩) ?_
    cases k2 : bcmp .ne sort 0 with
    | true =>
      have gk2 : ¬ (sort).toInt = 0 := icT (c := .ne) (a := (sort).toInt) (b := 0) rfl (by decide) k2
      refine XW.fam (S' := (89, [(0, .ref 94), (1, .int sort), (2, .int v)], [], (sh, I, L, R))) (M := mr_333) rfl (show mcode 333 12 = some (12, .ifCond .ne 77, 3, 89, 0, 0, _) from rfl) (Or.inr (Or.inl ⟨89, [], by simp [brn, k2], rfl⟩)) ?_
      refine XW.fam (S' := (90, [(0, .ref 94), (1, .int sort), (2, .int v)], [.int v], (sh, I, L, R))) (M := mr_333) rfl (show mcode 333 89 = some (89, .iload_n 2, 1, 0, 0, 0, _) from rfl) (Or.inl ⟨.int v, rfl, rfl⟩) ?_
      cases k3 : bcmp .lt v 0 with
      | true =>
        have gk3 : (v).toInt < 0 := icT (c := .lt) (a := (v).toInt) (b := 0) rfl (by decide) k3
        refine XW.fam (S' := (105, [(0, .ref 94), (1, .int sort), (2, .int v)], [], (sh, I, L, R))) (M := mr_333) rfl (show mcode 333 90 = some (90, .ifCond .lt 15, 3, 105, 0, 0, _) from rfl) (Or.inr (Or.inl ⟨105, [], by simp [brn, k3], rfl⟩)) ?_
        refine XW.fam (S' := (106, [(0, .ref 94), (1, .int sort), (2, .int v)], [.int (-1)], (sh, I, L, R))) (M := mr_333) rfl (show mcode 333 105 = some (105, .iconst (-1), 1, 0, 0, 0, _) from rfl) (Or.inl ⟨.int (-1), rfl, rfl⟩) ?_
        refine XW.ret (r := some (.int (-1))) ⟨⟨.int, rfl, rfl⟩, by decide +kernel⟩ ?_
        refine ⟨?_, Or.inl ⟨rfl, fun _ => rfl⟩⟩
        exact Or.inr (Or.inr ⟨by omega, fun q => by omega, hf, ⟨sh, R, hw⟩, rfl, rfl⟩)
      | false =>
        have gk3 : ¬ ((v).toInt < 0) := icF (c := .lt) (a := (v).toInt) (b := 0) rfl (by decide) k3
        refine XW.fam (S' := (93, [(0, .ref 94), (1, .int sort), (2, .int v)], [], (sh, I, L, R))) (M := mr_333) rfl (show mcode 333 90 = some (90, .ifCond .lt 15, 3, 105, 0, 0, _) from rfl) (Or.inr (Or.inl ⟨93, [], by simp [brn, k3], rfl⟩)) ?_
        refine XW.fam (S' := (94, [(0, .ref 94), (1, .int sort), (2, .int v)], [.ref 94], (sh, I, L, R))) (M := mr_333) rfl (show mcode 333 93 = some (93, .aload_n 0, 1, 0, 0, 0, _) from rfl) (Or.inl ⟨.ref 94, rfl, rfl⟩) ?_
        refine XW.fam (S' := (95, [(0, .ref 94), (1, .int sort), (2, .int v)], [.int v, .ref 94], (sh, I, L, R))) (M := mr_333) rfl (show mcode 333 94 = some (94, .iload_n 2, 1, 0, 0, 0, _) from rfl) (Or.inl ⟨.int v, rfl, rfl⟩) ?_
        refine XW.fam (S' := (98, [(0, .ref 94), (1, .int sort), (2, .int v)], [.int 1000, .int v, .ref 94], (sh, I, L, R))) (M := mr_333) rfl (show mcode 333 95 = some (95, .sipush 1000, 3, 0, 0, 0, _) from rfl) (Or.inl ⟨.int 1000, rfl, rfl⟩) ?_
        refine XW.fam (S' := (99, [(0, .ref 94), (1, .int sort), (2, .int v)], [.int (v / 1000), .ref 94], (sh, I, L, R))) (M := mr_333) rfl (show mcode 333 98 = some (98, .idiv, 1, 0, 0, 0, _) from rfl) (Or.inr (Or.inr (Or.inr (Or.inr (Or.inr (Or.inl ⟨_, stk_bin (by simp only [ibin]; rw [if_neg (by decide)]), rfl⟩)))))) ?_
        refine XW.call (d' := d + 2) (mc' := 0) (ms' := 0) (av := [.ref 94, .int (v / 1000)]) (rest := []) (M := mr_333) (Ma := mr_309) rfl (show mcode 333 99 = some (99, .invokevirtual 496, 3, 309, 0, 0, _) from rfl) rfl (by decide) (by decide) ⟨rfl, 94, _, rfl, c94⟩ rfl rfl (show 0 ≤ 8 by decide) (tc_isPoM (d := d) hw) (by omega) (Nat.zero_le _) (Nat.zero_le _) (fun rQ4 wQ4 Q4 => ?_)
        obtain ⟨hQ4, rfl⟩ := Q4
        rcases hQ4 with ⟨rfl, gQ4⟩ | ⟨rfl, gQ4⟩
        · skip
          refine XW.fam (S' := (105, [(0, .ref 94), (1, .int sort), (2, .int v)], [], (sh, I, L, R))) (M := mr_333) rfl (show mcode 333 102 = some (102, .ifCond .ne 5, 3, 107, 0, 0, _) from rfl) (Or.inr (Or.inl ⟨105, [], rfl, rfl⟩)) ?_
          refine XW.fam (S' := (106, [(0, .ref 94), (1, .int sort), (2, .int v)], [.int (-1)], (sh, I, L, R))) (M := mr_333) rfl (show mcode 333 105 = some (105, .iconst (-1), 1, 0, 0, 0, _) from rfl) (Or.inl ⟨.int (-1), rfl, rfl⟩) ?_
          refine XW.ret (r := some (.int (-1))) ⟨⟨.int, rfl, rfl⟩, by decide +kernel⟩ ?_
          refine ⟨?_, Or.inl ⟨rfl, fun _ => rfl⟩⟩
          exact Or.inr (Or.inl ⟨by omega, by omega, ⟨hf, ⟨sh, R, hw⟩, Or.inl ⟨fun q => by have q1 : okWM I v := q.1; unfold okWM at q1; omega, rfl, rfl⟩⟩⟩)
        · skip
          refine XW.fam (S' := (107, [(0, .ref 94), (1, .int sort), (2, .int v)], [], (sh, I, L, R))) (M := mr_333) rfl (show mcode 333 102 = some (102, .ifCond .ne 5, 3, 107, 0, 0, _) from rfl) (Or.inr (Or.inl ⟨107, [], rfl, rfl⟩)) ?_
          refine XW.fam (S' := (108, [(0, .ref 94), (1, .int sort), (2, .int v)], [.int 0], (sh, I, L, R))) (M := mr_333) rfl (show mcode 333 107 = some (107, .iconst 0, 1, 0, 0, 0, _) from rfl) (Or.inl ⟨.int 0, rfl, rfl⟩) ?_
          refine XW.fam (S' := (109, [(3, .int 0), (0, .ref 94), (1, .int sort), (2, .int v)], [], (sh, I, L, R))) (M := mr_333) rfl (show mcode 333 108 = some (108, .istore_n 3, 1, 0, 0, 0, _) from rfl) (Or.inr (Or.inr (Or.inr (Or.inr (Or.inr (Or.inr (Or.inl ⟨_, [], _, rfl, rfl, rfl⟩))))))) ?_
          have xd := dv1000 (x := v) (by omega)
          refine scan_PM (d := d) hw (by rw [emp]; omega) (fun ht t => ?_) (fun ht t => ?_) 4 0 (by decide) (by decide) (by rw [emp]; omega) (fun k hk => by exfalso; have z0 : (0 : Int32).toInt = 0 := rfl; omega)
          · skip
            refine XW.fam (S' := (132, [(3, .int t), (0, .ref 94), (1, .int sort), (2, .int v)], [.int (-1)], (sh, I, L, R))) (M := mr_333) rfl (show mcode 333 131 = some (131, .iconst (-1), 1, 0, 0, 0, _) from rfl) (Or.inl ⟨.int (-1), rfl, rfl⟩) ?_
            refine XW.ret (r := some (.int (-1))) ⟨⟨.int, rfl, rfl⟩, by decide +kernel⟩ ?_
            refine ⟨?_, Or.inl ⟨rfl, fun _ => rfl⟩⟩
            exact Or.inr (Or.inl ⟨by omega, by omega, ⟨hf, ⟨sh, R, hw⟩, Or.inl ⟨fun q => q.2 ht, rfl, rfl⟩⟩⟩)
          · skip
            refine XW.fam (S' := (140, [(3, .int t), (0, .ref 94), (1, .int sort), (2, .int v)], [.ref 94], (sh, I, L, R))) (M := mr_333) rfl (show mcode 333 139 = some (139, .aload_n 0, 1, 0, 0, 0, _) from rfl) (Or.inl ⟨.ref 94, rfl, rfl⟩) ?_
            refine XW.fam (S' := (143, [(3, .int t), (0, .ref 94), (1, .int sort), (2, .int v)], [.int (I 94 81)], (sh, I, L, R))) (M := mr_333) rfl (show mcode 333 140 = some (140, .getfield 554, 3, 12, 81, 0, _) from rfl) (Or.inr (Or.inr (Or.inr (Or.inr (Or.inr (Or.inr (Or.inr (Or.inl ⟨_, _, rfl, fl_ldI c94 (by decide) (by decide), rfl⟩)))))))) ?_
            rw [emp]
            refine XW.fam (S' := (144, [(3, .int t), (0, .ref 94), (1, .int sort), (2, .int v)], [.int 3, .int mp], (sh, I, L, R))) (M := mr_333) rfl (show mcode 333 143 = some (143, .iconst 3, 1, 0, 0, 0, _) from rfl) (Or.inl ⟨.int 3, rfl, rfl⟩) ?_
            cases k5 : bcmp .ne mp 3 with
            | true =>
              have gk5 : ¬ (mp).toInt = 3 := icT (c := .ne) (a := (mp).toInt) (b := 3) rfl (by decide) k5
              refine XW.fam (S' := (150, [(3, .int t), (0, .ref 94), (1, .int sort), (2, .int v)], [], (sh, I, L, R))) (M := mr_333) rfl (show mcode 333 144 = some (144, .if_icmp .ne 6, 3, 150, 0, 0, _) from rfl) (Or.inr (Or.inl ⟨150, [], by simp [brn, k5], rfl⟩)) ?_
              refine XW.fam (S' := (151, [(3, .int t), (0, .ref 94), (1, .int sort), (2, .int v)], [.ref 94], (sh, I, L, R))) (M := mr_333) rfl (show mcode 333 150 = some (150, .aload_n 0, 1, 0, 0, 0, _) from rfl) (Or.inl ⟨.ref 94, rfl, rfl⟩) ?_
              refine XW.fam (S' := (154, [(3, .int t), (0, .ref 94), (1, .int sort), (2, .int v)], [.ref 149], (sh, I, L, R))) (M := mr_333) rfl (show mcode 333 151 = some (151, .getfield 181, 3, 12, 82, 0, _) from rfl) (Or.inr (Or.inr (Or.inr (Or.inr (Or.inr (Or.inr (Or.inr (Or.inl ⟨_, _, rfl, fl_ld c94 r94_82 (by decide) (by decide), rfl⟩)))))))) ?_
              refine XW.fam (S' := (155, [(3, .int t), (0, .ref 94), (1, .int sort), (2, .int v)], [.ref 94, .ref 149], (sh, I, L, R))) (M := mr_333) rfl (show mcode 333 154 = some (154, .aload_n 0, 1, 0, 0, 0, _) from rfl) (Or.inl ⟨.ref 94, rfl, rfl⟩) ?_
              refine XW.fam (S' := (158, [(3, .int t), (0, .ref 94), (1, .int sort), (2, .int v)], [.int (I 94 81), .ref 149], (sh, I, L, R))) (M := mr_333) rfl (show mcode 333 155 = some (155, .getfield 554, 3, 12, 81, 0, _) from rfl) (Or.inr (Or.inr (Or.inr (Or.inr (Or.inr (Or.inr (Or.inr (Or.inl ⟨_, _, rfl, fl_ldI c94 (by decide) (by decide), rfl⟩)))))))) ?_
              rw [emp]
              refine XW.fam (S' := (159, [(3, .int t), (0, .ref 94), (1, .int sort), (2, .int v)], [.int v, .int mp, .ref 149], (sh, I, L, R))) (M := mr_333) rfl (show mcode 333 158 = some (158, .iload_n 2, 1, 0, 0, 0, _) from rfl) (Or.inl ⟨.int v, rfl, rfl⟩) ?_
              refine XW.fam (S' := (162, [(3, .int t), (0, .ref 94), (1, .int sort), (2, .int v)], [.int 1000, .int v, .int mp, .ref 149], (sh, I, L, R))) (M := mr_333) rfl (show mcode 333 159 = some (159, .sipush 1000, 3, 0, 0, 0, _) from rfl) (Or.inl ⟨.int 1000, rfl, rfl⟩) ?_
              refine XW.fam (S' := (163, [(3, .int t), (0, .ref 94), (1, .int sort), (2, .int v)], [.int (v / 1000), .int mp, .ref 149], (sh, I, L, R))) (M := mr_333) rfl (show mcode 333 162 = some (162, .idiv, 1, 0, 0, 0, _) from rfl) (Or.inr (Or.inr (Or.inr (Or.inr (Or.inr (Or.inl ⟨_, stk_bin (by simp only [ibin]; rw [if_neg (by decide)]), rfl⟩)))))) ?_
              have hin6 : inR mp 3 = true := inR_of (by omega) (by omega)
              obtain ⟨I7, eI7⟩ : ∃ X, X = up2 I 149 (mp).toNatClampNeg (v / 1000) := ⟨_, rfl⟩
              refine XW.fam (S' := (164, [(3, .int t), (0, .ref 94), (1, .int sort), (2, .int v)], [], (sh, I7, L, R))) (M := mr_333) rfl (show mcode 333 163 = some (163, .iastore, 1, 0, 0, 0, _) from rfl) (Or.inr (Or.inr (Or.inr (Or.inl ⟨_, _, by rw [eI7]; exact sta_i c149 hin6, rfl⟩)))) ?_
              have xv : v.toInt ≤ 2147483647 := by have h := i32b v; unfold lo32 hi32 at h; omega
              have hwI7 : wOK (mkT vV []) (wE sh R) (sh, I7, L, R) := by rw [eI7]; exact wOK_u2 (q := 149) (k := (mp).toNatClampNeg) (x := (v / 1000)) wE_put hw rfl (by show (0 : Int) ≤ _; omega) (by show _ ≤ (2147483 : Int); omega)
              have hfI7 : fresh (sh, I7, L, R) := by rw [eI7]; exact fresh_I hf c149
              have v8 : I7 94 79 = m := by rw [eI7, up2_ne (fun e => by cases e.1)]; exact em
              have v9 : I7 94 81 = mp := by rw [eI7, up2_ne (fun e => by cases e.1)]; exact emp
              have v10 : I7 149 (mp).toNatClampNeg = (v / 1000) := by rw [eI7]; exact up2_eq
              refine XW.fam (S' := (165, [(3, .int t), (0, .ref 94), (1, .int sort), (2, .int v)], [.ref 94], (sh, I7, L, R))) (M := mr_333) rfl (show mcode 333 164 = some (164, .aload_n 0, 1, 0, 0, 0, _) from rfl) (Or.inl ⟨.ref 94, rfl, rfl⟩) ?_
              refine XW.fam (S' := (168, [(3, .int t), (0, .ref 94), (1, .int sort), (2, .int v)], [.ref 150], (sh, I7, L, R))) (M := mr_333) rfl (show mcode 333 165 = some (165, .getfield 184, 3, 12, 83, 0, _) from rfl) (Or.inr (Or.inr (Or.inr (Or.inr (Or.inr (Or.inr (Or.inr (Or.inl ⟨_, _, rfl, fl_ld c94 r94_83 (by decide) (by decide), rfl⟩)))))))) ?_
              refine XW.fam (S' := (169, [(3, .int t), (0, .ref 94), (1, .int sort), (2, .int v)], [.ref 94, .ref 150], (sh, I7, L, R))) (M := mr_333) rfl (show mcode 333 168 = some (168, .aload_n 0, 1, 0, 0, 0, _) from rfl) (Or.inl ⟨.ref 94, rfl, rfl⟩) ?_
              refine XW.fam (S' := (172, [(3, .int t), (0, .ref 94), (1, .int sort), (2, .int v)], [.int (I7 94 81), .ref 150], (sh, I7, L, R))) (M := mr_333) rfl (show mcode 333 169 = some (169, .getfield 554, 3, 12, 81, 0, _) from rfl) (Or.inr (Or.inr (Or.inr (Or.inr (Or.inr (Or.inr (Or.inr (Or.inl ⟨_, _, rfl, fl_ldI c94 (by decide) (by decide), rfl⟩)))))))) ?_
              rw [v9]
              refine XW.fam (S' := (173, [(3, .int t), (0, .ref 94), (1, .int sort), (2, .int v)], [.int v, .int mp, .ref 150], (sh, I7, L, R))) (M := mr_333) rfl (show mcode 333 172 = some (172, .iload_n 2, 1, 0, 0, 0, _) from rfl) (Or.inl ⟨.int v, rfl, rfl⟩) ?_
              refine XW.fam (S' := (176, [(3, .int t), (0, .ref 94), (1, .int sort), (2, .int v)], [.int 1000, .int v, .int mp, .ref 150], (sh, I7, L, R))) (M := mr_333) rfl (show mcode 333 173 = some (173, .sipush 1000, 3, 0, 0, 0, _) from rfl) (Or.inl ⟨.int 1000, rfl, rfl⟩) ?_
              refine XW.fam (S' := (177, [(3, .int t), (0, .ref 94), (1, .int sort), (2, .int v)], [.int (v - v / 1000 * 1000), .int mp, .ref 150], (sh, I7, L, R))) (M := mr_333) rfl (show mcode 333 176 = some (176, .irem, 1, 0, 0, 0, _) from rfl) (Or.inr (Or.inr (Or.inr (Or.inr (Or.inr (Or.inl ⟨_, stk_bin (by simp only [ibin]; rw [if_neg (by decide)]), rfl⟩)))))) ?_
              have hin11 : inR mp 3 = true := inR_of (by omega) (by omega)
              obtain ⟨I12, eI12⟩ : ∃ X, X = up2 I7 150 (mp).toNatClampNeg (v - v / 1000 * 1000) := ⟨_, rfl⟩
              refine XW.fam (S' := (178, [(3, .int t), (0, .ref 94), (1, .int sort), (2, .int v)], [], (sh, I12, L, R))) (M := mr_333) rfl (show mcode 333 177 = some (177, .iastore, 1, 0, 0, 0, _) from rfl) (Or.inr (Or.inr (Or.inr (Or.inl ⟨_, _, by rw [eI12]; exact sta_i c150 hin11, rfl⟩)))) ?_
              have xb := i32b ((v - v / 1000 * 1000))
              unfold lo32 hi32 at xb
              have hwI12 : wOK (mkT vV []) (wE sh R) (sh, I12, L, R) := by rw [eI12]; exact wOK_u2 (q := 150) (k := (mp).toNatClampNeg) (x := (v - v / 1000 * 1000)) wE_put hwI7 rfl (by show ((-2147483648) : Int) ≤ _; omega) (by show _ ≤ (2147483647 : Int); omega)
              have hfI12 : fresh (sh, I12, L, R) := by rw [eI12]; exact fresh_I hfI7 c150
              have v13 : I12 94 79 = m := by rw [eI12, up2_ne (fun e => by cases e.1)]; exact v8
              have v14 : I12 94 81 = mp := by rw [eI12, up2_ne (fun e => by cases e.1)]; exact v9
              have v15 : I12 149 (mp).toNatClampNeg = (v / 1000) := by rw [eI12, up2_ne (fun e => by cases e.1)]; exact v10
              have v16 : I12 150 (mp).toNatClampNeg = (v - v / 1000 * 1000) := by rw [eI12]; exact up2_eq
              refine XW.fam (S' := (179, [(3, .int t), (0, .ref 94), (1, .int sort), (2, .int v)], [.ref 94], (sh, I12, L, R))) (M := mr_333) rfl (show mcode 333 178 = some (178, .aload_n 0, 1, 0, 0, 0, _) from rfl) (Or.inl ⟨.ref 94, rfl, rfl⟩) ?_
              refine XW.fam (S' := (180, [(3, .int t), (0, .ref 94), (1, .int sort), (2, .int v)], [.ref 94, .ref 94], (sh, I12, L, R))) (M := mr_333) rfl (show mcode 333 179 = some (179, .dup, 1, 0, 0, 0, _) from rfl) (Or.inr (Or.inr (Or.inr (Or.inr (Or.inr (Or.inl ⟨_, rfl, rfl⟩)))))) ?_
              refine XW.fam (S' := (183, [(3, .int t), (0, .ref 94), (1, .int sort), (2, .int v)], [.int (I12 94 81), .ref 94], (sh, I12, L, R))) (M := mr_333) rfl (show mcode 333 180 = some (180, .getfield 554, 3, 12, 81, 0, _) from rfl) (Or.inr (Or.inr (Or.inr (Or.inr (Or.inr (Or.inr (Or.inr (Or.inl ⟨_, _, rfl, fl_ldI c94 (by decide) (by decide), rfl⟩)))))))) ?_
              rw [v14]
              refine XW.fam (S' := (184, [(3, .int t), (0, .ref 94), (1, .int sort), (2, .int v)], [.int 1, .int mp, .ref 94], (sh, I12, L, R))) (M := mr_333) rfl (show mcode 333 183 = some (183, .iconst 1, 1, 0, 0, 0, _) from rfl) (Or.inl ⟨.int 1, rfl, rfl⟩) ?_
              refine XW.fam (S' := (185, [(3, .int t), (0, .ref 94), (1, .int sort), (2, .int v)], [.int (mp + 1), .ref 94], (sh, I12, L, R))) (M := mr_333) rfl (show mcode 333 184 = some (184, .iadd, 1, 0, 0, 0, _) from rfl) (Or.inr (Or.inr (Or.inr (Or.inr (Or.inr (Or.inl ⟨_, rfl, rfl⟩)))))) ?_
              obtain ⟨I17, eI17⟩ : ∃ X, X = up2 I12 94 81 (mp + 1) := ⟨_, rfl⟩
              refine XW.fam (S' := (188, [(3, .int t), (0, .ref 94), (1, .int sort), (2, .int v)], [], (sh, I17, L, R))) (M := mr_333) rfl (show mcode 333 185 = some (185, .putfield 554, 3, 12, 81, 0, _) from rfl) (Or.inr (Or.inr (Or.inr (Or.inr (Or.inr (Or.inr (Or.inr (Or.inr (Or.inl ⟨_, _, _, rfl, by rw [eI17]; exact stf_I c94 (by decide) (by decide) (by decide), rfl⟩))))))))) ?_
              have xi := inc32 (m := mp) (by omega) (by omega)
              have hwI17 : wOK (mkT vV []) (wE sh R) (sh, I17, L, R) := by rw [eI17]; exact wOK_u2 (q := 94) (k := 81) (x := (mp + 1)) wE_put hwI12 rfl (by show (0 : Int) ≤ _; omega) (by show _ ≤ (3 : Int); omega)
              have hfI17 : fresh (sh, I17, L, R) := by rw [eI17]; exact fresh_I hfI12 c94
              have v18 : I17 94 79 = m := by rw [eI17, up2_ne (fun e => by cases e.2)]; exact v13
              have v20 : I17 149 (mp).toNatClampNeg = (v / 1000) := by rw [eI17, up2_ne (fun e => by cases e.1)]; exact v15
              have v21 : I17 150 (mp).toNatClampNeg = (v - v / 1000 * 1000) := by rw [eI17, up2_ne (fun e => by cases e.1)]; exact v16
              have v22 : I17 94 81 = (mp + 1) := by rw [eI17]; exact up2_eq
              refine XW.fam (S' := (189, [(3, .int t), (0, .ref 94), (1, .int sort), (2, .int v)], [.ref 94], (sh, I17, L, R))) (M := mr_333) rfl (show mcode 333 188 = some (188, .aload_n 0, 1, 0, 0, 0, _) from rfl) (Or.inl ⟨.ref 94, rfl, rfl⟩) ?_
              refine XW.fam (S' := (192, [(3, .int t), (0, .ref 94), (1, .int sort), (2, .int v)], [.int (I17 94 81)], (sh, I17, L, R))) (M := mr_333) rfl (show mcode 333 189 = some (189, .getfield 554, 3, 12, 81, 0, _) from rfl) (Or.inr (Or.inr (Or.inr (Or.inr (Or.inr (Or.inr (Or.inr (Or.inl ⟨_, _, rfl, fl_ldI c94 (by decide) (by decide), rfl⟩)))))))) ?_
              rw [v22]
              refine XW.ret (r := some (.int (mp + 1))) ⟨⟨.int, rfl, rfl⟩, by decide +kernel⟩ ?_
              refine ⟨?_, Or.inr ⟨?_, ?_⟩⟩
              · skip
                have hkp : ∀ q k, inm mdWM q k = false → I17 q k = I q k := by
                  intro q k h
                  rw [eI17, up2_ne (fun e => by rw [e.1, e.2] at h; cases h), eI12, up2_ne (fun e => by rw [e.1] at h; cases h), eI7, up2_ne (fun e => by rw [e.1] at h; cases h)]
                have hrw : ∀ k, I17 149 k = I7 149 k := by
                  intro k
                  rw [eI17, up2_ne (fun e => by cases e.1), eI12, up2_ne (fun e => by cases e.1)]
                refine Or.inr (Or.inl ⟨by omega, by omega, ⟨hfI17, ⟨sh, R, hwI17⟩, Or.inr (Or.inr ⟨⟨show okWM I v by unfold okWM; omega, ht⟩, by show (I 94 81).toInt < (3 : Int); rw [emp]; omega, ?_, ?_, ?_, fun k hk => ?_, hkp⟩)⟩⟩)
                · show some (Value.int _) = some (Value.int (I 94 81 + 1))
                  rw [emp]
                · show I17 94 81 = I 94 81 + 1
                  rw [emp]
                  exact v22
                · show I17 149 (I 94 81).toNatClampNeg = _
                  rw [hrw, emp, eI7, up2_eq]
                · have hk : ¬ k = (I 94 81).toNatClampNeg := hk
                  rw [emp] at hk
                  show I17 149 k = I 149 k
                  rw [hrw, eI7, up2_ne (fun e => hk e.2)]
              · show I17 94 81 = I 94 81 + 1
                rw [emp]
                exact v22
              · have hrw : ∀ k, I17 150 k = I12 150 k := by
                  intro k
                  rw [eI17, up2_ne (fun e => by cases e.1)]
                refine ⟨?_, fun k hk => ?_⟩
                · show I17 150 (I 94 81).toNatClampNeg = _
                  rw [hrw, emp, eI12, up2_eq]
                · have hk : ¬ k = (I 94 81).toNatClampNeg := hk
                  rw [emp] at hk
                  show I17 150 k = I 150 k
                  rw [hrw, eI12, up2_ne (fun e => hk e.2), eI7, up2_ne (fun e => by cases e.1)]
            | false =>
              have gk5 : ¬ (¬ (mp).toInt = 3) := icF (c := .ne) (a := (mp).toInt) (b := 3) rfl (by decide) k5
              refine XW.fam (S' := (147, [(3, .int t), (0, .ref 94), (1, .int sort), (2, .int v)], [], (sh, I, L, R))) (M := mr_333) rfl (show mcode 333 144 = some (144, .if_icmp .ne 6, 3, 150, 0, 0, _) from rfl) (Or.inr (Or.inl ⟨147, [], by simp [brn, k5], rfl⟩)) ?_
              refine XW.fam (S' := (149, [(3, .int t), (0, .ref 94), (1, .int sort), (2, .int v)], [.int (-3)], (sh, I, L, R))) (M := mr_333) rfl (show mcode 333 147 = some (147, .bipush (-3), 2, 0, 0, 0, _) from rfl) (Or.inl ⟨.int (-3), rfl, rfl⟩) ?_
              refine XW.ret (r := some (.int (-3))) ⟨⟨.int, rfl, rfl⟩, by decide +kernel⟩ ?_
              refine ⟨?_, Or.inl ⟨rfl, fun _ => rfl⟩⟩
              exact Or.inr (Or.inl ⟨by omega, by omega, ⟨hf, ⟨sh, R, hw⟩, Or.inr (Or.inl ⟨⟨show okWM I v by unfold okWM; omega, ht⟩, by show (3 : Int) ≤ (I 94 81).toInt; rw [emp]; omega, rfl, rfl⟩)⟩⟩)
    | false =>
      have gk2 : ¬ (¬ (sort).toInt = 0) := icF (c := .ne) (a := (sort).toInt) (b := 0) rfl (by decide) k2
      refine XW.fam (S' := (15, [(0, .ref 94), (1, .int sort), (2, .int v)], [], (sh, I, L, R))) (M := mr_333) rfl (show mcode 333 12 = some (12, .ifCond .ne 77, 3, 89, 0, 0, _) from rfl) (Or.inr (Or.inl ⟨15, [], by simp [brn, k2], rfl⟩)) ?_
      refine XW.fam (S' := (16, [(0, .ref 94), (1, .int sort), (2, .int v)], [.ref 94], (sh, I, L, R))) (M := mr_333) rfl (show mcode 333 15 = some (15, .aload_n 0, 1, 0, 0, 0, _) from rfl) (Or.inl ⟨.ref 94, rfl, rfl⟩) ?_
      refine XW.fam (S' := (17, [(0, .ref 94), (1, .int sort), (2, .int v)], [.int v, .ref 94], (sh, I, L, R))) (M := mr_333) rfl (show mcode 333 16 = some (16, .iload_n 2, 1, 0, 0, 0, _) from rfl) (Or.inl ⟨.int v, rfl, rfl⟩) ?_
      refine XW.call (d' := d + 1) (mc' := 0) (ms' := 0) (av := [.ref 94, .int v]) (rest := []) (M := mr_333) (Ma := mr_311) rfl (show mcode 333 17 = some (17, .invokevirtual 499, 3, 311, 0, 0, _) from rfl) rfl (by decide) (by decide) ⟨rfl, 94, _, rfl, c94⟩ rfl rfl (show 0 ≤ 8 by decide) (tc_isShM (d := d) hw) (by omega) (Nat.zero_le _) (Nat.zero_le _) (fun rQ23 wQ23 Q23 => ?_)
      obtain ⟨hQ23, rfl⟩ := Q23
      rcases hQ23 with ⟨rfl, gQ23⟩ | ⟨rfl, gQ23⟩
      · skip
        refine XW.fam (S' := (23, [(0, .ref 94), (1, .int sort), (2, .int v)], [], (sh, I, L, R))) (M := mr_333) rfl (show mcode 333 20 = some (20, .ifCond .ne 5, 3, 25, 0, 0, _) from rfl) (Or.inr (Or.inl ⟨23, [], rfl, rfl⟩)) ?_
        refine XW.fam (S' := (24, [(0, .ref 94), (1, .int sort), (2, .int v)], [.int (-1)], (sh, I, L, R))) (M := mr_333) rfl (show mcode 333 23 = some (23, .iconst (-1), 1, 0, 0, 0, _) from rfl) (Or.inl ⟨.int (-1), rfl, rfl⟩) ?_
        refine XW.ret (r := some (.int (-1))) ⟨⟨.int, rfl, rfl⟩, by decide +kernel⟩ ?_
        refine ⟨?_, Or.inl ⟨rfl, fun _ => rfl⟩⟩
        exact Or.inl ⟨by omega, ⟨hf, ⟨sh, R, hw⟩, Or.inl ⟨fun q => by have q1 : okVM I v := q.1; unfold okVM at q1; omega, rfl, rfl⟩⟩⟩
      · skip
        refine XW.fam (S' := (25, [(0, .ref 94), (1, .int sort), (2, .int v)], [], (sh, I, L, R))) (M := mr_333) rfl (show mcode 333 20 = some (20, .ifCond .ne 5, 3, 25, 0, 0, _) from rfl) (Or.inr (Or.inl ⟨25, [], rfl, rfl⟩)) ?_
        refine XW.fam (S' := (26, [(0, .ref 94), (1, .int sort), (2, .int v)], [.int 0], (sh, I, L, R))) (M := mr_333) rfl (show mcode 333 25 = some (25, .iconst 0, 1, 0, 0, 0, _) from rfl) (Or.inl ⟨.int 0, rfl, rfl⟩) ?_
        refine XW.fam (S' := (27, [(3, .int 0), (0, .ref 94), (1, .int sort), (2, .int v)], [], (sh, I, L, R))) (M := mr_333) rfl (show mcode 333 26 = some (26, .istore_n 3, 1, 0, 0, 0, _) from rfl) (Or.inr (Or.inr (Or.inr (Or.inr (Or.inr (Or.inr (Or.inl ⟨_, [], _, rfl, rfl, rfl⟩))))))) ?_
        refine scan_SM (d := d) hw (by rw [em]; omega) (fun ht t => ?_) (fun ht t => ?_) 4 0 (by decide) (by decide) (by rw [em]; omega) (fun k hk => by exfalso; have z0 : (0 : Int32).toInt = 0 := rfl; omega)
        · skip
          refine XW.fam (S' := (46, [(3, .int t), (0, .ref 94), (1, .int sort), (2, .int v)], [.int (-1)], (sh, I, L, R))) (M := mr_333) rfl (show mcode 333 45 = some (45, .iconst (-1), 1, 0, 0, 0, _) from rfl) (Or.inl ⟨.int (-1), rfl, rfl⟩) ?_
          refine XW.ret (r := some (.int (-1))) ⟨⟨.int, rfl, rfl⟩, by decide +kernel⟩ ?_
          refine ⟨?_, Or.inl ⟨rfl, fun _ => rfl⟩⟩
          exact Or.inl ⟨by omega, ⟨hf, ⟨sh, R, hw⟩, Or.inl ⟨fun q => q.2 ht, rfl, rfl⟩⟩⟩
        · skip
          refine XW.fam (S' := (54, [(3, .int t), (0, .ref 94), (1, .int sort), (2, .int v)], [.ref 94], (sh, I, L, R))) (M := mr_333) rfl (show mcode 333 53 = some (53, .aload_n 0, 1, 0, 0, 0, _) from rfl) (Or.inl ⟨.ref 94, rfl, rfl⟩) ?_
          refine XW.fam (S' := (57, [(3, .int t), (0, .ref 94), (1, .int sort), (2, .int v)], [.int (I 94 79)], (sh, I, L, R))) (M := mr_333) rfl (show mcode 333 54 = some (54, .getfield 551, 3, 12, 79, 0, _) from rfl) (Or.inr (Or.inr (Or.inr (Or.inr (Or.inr (Or.inr (Or.inr (Or.inl ⟨_, _, rfl, fl_ldI c94 (by decide) (by decide), rfl⟩)))))))) ?_
          rw [em]
          refine XW.fam (S' := (58, [(3, .int t), (0, .ref 94), (1, .int sort), (2, .int v)], [.int 3, .int m], (sh, I, L, R))) (M := mr_333) rfl (show mcode 333 57 = some (57, .iconst 3, 1, 0, 0, 0, _) from rfl) (Or.inl ⟨.int 3, rfl, rfl⟩) ?_
          cases k24 : bcmp .ne m 3 with
          | true =>
            have gk24 : ¬ (m).toInt = 3 := icT (c := .ne) (a := (m).toInt) (b := 3) rfl (by decide) k24
            refine XW.fam (S' := (64, [(3, .int t), (0, .ref 94), (1, .int sort), (2, .int v)], [], (sh, I, L, R))) (M := mr_333) rfl (show mcode 333 58 = some (58, .if_icmp .ne 6, 3, 64, 0, 0, _) from rfl) (Or.inr (Or.inl ⟨64, [], by simp [brn, k24], rfl⟩)) ?_
            refine XW.fam (S' := (65, [(3, .int t), (0, .ref 94), (1, .int sort), (2, .int v)], [.ref 94], (sh, I, L, R))) (M := mr_333) rfl (show mcode 333 64 = some (64, .aload_n 0, 1, 0, 0, 0, _) from rfl) (Or.inl ⟨.ref 94, rfl, rfl⟩) ?_
            refine XW.fam (S' := (68, [(3, .int t), (0, .ref 94), (1, .int sort), (2, .int v)], [.ref 148], (sh, I, L, R))) (M := mr_333) rfl (show mcode 333 65 = some (65, .getfield 178, 3, 12, 80, 0, _) from rfl) (Or.inr (Or.inr (Or.inr (Or.inr (Or.inr (Or.inr (Or.inr (Or.inl ⟨_, _, rfl, fl_ld c94 r94_80 (by decide) (by decide), rfl⟩)))))))) ?_
            refine XW.fam (S' := (69, [(3, .int t), (0, .ref 94), (1, .int sort), (2, .int v)], [.ref 94, .ref 148], (sh, I, L, R))) (M := mr_333) rfl (show mcode 333 68 = some (68, .aload_n 0, 1, 0, 0, 0, _) from rfl) (Or.inl ⟨.ref 94, rfl, rfl⟩) ?_
            refine XW.fam (S' := (72, [(3, .int t), (0, .ref 94), (1, .int sort), (2, .int v)], [.int (I 94 79), .ref 148], (sh, I, L, R))) (M := mr_333) rfl (show mcode 333 69 = some (69, .getfield 551, 3, 12, 79, 0, _) from rfl) (Or.inr (Or.inr (Or.inr (Or.inr (Or.inr (Or.inr (Or.inr (Or.inl ⟨_, _, rfl, fl_ldI c94 (by decide) (by decide), rfl⟩)))))))) ?_
            rw [em]
            refine XW.fam (S' := (73, [(3, .int t), (0, .ref 94), (1, .int sort), (2, .int v)], [.int v, .int m, .ref 148], (sh, I, L, R))) (M := mr_333) rfl (show mcode 333 72 = some (72, .iload_n 2, 1, 0, 0, 0, _) from rfl) (Or.inl ⟨.int v, rfl, rfl⟩) ?_
            have hin25 : inR m 3 = true := inR_of (by omega) (by omega)
            obtain ⟨I26, eI26⟩ : ∃ X, X = up2 I 148 (m).toNatClampNeg v := ⟨_, rfl⟩
            refine XW.fam (S' := (74, [(3, .int t), (0, .ref 94), (1, .int sort), (2, .int v)], [], (sh, I26, L, R))) (M := mr_333) rfl (show mcode 333 73 = some (73, .iastore, 1, 0, 0, 0, _) from rfl) (Or.inr (Or.inr (Or.inr (Or.inl ⟨_, _, by rw [eI26]; exact sta_i c148 hin25, rfl⟩)))) ?_
            have hwI26 : wOK (mkT vV []) (wE sh R) (sh, I26, L, R) := by rw [eI26]; exact wOK_u2 (q := 148) (k := (m).toNatClampNeg) (x := v) wE_put hw rfl (by show (0 : Int) ≤ _; omega) (by show _ ≤ (15 : Int); omega)
            have hfI26 : fresh (sh, I26, L, R) := by rw [eI26]; exact fresh_I hf c148
            have v27 : I26 94 79 = m := by rw [eI26, up2_ne (fun e => by cases e.1)]; exact em
            have v28 : I26 94 81 = mp := by rw [eI26, up2_ne (fun e => by cases e.1)]; exact emp
            have v29 : I26 148 (m).toNatClampNeg = v := by rw [eI26]; exact up2_eq
            refine XW.fam (S' := (75, [(3, .int t), (0, .ref 94), (1, .int sort), (2, .int v)], [.ref 94], (sh, I26, L, R))) (M := mr_333) rfl (show mcode 333 74 = some (74, .aload_n 0, 1, 0, 0, 0, _) from rfl) (Or.inl ⟨.ref 94, rfl, rfl⟩) ?_
            refine XW.fam (S' := (76, [(3, .int t), (0, .ref 94), (1, .int sort), (2, .int v)], [.ref 94, .ref 94], (sh, I26, L, R))) (M := mr_333) rfl (show mcode 333 75 = some (75, .dup, 1, 0, 0, 0, _) from rfl) (Or.inr (Or.inr (Or.inr (Or.inr (Or.inr (Or.inl ⟨_, rfl, rfl⟩)))))) ?_
            refine XW.fam (S' := (79, [(3, .int t), (0, .ref 94), (1, .int sort), (2, .int v)], [.int (I26 94 79), .ref 94], (sh, I26, L, R))) (M := mr_333) rfl (show mcode 333 76 = some (76, .getfield 551, 3, 12, 79, 0, _) from rfl) (Or.inr (Or.inr (Or.inr (Or.inr (Or.inr (Or.inr (Or.inr (Or.inl ⟨_, _, rfl, fl_ldI c94 (by decide) (by decide), rfl⟩)))))))) ?_
            rw [v27]
            refine XW.fam (S' := (80, [(3, .int t), (0, .ref 94), (1, .int sort), (2, .int v)], [.int 1, .int m, .ref 94], (sh, I26, L, R))) (M := mr_333) rfl (show mcode 333 79 = some (79, .iconst 1, 1, 0, 0, 0, _) from rfl) (Or.inl ⟨.int 1, rfl, rfl⟩) ?_
            refine XW.fam (S' := (81, [(3, .int t), (0, .ref 94), (1, .int sort), (2, .int v)], [.int (m + 1), .ref 94], (sh, I26, L, R))) (M := mr_333) rfl (show mcode 333 80 = some (80, .iadd, 1, 0, 0, 0, _) from rfl) (Or.inr (Or.inr (Or.inr (Or.inr (Or.inr (Or.inl ⟨_, rfl, rfl⟩)))))) ?_
            obtain ⟨I30, eI30⟩ : ∃ X, X = up2 I26 94 79 (m + 1) := ⟨_, rfl⟩
            refine XW.fam (S' := (84, [(3, .int t), (0, .ref 94), (1, .int sort), (2, .int v)], [], (sh, I30, L, R))) (M := mr_333) rfl (show mcode 333 81 = some (81, .putfield 551, 3, 12, 79, 0, _) from rfl) (Or.inr (Or.inr (Or.inr (Or.inr (Or.inr (Or.inr (Or.inr (Or.inr (Or.inl ⟨_, _, _, rfl, by rw [eI30]; exact stf_I c94 (by decide) (by decide) (by decide), rfl⟩))))))))) ?_
            have xi := inc32 (m := m) (by omega) (by omega)
            have hwI30 : wOK (mkT vV []) (wE sh R) (sh, I30, L, R) := by rw [eI30]; exact wOK_u2 (q := 94) (k := 79) (x := (m + 1)) wE_put hwI26 rfl (by show (0 : Int) ≤ _; omega) (by show _ ≤ (3 : Int); omega)
            have hfI30 : fresh (sh, I30, L, R) := by rw [eI30]; exact fresh_I hfI26 c94
            have v32 : I30 94 81 = mp := by rw [eI30, up2_ne (fun e => by cases e.2)]; exact v28
            have v33 : I30 148 (m).toNatClampNeg = v := by rw [eI30, up2_ne (fun e => by cases e.1)]; exact v29
            have v34 : I30 94 79 = (m + 1) := by rw [eI30]; exact up2_eq
            refine XW.fam (S' := (85, [(3, .int t), (0, .ref 94), (1, .int sort), (2, .int v)], [.ref 94], (sh, I30, L, R))) (M := mr_333) rfl (show mcode 333 84 = some (84, .aload_n 0, 1, 0, 0, 0, _) from rfl) (Or.inl ⟨.ref 94, rfl, rfl⟩) ?_
            refine XW.fam (S' := (88, [(3, .int t), (0, .ref 94), (1, .int sort), (2, .int v)], [.int (I30 94 79)], (sh, I30, L, R))) (M := mr_333) rfl (show mcode 333 85 = some (85, .getfield 551, 3, 12, 79, 0, _) from rfl) (Or.inr (Or.inr (Or.inr (Or.inr (Or.inr (Or.inr (Or.inr (Or.inl ⟨_, _, rfl, fl_ldI c94 (by decide) (by decide), rfl⟩)))))))) ?_
            rw [v34]
            refine XW.ret (r := some (.int (m + 1))) ⟨⟨.int, rfl, rfl⟩, by decide +kernel⟩ ?_
            refine ⟨?_, Or.inl ⟨?_, fun k => ?_⟩⟩
            · skip
              have hkp : ∀ q k, inm mdVM q k = false → I30 q k = I q k := by
                intro q k h
                rw [eI30, up2_ne (fun e => by rw [e.1, e.2] at h; cases h), eI26, up2_ne (fun e => by rw [e.1] at h; cases h)]
              have hrw : ∀ k, I30 148 k = I26 148 k := by
                intro k
                rw [eI30, up2_ne (fun e => by cases e.1)]
              refine Or.inl ⟨by omega, ⟨hfI30, ⟨sh, R, hwI30⟩, Or.inr (Or.inr ⟨⟨show okVM I v by unfold okVM; omega, ht⟩, by show (I 94 79).toInt < (3 : Int); rw [em]; omega, ?_, ?_, ?_, fun k hk => ?_, hkp⟩)⟩⟩
              · show some (Value.int _) = some (Value.int (I 94 79 + 1))
                rw [em]
              · show I30 94 79 = I 94 79 + 1
                rw [em]
                exact v34
              · show I30 148 (I 94 79).toNatClampNeg = _
                rw [hrw, em, eI26, up2_eq]
              · have hk : ¬ k = (I 94 79).toNatClampNeg := hk
                rw [em] at hk
                show I30 148 k = I 148 k
                rw [hrw, eI26, up2_ne (fun e => hk e.2)]
            · show I30 94 81 = I 94 81
              rw [eI30, up2_ne (fun e => by cases e.2), eI26, up2_ne (fun e => by cases e.1)]
            · show I30 150 k = I 150 k
              rw [eI30, up2_ne (fun e => by cases e.1), eI26, up2_ne (fun e => by cases e.1)]
          | false =>
            have gk24 : ¬ (¬ (m).toInt = 3) := icF (c := .ne) (a := (m).toInt) (b := 3) rfl (by decide) k24
            refine XW.fam (S' := (61, [(3, .int t), (0, .ref 94), (1, .int sort), (2, .int v)], [], (sh, I, L, R))) (M := mr_333) rfl (show mcode 333 58 = some (58, .if_icmp .ne 6, 3, 64, 0, 0, _) from rfl) (Or.inr (Or.inl ⟨61, [], by simp [brn, k24], rfl⟩)) ?_
            refine XW.fam (S' := (63, [(3, .int t), (0, .ref 94), (1, .int sort), (2, .int v)], [.int (-3)], (sh, I, L, R))) (M := mr_333) rfl (show mcode 333 61 = some (61, .bipush (-3), 2, 0, 0, 0, _) from rfl) (Or.inl ⟨.int (-3), rfl, rfl⟩) ?_
            refine XW.ret (r := some (.int (-3))) ⟨⟨.int, rfl, rfl⟩, by decide +kernel⟩ ?_
            refine ⟨?_, Or.inl ⟨rfl, fun _ => rfl⟩⟩
            exact Or.inl ⟨by omega, ⟨hf, ⟨sh, R, hw⟩, Or.inr (Or.inl ⟨⟨show okVM I v by unfold okVM; omega, ht⟩, by show (3 : Int) ≤ (I 94 79).toInt; rw [em]; omega, rfl, rfl⟩)⟩⟩
theorem app_row5 {A A1 A2 B B1 B2 : Nat → Int32} {c : Nat} {x : Int32} (h : ∀ k, A k = B k) (kb : ∀ k, B1 k = B k) (ka : ∀ k, A2 k = A1 k) (a : A1 c = x ∧ ∀ k, ¬ k = c → A1 k = A k) (b : B2 c = x ∧ ∀ k, ¬ k = c → B2 k = B1 k) : ∀ k, A2 k = B2 k := by
  intro k
  rw [ka]
  by_cases e : k = c
  · rw [e, a.1, b.1]
  · rw [a.2 k e, b.2 k e, kb, h]
theorem RLv_ship {p n e : Int32} {w w1 : mW} {r : Option Value} (hb : 0 ≤ (w.2.1 53 3).toInt ∧ (w.2.1 53 3).toInt ≤ 16) (h : RLv w) (hQ : Qapp 53 3 16 (okSC w.2.1 p n e) 0 mdSC w r w1) (hR : R5s 53 3 55 56 n e w w1) : RLv w1 := by
  have hk := Qapp_keep hQ
  have k2 : w1.2.1 75 2 = w.2.1 75 2 := hk 75 2 rfl
  have k3 : w1.2.1 75 3 = w.2.1 75 3 := hk 75 3 rfl
  have k76 : ∀ k, w1.2.1 76 k = w.2.1 76 k := fun k => hk 76 k rfl
  have k78 : ∀ k, w1.2.1 78 k = w.2.1 78 k := fun k => hk 78 k rfl
  have hi := inc32 (m := w.2.1 53 3) hb.1 (by omega)
  rcases hR with ⟨c, a, b⟩ | ⟨c, a, b⟩
  · exact RLv_keep k2 k3 c k76 a b k78 h
  · have ok : okSC w.2.1 p n e := by
      rcases hQ.2.2 with ⟨-, -, f⟩ | ⟨-, -, -, f⟩ | ⟨o, -⟩
      · exfalso
        rw [f] at c
        have := congrArg Int32.toInt c
        omega
      · exfalso
        rw [f] at c
        have := congrArg Int32.toInt c
        omega
      · exact o
    unfold okSC at ok
    refine ⟨fun k hk => ?_, fun s hs => ?_, fun q hq => ?_⟩
    · rw [k2] at hk
      rw [k76, c, hi]
      have := h.1 k hk
      omega
    · rw [c, hi] at hs
      have cn : (w.2.1 53 3).toNatClampNeg = (w.2.1 53 3).toInt.toNat := rfl
      by_cases z : s = (w.2.1 53 3).toNatClampNeg
      · rw [z, a.1, b.1]
        omega
      · rw [a.2 s z, b.2 s z]
        exact h.2.1 s (by omega)
    · rw [k3] at hq
      rw [k78]
      exact h.2.2 q hq
theorem ship5_like {p n e : Int32} {w w1 w2 : mW} {r1 r2 : Option Value} (hc : w.2.1 1 1 = w.2.1 94 2) (hK : ∀ k, w.2.1 3 k = w.2.1 96 k) (hs : w.2.1 53 3 = w.2.1 94 60) (h55 : ∀ k, w.2.1 55 k = w.2.1 135 k) (h56 : ∀ k, w.2.1 56 k = w.2.1 136 k) (hV : RLv w) (hb : ∀ k, 0 ≤ (w1.2.1 96 k).toInt ∧ (w1.2.1 96 k).toInt ≤ 1) (hm : 0 ≤ (w.2.1 53 3).toInt ∧ (w.2.1 53 3).toInt ≤ 16) (h1 : Qapp 53 3 16 (okSC w.2.1 p n e) 0 mdSC w r1 w1 ∧ R5s 53 3 55 56 n e w w1) (h2 : Qapp 94 60 16 (okSM w1.2.1 p n e) 0 mdSM w1 r2 w2 ∧ R5s 94 60 135 136 n e w1 w2) : r1 = r2 ∧ w2.2.1 53 3 = w2.2.1 94 60 ∧ (∀ k, w2.2.1 55 k = w2.2.1 135 k) ∧ (∀ k, w2.2.1 56 k = w2.2.1 136 k) ∧ RLv w2 := by
  have l := app_like hs rfl rfl h1.1 h2.1 (ship_ok (Qapp_keep h1.1 94 2 rfl) (fun k => Qapp_keep h1.1 96 k rfl) hc hK hb)
  have v1 := RLv_ship hm hV h1.1 h1.2
  have j := Qapp_keep h2.1
  have v2 : RLv w2 := RLv_keep (j 75 2 rfl) (j 75 3 rfl) (j 53 3 rfl) (fun k => j 76 k rfl) (fun k => j 55 k rfl) (fun k => j 56 k rfl) (fun k => j 78 k rfl) v1
  have k60 : w1.2.1 94 60 = w.2.1 94 60 := Qapp_keep h1.1 94 60 rfl
  have k135 : ∀ k, w1.2.1 135 k = w.2.1 135 k := fun k => Qapp_keep h1.1 135 k rfl
  have k136 : ∀ k, w1.2.1 136 k = w.2.1 136 k := fun k => Qapp_keep h1.1 136 k rfl
  have j3 : w2.2.1 53 3 = w1.2.1 53 3 := j 53 3 rfl
  have j55 : ∀ k, w2.2.1 55 k = w1.2.1 55 k := fun k => j 55 k rfl
  have j56 : ∀ k, w2.2.1 56 k = w1.2.1 56 k := fun k => j 56 k rfl
  have hi := inc32 (m := w.2.1 53 3) hm.1 (by omega)
  refine ⟨l.1, l.2, ?_⟩
  have ll := l.2
  rcases h1.2 with ⟨c1, a1, b1⟩ | ⟨c1, a1, b1⟩
  · rcases h2.2 with ⟨c2, a2, b2⟩ | ⟨c2, a2, b2⟩
    · exact ⟨fun k => by rw [j55, a1, a2, k135, h55], fun k => by rw [j56, b1, b2, k136, h56], v2⟩
    · exfalso
      rw [j3, c1, c2, k60, ← hs] at ll
      have := congrArg Int32.toInt ll
      omega
  · rcases h2.2 with ⟨c2, a2, b2⟩ | ⟨c2, a2, b2⟩
    · exfalso
      rw [j3, c1, c2, k60, ← hs] at ll
      have := congrArg Int32.toInt ll
      omega
    · rw [k60, ← hs] at a2 b2
      exact ⟨app_row5 h55 k135 j55 a1 a2, app_row5 h56 k136 j56 b1 b2, v2⟩
theorem RLv_turn {sort v : Int32} {w w1 : mW} {r : Option Value} (hb : 0 ≤ (w.2.1 75 2).toInt ∧ (w.2.1 75 2).toInt ≤ 3) (hp : 0 ≤ (w.2.1 75 3).toInt ∧ (w.2.1 75 3).toInt ≤ 3) (h : RLv w) (hQ : QTC sort v w r w1) (hR : R5p 75 3 78 (v - v / 1000 * 1000) w w1) : RLv w1 := by
  have hi2 := inc32 (m := w.2.1 75 2) hb.1 (by omega)
  have hi3 := inc32 (m := w.2.1 75 3) hp.1 (by omega)
  have same : w1.2.1 = w.2.1 → RLv w1 := by
    intro f
    unfold RLv at h ⊢
    rw [f]
    exact h
  rcases hQ with ⟨-, q⟩ | ⟨-, hv, q⟩ | ⟨-, -, -, -, -, f⟩
  · have hk := Qapr_keep q
    rcases q.2.2 with ⟨-, -, f⟩ | ⟨-, -, -, f⟩ | ⟨ok, -, -, c, x, y, -⟩
    · exact same f
    · exact same f
    · have ok1 : 0 ≤ v.toInt ∧ v.toInt < (w.2.1 53 3).toInt := ok.1
      refine ⟨fun k hk1 => ?_, fun s hs => ?_, fun p hp1 => ?_⟩
      · rw [c, hi2] at hk1
        rw [hk 53 3 rfl]
        have cn : (w.2.1 75 2).toNatClampNeg = (w.2.1 75 2).toInt.toNat := rfl
        by_cases z : k = (w.2.1 75 2).toNatClampNeg
        · rw [z, x]
          exact ok1
        · rw [y k z]
          exact h.1 k (by omega)
      · rw [hk 53 3 rfl] at hs
        rw [hk 55 s rfl, hk 56 s rfl]
        exact h.2.1 s hs
      · rw [hk 75 3 rfl] at hp1
        rw [hk 78 p rfl]
        exact h.2.2 p hp1
  · have hk := Qapr_keep q
    rcases hR with ⟨c, a⟩ | ⟨c, a⟩
    · exact RLv_keep (hk 75 2 rfl) c (hk 53 3 rfl) (fun k => hk 76 k rfl) (fun k => hk 55 k rfl) (fun k => hk 56 k rfl) a h
    · refine ⟨fun k hk1 => ?_, fun s hs => ?_, fun p hp1 => ?_⟩
      · rw [hk 75 2 rfl] at hk1
        rw [hk 76 k rfl, hk 53 3 rfl]
        exact h.1 k hk1
      · rw [hk 53 3 rfl] at hs
        rw [hk 55 s rfl, hk 56 s rfl]
        exact h.2.1 s hs
      · rw [c, hi3] at hp1
        have cn : (w.2.1 75 3).toNatClampNeg = (w.2.1 75 3).toInt.toNat := rfl
        by_cases z : p = (w.2.1 75 3).toNatClampNeg
        · rw [z, a.1, rm1000 hv]
          omega
        · rw [a.2 p z]
          exact h.2.2 p (by omega)
  · exact same f
theorem turn5_like {sort v : Int32} {w w1 w2 : mW} {r1 r2 : Option Value} (hc : w.2.1 1 1 = w.2.1 94 2) (hK : ∀ k, w.2.1 3 k = w.2.1 96 k) (hs : w.2.1 53 3 = w.2.1 94 60) (hns : w.2.1 75 2 = w.2.1 94 79) (hrs : ∀ k, w.2.1 76 k = w.2.1 148 k) (hnp : w.2.1 75 3 = w.2.1 94 81) (hrp : ∀ k, w.2.1 77 k = w.2.1 149 k) (h78 : ∀ k, w.2.1 78 k = w.2.1 150 k) (hV : RLv w) (hb : ∀ k, 0 ≤ (w1.2.1 96 k).toInt ∧ (w1.2.1 96 k).toInt ≤ 1) (hm2 : 0 ≤ (w.2.1 75 2).toInt ∧ (w.2.1 75 2).toInt ≤ 3) (hm3 : 0 ≤ (w.2.1 75 3).toInt ∧ (w.2.1 75 3).toInt ≤ 3) (h1 : QTC sort v w r1 w1 ∧ R5p 75 3 78 (v - v / 1000 * 1000) w w1) (h2 : QTM sort v w1 r2 w2 ∧ R5p 94 81 150 (v - v / 1000 * 1000) w1 w2) : r1 = r2 ∧ w2.2.1 75 2 = w2.2.1 94 79 ∧ (∀ k, w2.2.1 76 k = w2.2.1 148 k) ∧ w2.2.1 75 3 = w2.2.1 94 81 ∧ (∀ k, w2.2.1 77 k = w2.2.1 149 k) ∧ (∀ k, w2.2.1 78 k = w2.2.1 150 k) ∧ RLv w2 := by
  obtain ⟨l1, l2, l3, l4, l5⟩ := turn_like hc hK hs hns hrs hnp hrp hb h1.1 h2.1
  have kc := (QTC_of h1.1).2.2.2
  have km := (QTM_of h2.1).2.2.2
  have v1 := RLv_turn hm2 hm3 hV h1.1 h1.2
  have v2 : RLv w2 := RLv_keep (km 75 2 rfl) (km 75 3 rfl) (km 53 3 rfl) (fun k => km 76 k rfl) (fun k => km 55 k rfl) (fun k => km 56 k rfl) (fun k => km 78 k rfl) v1
  refine ⟨l1, l2, l3, l4, l5, ?_, v2⟩
  have k81 : w1.2.1 94 81 = w.2.1 94 81 := kc 94 81 rfl
  have k150 : ∀ k, w1.2.1 150 k = w.2.1 150 k := fun k => kc 150 k rfl
  have j3 : w2.2.1 75 3 = w1.2.1 75 3 := km 75 3 rfl
  have j78 : ∀ k, w2.2.1 78 k = w1.2.1 78 k := fun k => km 78 k rfl
  have hi := inc32 (m := w.2.1 75 3) hm3.1 (by omega)
  rcases h1.2 with ⟨c1, a1⟩ | ⟨c1, a1⟩
  · rcases h2.2 with ⟨c2, a2⟩ | ⟨c2, a2⟩
    · exact fun k => by rw [j78, a1, a2, k150, h78]
    · exfalso
      rw [j3, c1, c2, k81, ← hnp] at l4
      have := congrArg Int32.toInt l4
      omega
  · rcases h2.2 with ⟨c2, a2⟩ | ⟨c2, a2⟩
    · exfalso
      rw [j3, c1, c2, k81, ← hnp] at l4
      have := congrArg Int32.toInt l4
      omega
    · rw [k81, ← hnp] at a2
      exact app_row5 h78 k150 j78 a1 a2
