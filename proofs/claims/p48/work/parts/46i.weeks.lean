/-! ===== line of our side: the weeks (wip/genline4.py) ===== -/
theorem tc_fill93 {d : Nat} {sh : List mE} {I : Nat → Nat → Int32} {L : Nat → Nat → Int64} {R : Nat → Nat → Option Nat} (hw : wOK (mkT vV []) (wE sh R) (sh, I, L, R)) (hf : fresh (sh, I, L, R)) : Tc 4 d 0 0 [.ref 93, .int 0] (sh, I, L, R) (fun r w' => r = none ∧ fresh w' ∧ wOK (mkT vV []) (wE sh R) w' ∧ (∀ q k, ¬ q = 93 → w'.2.1 q k = I q k) ∧ ∀ k : Nat, k < 4 → w'.2.1 93 k = 0) := by
  have c93 : sh[93]? = some (.inl (.int, 4)) := hw.1 93 _ rfl
  have z0 : (0 : Int32).toInt = 0 := rfl
  have z4 : (4 : Int32).toInt = 4 := rfl
  refine Tc.of mr_4 rfl (show 2 ≤ mr_4.2.2.2.1 by decide) ?_
  refine XW.fam (S' := (1, [(0, .ref 93), (1, .int 0)], [.int 0], (sh, I, L, R))) (M := mr_4) rfl (show mcode 4 0 = some (0, .iconst 0, 1, 0, 0, 0, _) from rfl) (Or.inl ⟨.int 0, rfl, rfl⟩) ?_
  refine XW.fam (S' := (2, [(2, .int 0), (0, .ref 93), (1, .int 0)], [], (sh, I, L, R))) (M := mr_4) rfl (show mcode 4 1 = some (1, .istore_n 2, 1, 0, 0, 0, _) from rfl) (Or.inr (Or.inr (Or.inr (Or.inr (Or.inr (Or.inr (Or.inl ⟨_, [], _, rfl, rfl, rfl⟩))))))) ?_
  refine XW.fam (S' := (3, [(2, .int 0), (0, .ref 93), (1, .int 0)], [.ref 93], (sh, I, L, R))) (M := mr_4) rfl (show mcode 4 2 = some (2, .aload_n 0, 1, 0, 0, 0, _) from rfl) (Or.inl ⟨.ref 93, rfl, rfl⟩) ?_
  refine XW.fam (S' := (4, [(2, .int 0), (0, .ref 93), (1, .int 0)], [.int 4], (sh, I, L, R))) (M := mr_4) rfl (show mcode 4 3 = some (3, .arraylength, 1, 0, 0, 0, _) from rfl) (Or.inr (Or.inr (Or.inl ⟨_, by simp [lda, c93], rfl⟩))) ?_
  refine XW.fam (S' := (5, [(3, .int 4), (2, .int 0), (0, .ref 93), (1, .int 0)], [], (sh, I, L, R))) (M := mr_4) rfl (show mcode 4 4 = some (4, .istore_n 3, 1, 0, 0, 0, _) from rfl) (Or.inr (Or.inr (Or.inr (Or.inr (Or.inr (Or.inr (Or.inl ⟨_, [], _, rfl, rfl, rfl⟩))))))) ?_
  refine XW.fam (S' := (6, [(3, .int 4), (2, .int 0), (0, .ref 93), (1, .int 0)], [.int 0], (sh, I, L, R))) (M := mr_4) rfl (show mcode 4 5 = some (5, .iload_n 2, 1, 0, 0, 0, _) from rfl) (Or.inl ⟨.int 0, rfl, rfl⟩) ?_
  refine XW.fam (S' := (7, [(3, .int 4), (2, .int 0), (0, .ref 93), (1, .int 0)], [.int 4, .int 0], (sh, I, L, R))) (M := mr_4) rfl (show mcode 4 6 = some (6, .iload_n 3, 1, 0, 0, 0, _) from rfl) (Or.inl ⟨.int 4, rfl, rfl⟩) ?_
  refine XW.fam (S' := (10, [(3, .int 4), (2, .int 0), (0, .ref 93), (1, .int 0)], [], (sh, I, L, R))) (M := mr_4) rfl (show mcode 4 7 = some (7, .if_icmp .ge 13, 3, 20, 0, 0, _) from rfl) (Or.inr (Or.inl ⟨10, [], rfl, rfl⟩)) ?_
  refine XW.fam (S' := (11, [(3, .int 4), (2, .int 0), (0, .ref 93), (1, .int 0)], [.ref 93], (sh, I, L, R))) (M := mr_4) rfl (show mcode 4 10 = some (10, .aload_n 0, 1, 0, 0, 0, _) from rfl) (Or.inl ⟨.ref 93, rfl, rfl⟩) ?_
  refine XW.fam (S' := (12, [(3, .int 4), (2, .int 0), (0, .ref 93), (1, .int 0)], [.int 0, .ref 93], (sh, I, L, R))) (M := mr_4) rfl (show mcode 4 11 = some (11, .iload_n 2, 1, 0, 0, 0, _) from rfl) (Or.inl ⟨.int 0, rfl, rfl⟩) ?_
  refine XW.fam (S' := (13, [(3, .int 4), (2, .int 0), (0, .ref 93), (1, .int 0)], [.int 0, .int 0, .ref 93], (sh, I, L, R))) (M := mr_4) rfl (show mcode 4 12 = some (12, .iload_n 1, 1, 0, 0, 0, _) from rfl) (Or.inl ⟨.int 0, rfl, rfl⟩) ?_
  obtain ⟨I1, eI1⟩ : ∃ X, X = up2 I 93 (0 : Int32).toNatClampNeg 0 := ⟨_, rfl⟩
  refine XW.fam (S' := (14, [(3, .int 4), (2, .int 0), (0, .ref 93), (1, .int 0)], [], (sh, I1, L, R))) (M := mr_4) rfl (show mcode 4 13 = some (13, .iastore, 1, 0, 0, 0, _) from rfl) (Or.inr (Or.inr (Or.inr (Or.inl ⟨_, _, by rw [eI1]; exact sta_i c93 (show inR (0 : Int32) 4 = true by decide), rfl⟩)))) ?_
  have hwI1 : wOK (mkT vV []) (wE sh R) (sh, I1, L, R) := by rw [eI1]; exact wOK_u2 (q := 93) (k := (0 : Int32).toNatClampNeg) (x := 0) wE_put hw rfl (by show (0 : Int) ≤ _; omega) (by show _ ≤ (2147483647 : Int); omega)
  have hfI1 : fresh (sh, I1, L, R) := by rw [eI1]; exact fresh_I hf c93
  have v2 : I1 93 (0 : Int32).toNatClampNeg = 0 := by rw [eI1]; exact up2_eq
  refine XW.fam (S' := (17, [(2, .int 1), (3, .int 4), (0, .ref 93), (1, .int 0)], [], (sh, I1, L, R))) (M := mr_4) rfl (show mcode 4 14 = some (14, .iinc 2 1, 3, 0, 0, 0, _) from rfl) (Or.inr (Or.inr (Or.inr (Or.inr (Or.inr (Or.inr (Or.inr (Or.inr (Or.inr ⟨2, 1, 0, rfl, rfl, by decide, rfl⟩))))))))) ?_
  refine XW.fam (S' := (5, [(2, .int 1), (3, .int 4), (0, .ref 93), (1, .int 0)], [], (sh, I1, L, R))) (M := mr_4) rfl (show mcode 4 17 = some (17, .goto (-12), 3, 5, 0, 0, _) from rfl) (Or.inr (Or.inl ⟨5, [], rfl, rfl⟩)) ?_
  refine XW.fam (S' := (6, [(2, .int 1), (3, .int 4), (0, .ref 93), (1, .int 0)], [.int 1], (sh, I1, L, R))) (M := mr_4) rfl (show mcode 4 5 = some (5, .iload_n 2, 1, 0, 0, 0, _) from rfl) (Or.inl ⟨.int 1, rfl, rfl⟩) ?_
  refine XW.fam (S' := (7, [(2, .int 1), (3, .int 4), (0, .ref 93), (1, .int 0)], [.int 4, .int 1], (sh, I1, L, R))) (M := mr_4) rfl (show mcode 4 6 = some (6, .iload_n 3, 1, 0, 0, 0, _) from rfl) (Or.inl ⟨.int 4, rfl, rfl⟩) ?_
  refine XW.fam (S' := (10, [(2, .int 1), (3, .int 4), (0, .ref 93), (1, .int 0)], [], (sh, I1, L, R))) (M := mr_4) rfl (show mcode 4 7 = some (7, .if_icmp .ge 13, 3, 20, 0, 0, _) from rfl) (Or.inr (Or.inl ⟨10, [], rfl, rfl⟩)) ?_
  refine XW.fam (S' := (11, [(2, .int 1), (3, .int 4), (0, .ref 93), (1, .int 0)], [.ref 93], (sh, I1, L, R))) (M := mr_4) rfl (show mcode 4 10 = some (10, .aload_n 0, 1, 0, 0, 0, _) from rfl) (Or.inl ⟨.ref 93, rfl, rfl⟩) ?_
  refine XW.fam (S' := (12, [(2, .int 1), (3, .int 4), (0, .ref 93), (1, .int 0)], [.int 1, .ref 93], (sh, I1, L, R))) (M := mr_4) rfl (show mcode 4 11 = some (11, .iload_n 2, 1, 0, 0, 0, _) from rfl) (Or.inl ⟨.int 1, rfl, rfl⟩) ?_
  refine XW.fam (S' := (13, [(2, .int 1), (3, .int 4), (0, .ref 93), (1, .int 0)], [.int 0, .int 1, .ref 93], (sh, I1, L, R))) (M := mr_4) rfl (show mcode 4 12 = some (12, .iload_n 1, 1, 0, 0, 0, _) from rfl) (Or.inl ⟨.int 0, rfl, rfl⟩) ?_
  obtain ⟨I3, eI3⟩ : ∃ X, X = up2 I1 93 (1 : Int32).toNatClampNeg 0 := ⟨_, rfl⟩
  refine XW.fam (S' := (14, [(2, .int 1), (3, .int 4), (0, .ref 93), (1, .int 0)], [], (sh, I3, L, R))) (M := mr_4) rfl (show mcode 4 13 = some (13, .iastore, 1, 0, 0, 0, _) from rfl) (Or.inr (Or.inr (Or.inr (Or.inl ⟨_, _, by rw [eI3]; exact sta_i c93 (show inR (1 : Int32) 4 = true by decide), rfl⟩)))) ?_
  have hwI3 : wOK (mkT vV []) (wE sh R) (sh, I3, L, R) := by rw [eI3]; exact wOK_u2 (q := 93) (k := (1 : Int32).toNatClampNeg) (x := 0) wE_put hwI1 rfl (by show (0 : Int) ≤ _; omega) (by show _ ≤ (2147483647 : Int); omega)
  have hfI3 : fresh (sh, I3, L, R) := by rw [eI3]; exact fresh_I hfI1 c93
  have v5 : I3 93 (1 : Int32).toNatClampNeg = 0 := by rw [eI3]; exact up2_eq
  refine XW.fam (S' := (17, [(2, .int 2), (3, .int 4), (0, .ref 93), (1, .int 0)], [], (sh, I3, L, R))) (M := mr_4) rfl (show mcode 4 14 = some (14, .iinc 2 1, 3, 0, 0, 0, _) from rfl) (Or.inr (Or.inr (Or.inr (Or.inr (Or.inr (Or.inr (Or.inr (Or.inr (Or.inr ⟨2, 1, 1, rfl, rfl, by decide, rfl⟩))))))))) ?_
  refine XW.fam (S' := (5, [(2, .int 2), (3, .int 4), (0, .ref 93), (1, .int 0)], [], (sh, I3, L, R))) (M := mr_4) rfl (show mcode 4 17 = some (17, .goto (-12), 3, 5, 0, 0, _) from rfl) (Or.inr (Or.inl ⟨5, [], rfl, rfl⟩)) ?_
  refine XW.fam (S' := (6, [(2, .int 2), (3, .int 4), (0, .ref 93), (1, .int 0)], [.int 2], (sh, I3, L, R))) (M := mr_4) rfl (show mcode 4 5 = some (5, .iload_n 2, 1, 0, 0, 0, _) from rfl) (Or.inl ⟨.int 2, rfl, rfl⟩) ?_
  refine XW.fam (S' := (7, [(2, .int 2), (3, .int 4), (0, .ref 93), (1, .int 0)], [.int 4, .int 2], (sh, I3, L, R))) (M := mr_4) rfl (show mcode 4 6 = some (6, .iload_n 3, 1, 0, 0, 0, _) from rfl) (Or.inl ⟨.int 4, rfl, rfl⟩) ?_
  refine XW.fam (S' := (10, [(2, .int 2), (3, .int 4), (0, .ref 93), (1, .int 0)], [], (sh, I3, L, R))) (M := mr_4) rfl (show mcode 4 7 = some (7, .if_icmp .ge 13, 3, 20, 0, 0, _) from rfl) (Or.inr (Or.inl ⟨10, [], rfl, rfl⟩)) ?_
  refine XW.fam (S' := (11, [(2, .int 2), (3, .int 4), (0, .ref 93), (1, .int 0)], [.ref 93], (sh, I3, L, R))) (M := mr_4) rfl (show mcode 4 10 = some (10, .aload_n 0, 1, 0, 0, 0, _) from rfl) (Or.inl ⟨.ref 93, rfl, rfl⟩) ?_
  refine XW.fam (S' := (12, [(2, .int 2), (3, .int 4), (0, .ref 93), (1, .int 0)], [.int 2, .ref 93], (sh, I3, L, R))) (M := mr_4) rfl (show mcode 4 11 = some (11, .iload_n 2, 1, 0, 0, 0, _) from rfl) (Or.inl ⟨.int 2, rfl, rfl⟩) ?_
  refine XW.fam (S' := (13, [(2, .int 2), (3, .int 4), (0, .ref 93), (1, .int 0)], [.int 0, .int 2, .ref 93], (sh, I3, L, R))) (M := mr_4) rfl (show mcode 4 12 = some (12, .iload_n 1, 1, 0, 0, 0, _) from rfl) (Or.inl ⟨.int 0, rfl, rfl⟩) ?_
  obtain ⟨I6, eI6⟩ : ∃ X, X = up2 I3 93 (2 : Int32).toNatClampNeg 0 := ⟨_, rfl⟩
  refine XW.fam (S' := (14, [(2, .int 2), (3, .int 4), (0, .ref 93), (1, .int 0)], [], (sh, I6, L, R))) (M := mr_4) rfl (show mcode 4 13 = some (13, .iastore, 1, 0, 0, 0, _) from rfl) (Or.inr (Or.inr (Or.inr (Or.inl ⟨_, _, by rw [eI6]; exact sta_i c93 (show inR (2 : Int32) 4 = true by decide), rfl⟩)))) ?_
  have hwI6 : wOK (mkT vV []) (wE sh R) (sh, I6, L, R) := by rw [eI6]; exact wOK_u2 (q := 93) (k := (2 : Int32).toNatClampNeg) (x := 0) wE_put hwI3 rfl (by show (0 : Int) ≤ _; omega) (by show _ ≤ (2147483647 : Int); omega)
  have hfI6 : fresh (sh, I6, L, R) := by rw [eI6]; exact fresh_I hfI3 c93
  have v8 : I6 93 (2 : Int32).toNatClampNeg = 0 := by rw [eI6]; exact up2_eq
  refine XW.fam (S' := (17, [(2, .int 3), (3, .int 4), (0, .ref 93), (1, .int 0)], [], (sh, I6, L, R))) (M := mr_4) rfl (show mcode 4 14 = some (14, .iinc 2 1, 3, 0, 0, 0, _) from rfl) (Or.inr (Or.inr (Or.inr (Or.inr (Or.inr (Or.inr (Or.inr (Or.inr (Or.inr ⟨2, 1, 2, rfl, rfl, by decide, rfl⟩))))))))) ?_
  refine XW.fam (S' := (5, [(2, .int 3), (3, .int 4), (0, .ref 93), (1, .int 0)], [], (sh, I6, L, R))) (M := mr_4) rfl (show mcode 4 17 = some (17, .goto (-12), 3, 5, 0, 0, _) from rfl) (Or.inr (Or.inl ⟨5, [], rfl, rfl⟩)) ?_
  refine XW.fam (S' := (6, [(2, .int 3), (3, .int 4), (0, .ref 93), (1, .int 0)], [.int 3], (sh, I6, L, R))) (M := mr_4) rfl (show mcode 4 5 = some (5, .iload_n 2, 1, 0, 0, 0, _) from rfl) (Or.inl ⟨.int 3, rfl, rfl⟩) ?_
  refine XW.fam (S' := (7, [(2, .int 3), (3, .int 4), (0, .ref 93), (1, .int 0)], [.int 4, .int 3], (sh, I6, L, R))) (M := mr_4) rfl (show mcode 4 6 = some (6, .iload_n 3, 1, 0, 0, 0, _) from rfl) (Or.inl ⟨.int 4, rfl, rfl⟩) ?_
  refine XW.fam (S' := (10, [(2, .int 3), (3, .int 4), (0, .ref 93), (1, .int 0)], [], (sh, I6, L, R))) (M := mr_4) rfl (show mcode 4 7 = some (7, .if_icmp .ge 13, 3, 20, 0, 0, _) from rfl) (Or.inr (Or.inl ⟨10, [], rfl, rfl⟩)) ?_
  refine XW.fam (S' := (11, [(2, .int 3), (3, .int 4), (0, .ref 93), (1, .int 0)], [.ref 93], (sh, I6, L, R))) (M := mr_4) rfl (show mcode 4 10 = some (10, .aload_n 0, 1, 0, 0, 0, _) from rfl) (Or.inl ⟨.ref 93, rfl, rfl⟩) ?_
  refine XW.fam (S' := (12, [(2, .int 3), (3, .int 4), (0, .ref 93), (1, .int 0)], [.int 3, .ref 93], (sh, I6, L, R))) (M := mr_4) rfl (show mcode 4 11 = some (11, .iload_n 2, 1, 0, 0, 0, _) from rfl) (Or.inl ⟨.int 3, rfl, rfl⟩) ?_
  refine XW.fam (S' := (13, [(2, .int 3), (3, .int 4), (0, .ref 93), (1, .int 0)], [.int 0, .int 3, .ref 93], (sh, I6, L, R))) (M := mr_4) rfl (show mcode 4 12 = some (12, .iload_n 1, 1, 0, 0, 0, _) from rfl) (Or.inl ⟨.int 0, rfl, rfl⟩) ?_
  obtain ⟨I9, eI9⟩ : ∃ X, X = up2 I6 93 (3 : Int32).toNatClampNeg 0 := ⟨_, rfl⟩
  refine XW.fam (S' := (14, [(2, .int 3), (3, .int 4), (0, .ref 93), (1, .int 0)], [], (sh, I9, L, R))) (M := mr_4) rfl (show mcode 4 13 = some (13, .iastore, 1, 0, 0, 0, _) from rfl) (Or.inr (Or.inr (Or.inr (Or.inl ⟨_, _, by rw [eI9]; exact sta_i c93 (show inR (3 : Int32) 4 = true by decide), rfl⟩)))) ?_
  have hwI9 : wOK (mkT vV []) (wE sh R) (sh, I9, L, R) := by rw [eI9]; exact wOK_u2 (q := 93) (k := (3 : Int32).toNatClampNeg) (x := 0) wE_put hwI6 rfl (by show (0 : Int) ≤ _; omega) (by show _ ≤ (2147483647 : Int); omega)
  have hfI9 : fresh (sh, I9, L, R) := by rw [eI9]; exact fresh_I hfI6 c93
  have v11 : I9 93 (3 : Int32).toNatClampNeg = 0 := by rw [eI9]; exact up2_eq
  refine XW.fam (S' := (17, [(2, .int 4), (3, .int 4), (0, .ref 93), (1, .int 0)], [], (sh, I9, L, R))) (M := mr_4) rfl (show mcode 4 14 = some (14, .iinc 2 1, 3, 0, 0, 0, _) from rfl) (Or.inr (Or.inr (Or.inr (Or.inr (Or.inr (Or.inr (Or.inr (Or.inr (Or.inr ⟨2, 1, 3, rfl, rfl, by decide, rfl⟩))))))))) ?_
  refine XW.fam (S' := (5, [(2, .int 4), (3, .int 4), (0, .ref 93), (1, .int 0)], [], (sh, I9, L, R))) (M := mr_4) rfl (show mcode 4 17 = some (17, .goto (-12), 3, 5, 0, 0, _) from rfl) (Or.inr (Or.inl ⟨5, [], rfl, rfl⟩)) ?_
  refine XW.fam (S' := (6, [(2, .int 4), (3, .int 4), (0, .ref 93), (1, .int 0)], [.int 4], (sh, I9, L, R))) (M := mr_4) rfl (show mcode 4 5 = some (5, .iload_n 2, 1, 0, 0, 0, _) from rfl) (Or.inl ⟨.int 4, rfl, rfl⟩) ?_
  refine XW.fam (S' := (7, [(2, .int 4), (3, .int 4), (0, .ref 93), (1, .int 0)], [.int 4, .int 4], (sh, I9, L, R))) (M := mr_4) rfl (show mcode 4 6 = some (6, .iload_n 3, 1, 0, 0, 0, _) from rfl) (Or.inl ⟨.int 4, rfl, rfl⟩) ?_
  refine XW.fam (S' := (20, [(2, .int 4), (3, .int 4), (0, .ref 93), (1, .int 0)], [], (sh, I9, L, R))) (M := mr_4) rfl (show mcode 4 7 = some (7, .if_icmp .ge 13, 3, 20, 0, 0, _) from rfl) (Or.inr (Or.inl ⟨20, [], rfl, rfl⟩)) ?_
  refine XW.ret (r := none) ⟨rfl, by decide +kernel⟩ ?_
  have a0_0 : I1 93 0 = 0 := by rw [eI1]; exact up2_eq
  have a1_0 : I3 93 0 = 0 := by rw [eI3]; exact up2_v a0_0
  have a1_1 : I3 93 1 = 0 := by rw [eI3]; exact up2_eq
  have a2_0 : I6 93 0 = 0 := by rw [eI6]; exact up2_v a1_0
  have a2_1 : I6 93 1 = 0 := by rw [eI6]; exact up2_v a1_1
  have a2_2 : I6 93 2 = 0 := by rw [eI6]; exact up2_eq
  have a3_0 : I9 93 0 = 0 := by rw [eI9]; exact up2_v a2_0
  have a3_1 : I9 93 1 = 0 := by rw [eI9]; exact up2_v a2_1
  have a3_2 : I9 93 2 = 0 := by rw [eI9]; exact up2_v a2_2
  have a3_3 : I9 93 3 = 0 := by rw [eI9]; exact up2_eq
  refine ⟨rfl, hfI9, hwI9, fun q k hq => ?_, fun k hk => ?_⟩
  · show I9 q k = I q k
    rw [eI9, up2_ne (fun e => hq e.1), eI6, up2_ne (fun e => hq e.1), eI3, up2_ne (fun e => hq e.1), eI1, up2_ne (fun e => hq e.1)]
  · have hk4 : k = 0 ∨ k = 1 ∨ k = 2 ∨ k = 3 := by omega
    rcases hk4 with rfl | rfl | rfl | rfl
    · exact a3_0
    · exact a3_1
    · exact a3_2
    · exact a3_3
theorem low_in {d : Nat} {sh : List mE} {I : Nat → Nat → Int32} {L : Nat → Nat → Int64} {R : Nat → Nat → Option Nat} {wk rw wt t room : Int32} {l0 : Nat} (hw : wOK (mkT vV []) (wE sh R) (sh, I, L, R)) (hh : ∀ k, 0 ≤ (I 91 k).toInt ∧ (I 91 k).toInt ≤ 199) {Q : Option Value → mW → Prop} (K : ∀ low come : Int32, fallS (I 91) room.toInt l0 0 = (low.toInt.toNat, come.toInt) → 0 ≤ low.toInt → low.toInt ≤ 100 → 0 ≤ come.toInt → come.toInt ≤ 20000 → XW 205 mr_205 none (d + 2) 0 0 Q (81, [(7, .int come), (6, .int room), (5, .int t), (4, .int low), (0, .ref 90), (1, .int wk), (2, .int rw), (3, .int wt)], [], (sh, I, L, R))) : ∀ (z : Nat) (low come : Int32), 0 ≤ low.toInt → low.toInt ≤ 100 → low.toInt < z → 0 ≤ come.toInt → come.toInt ≤ 199 * (100 - low.toInt) → fallS (I 91) room.toInt l0 0 = fallS (I 91) room.toInt low.toInt.toNat come.toInt → XW 205 mr_205 none (d + 2) 0 0 Q (41, [(7, .int come), (6, .int room), (5, .int t), (4, .int low), (0, .ref 90), (1, .int wk), (2, .int rw), (3, .int wt)], [], (sh, I, L, R)) := by
  have c90 : sh[90]? = some (.inr 11) := hw.1 90 _ rfl
  have c91 : sh[91]? = some (.inl (.int, 100)) := hw.1 91 _ rfl
  have r90_0 : R 90 0 = some 91 := hw.2.1 90 0 _ rfl
  have z0 : (0 : Int32).toInt = 0 := rfl
  have z1 : (1 : Int32).toInt = 1 := rfl
  intro z
  induction z with
  | zero =>
    intro low come h1 h2 hz h3 h4 hfl
    exfalso
    omega
  | succ z ih =>
    intro low come h1 h2 hz h3 h4 hfl
    refine XW.fam (S' := (43, [(7, .int come), (6, .int room), (5, .int t), (4, .int low), (0, .ref 90), (1, .int wk), (2, .int rw), (3, .int wt)], [.int low], (sh, I, L, R))) (M := mr_205) rfl (show mcode 205 41 = some (41, .iload 4, 2, 0, 0, 0, _) from rfl) (Or.inl ⟨.int low, rfl, rfl⟩) ?_
    cases k1 : bcmp .le low 0 with
    | true =>
      have gk1 : (low).toInt ≤ 0 := icT (c := .le) (a := (low).toInt) (b := 0) rfl (by decide) k1
      refine XW.fam (S' := (81, [(7, .int come), (6, .int room), (5, .int t), (4, .int low), (0, .ref 90), (1, .int wk), (2, .int rw), (3, .int wt)], [], (sh, I, L, R))) (M := mr_205) rfl (show mcode 205 43 = some (43, .ifCond .le 38, 3, 81, 0, 0, _) from rfl) (Or.inr (Or.inl ⟨81, [], by simp [brn, k1], rfl⟩)) ?_
      refine XW.sub (ls' := [(7, .int come), (6, .int room), (5, .int t), (4, .int low), (0, .ref 90), (1, .int wk), (2, .int rw), (3, .int wt)]) (List.forall_mem_cons.mpr ⟨List.mem_of_getElem? (i := 0) rfl, (List.forall_mem_cons.mpr ⟨List.mem_of_getElem? (i := 1) rfl, (List.forall_mem_cons.mpr ⟨List.mem_of_getElem? (i := 2) rfl, (List.forall_mem_cons.mpr ⟨List.mem_of_getElem? (i := 3) rfl, (List.forall_mem_cons.mpr ⟨List.mem_of_getElem? (i := 4) rfl, (List.forall_mem_cons.mpr ⟨List.mem_of_getElem? (i := 5) rfl, (List.forall_mem_cons.mpr ⟨List.mem_of_getElem? (i := 6) rfl, (List.forall_mem_cons.mpr ⟨List.mem_of_getElem? (i := 7) rfl, (fun _ h => absurd h List.not_mem_nil)⟩)⟩)⟩)⟩)⟩)⟩)⟩)⟩) ?_
      refine K low come ?_ (by omega) (by omega) (by omega) (by omega)
      rw [hfl]
      by_cases c0 : low.toInt = 0
      · have e0 : low.toInt.toNat = 0 := by omega
        rw [e0]
        rfl
      · obtain ⟨l, el⟩ : ∃ l, low.toInt.toNat = l + 1 := ⟨low.toInt.toNat - 1, by omega⟩
        have el2 : low.toInt.toNat - 1 = l := by omega
        rw [el]
        show (if come.toInt + (I 91 l).toInt ≤ room.toInt then fallS (I 91) room.toInt l (come.toInt + (I 91 l).toInt) else (l + 1, come.toInt)) = _
        exact if_neg (fun q => by rw [← el2] at q; omega)
    | false =>
      have gk1 : ¬ ((low).toInt ≤ 0) := icF (c := .le) (a := (low).toInt) (b := 0) rfl (by decide) k1
      refine XW.fam (S' := (46, [(7, .int come), (6, .int room), (5, .int t), (4, .int low), (0, .ref 90), (1, .int wk), (2, .int rw), (3, .int wt)], [], (sh, I, L, R))) (M := mr_205) rfl (show mcode 205 43 = some (43, .ifCond .le 38, 3, 81, 0, 0, _) from rfl) (Or.inr (Or.inl ⟨46, [], by simp [brn, k1], rfl⟩)) ?_
      refine XW.fam (S' := (48, [(7, .int come), (6, .int room), (5, .int t), (4, .int low), (0, .ref 90), (1, .int wk), (2, .int rw), (3, .int wt)], [.int come], (sh, I, L, R))) (M := mr_205) rfl (show mcode 205 46 = some (46, .iload 7, 2, 0, 0, 0, _) from rfl) (Or.inl ⟨.int come, rfl, rfl⟩) ?_
      refine XW.fam (S' := (49, [(7, .int come), (6, .int room), (5, .int t), (4, .int low), (0, .ref 90), (1, .int wk), (2, .int rw), (3, .int wt)], [.ref 90, .int come], (sh, I, L, R))) (M := mr_205) rfl (show mcode 205 48 = some (48, .aload_n 0, 1, 0, 0, 0, _) from rfl) (Or.inl ⟨.ref 90, rfl, rfl⟩) ?_
      refine XW.fam (S' := (52, [(7, .int come), (6, .int room), (5, .int t), (4, .int low), (0, .ref 90), (1, .int wk), (2, .int rw), (3, .int wt)], [.ref 91, .int come], (sh, I, L, R))) (M := mr_205) rfl (show mcode 205 49 = some (49, .getfield 11, 3, 11, 0, 0, _) from rfl) (Or.inr (Or.inr (Or.inr (Or.inr (Or.inr (Or.inr (Or.inr (Or.inl ⟨_, _, rfl, fl_ld c90 r90_0 (by decide) (by decide), rfl⟩)))))))) ?_
      refine XW.fam (S' := (54, [(7, .int come), (6, .int room), (5, .int t), (4, .int low), (0, .ref 90), (1, .int wk), (2, .int rw), (3, .int wt)], [.int low, .ref 91, .int come], (sh, I, L, R))) (M := mr_205) rfl (show mcode 205 52 = some (52, .iload 4, 2, 0, 0, 0, _) from rfl) (Or.inl ⟨.int low, rfl, rfl⟩) ?_
      refine XW.fam (S' := (55, [(7, .int come), (6, .int room), (5, .int t), (4, .int low), (0, .ref 90), (1, .int wk), (2, .int rw), (3, .int wt)], [.int 1, .int low, .ref 91, .int come], (sh, I, L, R))) (M := mr_205) rfl (show mcode 205 54 = some (54, .iconst 1, 1, 0, 0, 0, _) from rfl) (Or.inl ⟨.int 1, rfl, rfl⟩) ?_
      refine XW.fam (S' := (56, [(7, .int come), (6, .int room), (5, .int t), (4, .int low), (0, .ref 90), (1, .int wk), (2, .int rw), (3, .int wt)], [.int (low - 1), .ref 91, .int come], (sh, I, L, R))) (M := mr_205) rfl (show mcode 205 55 = some (55, .isub, 1, 0, 0, 0, _) from rfl) (Or.inr (Or.inr (Or.inr (Or.inr (Or.inr (Or.inl ⟨_, rfl, rfl⟩)))))) ?_
      have xhin2 := sub1I (m := low) (by omega) (by omega)
      have hin2 : inR (low - 1) 100 = true := inR_of (by omega) (by omega)
      refine XW.fam (S' := (57, [(7, .int come), (6, .int room), (5, .int t), (4, .int low), (0, .ref 90), (1, .int wk), (2, .int rw), (3, .int wt)], [.int (I 91 ((low - 1)).toNatClampNeg), .int come], (sh, I, L, R))) (M := mr_205) rfl (show mcode 205 56 = some (56, .iaload, 1, 0, 0, 0, _) from rfl) (Or.inr (Or.inr (Or.inl ⟨_, lda_i c91 hin2, rfl⟩))) ?_
      have ek : (low - 1).toNatClampNeg = low.toInt.toNat - 1 := by show (low - 1).toInt.toNat = _; have := sub1I (m := low) (by omega) (by omega); omega
      rw [ek]
      clear xhin2 hin2 ek
      have hH := hh (low.toInt.toNat - 1)
      obtain ⟨hv, ehv⟩ : ∃ z, I 91 (low.toInt.toNat - 1) = z := ⟨_, rfl⟩
      rw [ehv] at hH ⊢
      have es := sumS (a := come) (b := hv) (by omega) (by omega)
      refine XW.fam (S' := (58, [(7, .int come), (6, .int room), (5, .int t), (4, .int low), (0, .ref 90), (1, .int wk), (2, .int rw), (3, .int wt)], [.int (come + hv)], (sh, I, L, R))) (M := mr_205) rfl (show mcode 205 57 = some (57, .iadd, 1, 0, 0, 0, _) from rfl) (Or.inr (Or.inr (Or.inr (Or.inr (Or.inr (Or.inl ⟨_, rfl, rfl⟩)))))) ?_
      refine XW.fam (S' := (60, [(7, .int come), (6, .int room), (5, .int t), (4, .int low), (0, .ref 90), (1, .int wk), (2, .int rw), (3, .int wt)], [.int room, .int (come + hv)], (sh, I, L, R))) (M := mr_205) rfl (show mcode 205 58 = some (58, .iload 6, 2, 0, 0, 0, _) from rfl) (Or.inl ⟨.int room, rfl, rfl⟩) ?_
      cases k3 : bcmp .gt (come + hv) room with
      | true =>
        have gk3 : (room).toInt < ((come + hv)).toInt := icT (c := .gt) (a := ((come + hv)).toInt) (b := (room).toInt) rfl rfl k3
        refine XW.fam (S' := (81, [(7, .int come), (6, .int room), (5, .int t), (4, .int low), (0, .ref 90), (1, .int wk), (2, .int rw), (3, .int wt)], [], (sh, I, L, R))) (M := mr_205) rfl (show mcode 205 60 = some (60, .if_icmp .gt 21, 3, 81, 0, 0, _) from rfl) (Or.inr (Or.inl ⟨81, [], by simp [brn, k3], rfl⟩)) ?_
        refine XW.sub (ls' := [(7, .int come), (6, .int room), (5, .int t), (4, .int low), (0, .ref 90), (1, .int wk), (2, .int rw), (3, .int wt)]) (List.forall_mem_cons.mpr ⟨List.mem_of_getElem? (i := 0) rfl, (List.forall_mem_cons.mpr ⟨List.mem_of_getElem? (i := 1) rfl, (List.forall_mem_cons.mpr ⟨List.mem_of_getElem? (i := 2) rfl, (List.forall_mem_cons.mpr ⟨List.mem_of_getElem? (i := 3) rfl, (List.forall_mem_cons.mpr ⟨List.mem_of_getElem? (i := 4) rfl, (List.forall_mem_cons.mpr ⟨List.mem_of_getElem? (i := 5) rfl, (List.forall_mem_cons.mpr ⟨List.mem_of_getElem? (i := 6) rfl, (List.forall_mem_cons.mpr ⟨List.mem_of_getElem? (i := 7) rfl, (fun _ h => absurd h List.not_mem_nil)⟩)⟩)⟩)⟩)⟩)⟩)⟩)⟩) ?_
        refine K low come ?_ (by omega) (by omega) (by omega) (by omega)
        rw [hfl]
        by_cases c0 : low.toInt = 0
        · have e0 : low.toInt.toNat = 0 := by omega
          rw [e0]
          rfl
        · obtain ⟨l, el⟩ : ∃ l, low.toInt.toNat = l + 1 := ⟨low.toInt.toNat - 1, by omega⟩
          have el2 : low.toInt.toNat - 1 = l := by omega
          rw [el]
          show (if come.toInt + (I 91 l).toInt ≤ room.toInt then fallS (I 91) room.toInt l (come.toInt + (I 91 l).toInt) else (l + 1, come.toInt)) = _
          exact if_neg (fun q => by rw [← el2, ehv] at q; omega)
      | false =>
        have gk3 : ¬ ((room).toInt < ((come + hv)).toInt) := icF (c := .gt) (a := ((come + hv)).toInt) (b := (room).toInt) rfl rfl k3
        refine XW.fam (S' := (63, [(7, .int come), (6, .int room), (5, .int t), (4, .int low), (0, .ref 90), (1, .int wk), (2, .int rw), (3, .int wt)], [], (sh, I, L, R))) (M := mr_205) rfl (show mcode 205 60 = some (60, .if_icmp .gt 21, 3, 81, 0, 0, _) from rfl) (Or.inr (Or.inl ⟨63, [], by simp [brn, k3], rfl⟩)) ?_
        refine XW.fam (S' := (66, [(4, .int (low + Int32.ofInt (-1))), (7, .int come), (6, .int room), (5, .int t), (0, .ref 90), (1, .int wk), (2, .int rw), (3, .int wt)], [], (sh, I, L, R))) (M := mr_205) rfl (show mcode 205 63 = some (63, .iinc 4 (-1), 3, 0, 0, 0, _) from rfl) (Or.inr (Or.inr (Or.inr (Or.inr (Or.inr (Or.inr (Or.inr (Or.inr (Or.inr ⟨4, (-1), low, rfl, rfl, by decide, rfl⟩))))))))) ?_
        obtain ⟨lw, elw⟩ : ∃ z : Int32, low + Int32.ofInt (-1) = z := ⟨_, rfl⟩
        have hlw : lw.toInt = low.toInt - 1 := by rw [← elw]; exact decO (by omega) (by omega)
        rw [elw]
        clear elw
        refine XW.fam (S' := (68, [(4, .int lw), (7, .int come), (6, .int room), (5, .int t), (0, .ref 90), (1, .int wk), (2, .int rw), (3, .int wt)], [.int come], (sh, I, L, R))) (M := mr_205) rfl (show mcode 205 66 = some (66, .iload 7, 2, 0, 0, 0, _) from rfl) (Or.inl ⟨.int come, rfl, rfl⟩) ?_
        refine XW.fam (S' := (69, [(4, .int lw), (7, .int come), (6, .int room), (5, .int t), (0, .ref 90), (1, .int wk), (2, .int rw), (3, .int wt)], [.ref 90, .int come], (sh, I, L, R))) (M := mr_205) rfl (show mcode 205 68 = some (68, .aload_n 0, 1, 0, 0, 0, _) from rfl) (Or.inl ⟨.ref 90, rfl, rfl⟩) ?_
        refine XW.fam (S' := (72, [(4, .int lw), (7, .int come), (6, .int room), (5, .int t), (0, .ref 90), (1, .int wk), (2, .int rw), (3, .int wt)], [.ref 91, .int come], (sh, I, L, R))) (M := mr_205) rfl (show mcode 205 69 = some (69, .getfield 11, 3, 11, 0, 0, _) from rfl) (Or.inr (Or.inr (Or.inr (Or.inr (Or.inr (Or.inr (Or.inr (Or.inl ⟨_, _, rfl, fl_ld c90 r90_0 (by decide) (by decide), rfl⟩)))))))) ?_
        refine XW.fam (S' := (74, [(4, .int lw), (7, .int come), (6, .int room), (5, .int t), (0, .ref 90), (1, .int wk), (2, .int rw), (3, .int wt)], [.int lw, .ref 91, .int come], (sh, I, L, R))) (M := mr_205) rfl (show mcode 205 72 = some (72, .iload 4, 2, 0, 0, 0, _) from rfl) (Or.inl ⟨.int lw, rfl, rfl⟩) ?_
        have hin4 : inR lw 100 = true := inR_of (by omega) (by omega)
        refine XW.fam (S' := (75, [(4, .int lw), (7, .int come), (6, .int room), (5, .int t), (0, .ref 90), (1, .int wk), (2, .int rw), (3, .int wt)], [.int (I 91 (lw).toNatClampNeg), .int come], (sh, I, L, R))) (M := mr_205) rfl (show mcode 205 74 = some (74, .iaload, 1, 0, 0, 0, _) from rfl) (Or.inr (Or.inr (Or.inl ⟨_, lda_i c91 hin4, rfl⟩))) ?_
        have ek2 : (lw).toNatClampNeg = low.toInt.toNat - 1 := by show lw.toInt.toNat = _; omega
        rw [ek2, ehv]
        refine XW.fam (S' := (76, [(4, .int lw), (7, .int come), (6, .int room), (5, .int t), (0, .ref 90), (1, .int wk), (2, .int rw), (3, .int wt)], [.int (come + hv)], (sh, I, L, R))) (M := mr_205) rfl (show mcode 205 75 = some (75, .iadd, 1, 0, 0, 0, _) from rfl) (Or.inr (Or.inr (Or.inr (Or.inr (Or.inr (Or.inl ⟨_, rfl, rfl⟩)))))) ?_
        refine XW.fam (S' := (78, [(7, .int (come + hv)), (4, .int lw), (6, .int room), (5, .int t), (0, .ref 90), (1, .int wk), (2, .int rw), (3, .int wt)], [], (sh, I, L, R))) (M := mr_205) rfl (show mcode 205 76 = some (76, .istore 7, 2, 0, 0, 0, _) from rfl) (Or.inr (Or.inr (Or.inr (Or.inr (Or.inr (Or.inr (Or.inl ⟨_, [], _, rfl, rfl, rfl⟩))))))) ?_
        refine XW.fam (S' := (41, [(7, .int (come + hv)), (4, .int lw), (6, .int room), (5, .int t), (0, .ref 90), (1, .int wk), (2, .int rw), (3, .int wt)], [], (sh, I, L, R))) (M := mr_205) rfl (show mcode 205 78 = some (78, .goto (-37), 3, 41, 0, 0, _) from rfl) (Or.inr (Or.inl ⟨41, [], rfl, rfl⟩)) ?_
        refine XW.sub (ls' := [(7, .int (come + hv)), (6, .int room), (5, .int t), (4, .int lw), (0, .ref 90), (1, .int wk), (2, .int rw), (3, .int wt)]) (List.forall_mem_cons.mpr ⟨List.mem_of_getElem? (i := 0) rfl, (List.forall_mem_cons.mpr ⟨List.mem_of_getElem? (i := 2) rfl, (List.forall_mem_cons.mpr ⟨List.mem_of_getElem? (i := 3) rfl, (List.forall_mem_cons.mpr ⟨List.mem_of_getElem? (i := 1) rfl, (List.forall_mem_cons.mpr ⟨List.mem_of_getElem? (i := 4) rfl, (List.forall_mem_cons.mpr ⟨List.mem_of_getElem? (i := 5) rfl, (List.forall_mem_cons.mpr ⟨List.mem_of_getElem? (i := 6) rfl, (List.forall_mem_cons.mpr ⟨List.mem_of_getElem? (i := 7) rfl, (fun _ h => absurd h List.not_mem_nil)⟩)⟩)⟩)⟩)⟩)⟩)⟩)⟩) ?_
        refine ih lw (come + hv) (by omega) (by omega) (by omega) (by omega) (by omega) ?_
        obtain ⟨l, el⟩ : ∃ l, low.toInt.toNat = l + 1 := ⟨low.toInt.toNat - 1, by omega⟩
        have el2 : low.toInt.toNat - 1 = l := by omega
        have el3 : lw.toInt.toNat = l := by omega
        rw [el2] at ehv
        rw [hfl, el3, es, el, ← ehv]
        show (if come.toInt + (I 91 l).toInt ≤ room.toInt then fallS (I 91) room.toInt l (come.toInt + (I 91 l).toInt) else (l + 1, come.toInt)) = _
        exact if_pos (by rw [ehv]; omega)
theorem low_wk {d : Nat} {sh : List mE} {J : Nat → Nat → Int32} {R : Nat → Nat → Option Nat} {wk rw wt : Int32} (hk : 0 ≤ wk.toInt ∧ wk.toInt ≤ 7) (hr : 1 ≤ rw.toInt ∧ rw.toInt ≤ 4) (ht : 1 ≤ wt.toInt ∧ wt.toInt ≤ 4) : ∀ (z : Nat) {I : Nat → Nat → Int32} {L : Nat → Nat → Int64} (t low : Int32), 0 ≤ t.toInt → t.toInt ≤ wk.toInt + 1 → wk.toInt + 1 - t.toInt < z → wOK (mkT vV []) (wE sh R) (sh, I, L, R) → fresh (sh, I, L, R) → (∀ q k, ¬ q = 93 → I q k = J q k) → low.toInt = ((lnRun (J 91) (J 92) rw.toInt.toNat wt.toInt.toNat t.toInt.toNat).1 : Int) → (∀ k : Nat, k < 4 → (I 93 k).toInt = (lnRun (J 91) (J 92) rw.toInt.toNat wt.toInt.toNat t.toInt.toNat).2 k) → XW 205 mr_205 none (d + 2) 0 0 (fun r w' => fresh w' ∧ (∃ sh R, wOK (mkT vV []) (wE sh R) w') ∧ (∀ q k, ¬ q = 93 → w'.2.1 q k = J q k) ∧ ∃ x : Int32, r = some (.int x) ∧ x.toInt = ((lnRun (J 91) (J 92) rw.toInt.toNat wt.toInt.toNat (wk.toInt.toNat + 1)).1 : Int)) (15, [(5, .int t), (4, .int low), (0, .ref 90), (1, .int wk), (2, .int rw), (3, .int wt)], [], (sh, I, L, R)) := by
  have z0 : (0 : Int32).toInt = 0 := rfl
  have z8 : (8 : Int32).toInt = 8 := rfl
  intro z
  induction z with
  | zero =>
    intro I L t low h1 h2 hz hw hf h93 hlow hwv
    have c90 : sh[90]? = some (.inr 11) := hw.1 90 _ rfl
    have hh : ∀ k, 0 ≤ (J 91 k).toInt ∧ (J 91 k).toInt ≤ 199 := fun k => by rw [← h93 91 k (by decide)]; exact hw.2.2.1 91 k
    have hbb : ∀ k, 0 ≤ (J 92 k).toInt := fun k => by rw [← h93 92 k (by decide)]; exact (hw.2.2.1 92 k).1
    have hlr := ln_rng (r := rw.toInt.toNat) (wt := wt.toInt.toNat) hh hbb (n := t.toInt.toNat)
    have hlr1 := hlr.1
    have hwt : ∀ k : Nat, k < 4 → 0 ≤ (I 93 k).toInt ∧ (I 93 k).toInt ≤ 200000 := fun k hk => by have a := hlr.2 k; rw [hwv k hk]; omega
    refine XW.fam (S' := (17, [(5, .int t), (4, .int low), (0, .ref 90), (1, .int wk), (2, .int rw), (3, .int wt)], [.int t], (sh, I, L, R))) (M := mr_205) rfl (show mcode 205 15 = some (15, .iload 5, 2, 0, 0, 0, _) from rfl) (Or.inl ⟨.int t, rfl, rfl⟩) ?_
    refine XW.fam (S' := (18, [(5, .int t), (4, .int low), (0, .ref 90), (1, .int wk), (2, .int rw), (3, .int wt)], [.int wk, .int t], (sh, I, L, R))) (M := mr_205) rfl (show mcode 205 17 = some (17, .iload_n 1, 1, 0, 0, 0, _) from rfl) (Or.inl ⟨.int wk, rfl, rfl⟩) ?_
    have k1 : bcmp .gt t wk = true := bcT (c := .gt) (a := (t).toInt) (b := (wk).toInt) rfl rfl (by show (wk).toInt < (t).toInt; omega)
    refine XW.fam (S' := (96, [(5, .int t), (4, .int low), (0, .ref 90), (1, .int wk), (2, .int rw), (3, .int wt)], [], (sh, I, L, R))) (M := mr_205) rfl (show mcode 205 18 = some (18, .if_icmp .gt 78, 3, 96, 0, 0, _) from rfl) (Or.inr (Or.inl ⟨96, [], by simp [brn, k1], rfl⟩)) ?_
    refine XW.fam (S' := (98, [(5, .int t), (4, .int low), (0, .ref 90), (1, .int wk), (2, .int rw), (3, .int wt)], [.int low], (sh, I, L, R))) (M := mr_205) rfl (show mcode 205 96 = some (96, .iload 4, 2, 0, 0, 0, _) from rfl) (Or.inl ⟨.int low, rfl, rfl⟩) ?_
    refine XW.ret (r := some (.int low)) ⟨⟨.int, rfl, rfl⟩, by decide +kernel⟩ ?_
    have en : t.toInt.toNat = wk.toInt.toNat + 1 := by omega
    rw [en] at hlow
    exact ⟨hf, ⟨sh, R, hw⟩, h93, low, rfl, hlow⟩
  | succ z ih =>
    intro I L t low h1 h2 hz hw hf h93 hlow hwv
    have c90 : sh[90]? = some (.inr 11) := hw.1 90 _ rfl
    have hh : ∀ k, 0 ≤ (J 91 k).toInt ∧ (J 91 k).toInt ≤ 199 := fun k => by rw [← h93 91 k (by decide)]; exact hw.2.2.1 91 k
    have hbb : ∀ k, 0 ≤ (J 92 k).toInt := fun k => by rw [← h93 92 k (by decide)]; exact (hw.2.2.1 92 k).1
    have hlr := ln_rng (r := rw.toInt.toNat) (wt := wt.toInt.toNat) hh hbb (n := t.toInt.toNat)
    have hlr1 := hlr.1
    have hwt : ∀ k : Nat, k < 4 → 0 ≤ (I 93 k).toInt ∧ (I 93 k).toInt ≤ 200000 := fun k hk => by have a := hlr.2 k; rw [hwv k hk]; omega
    refine XW.fam (S' := (17, [(5, .int t), (4, .int low), (0, .ref 90), (1, .int wk), (2, .int rw), (3, .int wt)], [.int t], (sh, I, L, R))) (M := mr_205) rfl (show mcode 205 15 = some (15, .iload 5, 2, 0, 0, 0, _) from rfl) (Or.inl ⟨.int t, rfl, rfl⟩) ?_
    refine XW.fam (S' := (18, [(5, .int t), (4, .int low), (0, .ref 90), (1, .int wk), (2, .int rw), (3, .int wt)], [.int wk, .int t], (sh, I, L, R))) (M := mr_205) rfl (show mcode 205 17 = some (17, .iload_n 1, 1, 0, 0, 0, _) from rfl) (Or.inl ⟨.int wk, rfl, rfl⟩) ?_
    cases k1 : bcmp .gt t wk with
    | true =>
      have gk1 : (wk).toInt < (t).toInt := icT (c := .gt) (a := (t).toInt) (b := (wk).toInt) rfl rfl k1
      refine XW.fam (S' := (96, [(5, .int t), (4, .int low), (0, .ref 90), (1, .int wk), (2, .int rw), (3, .int wt)], [], (sh, I, L, R))) (M := mr_205) rfl (show mcode 205 18 = some (18, .if_icmp .gt 78, 3, 96, 0, 0, _) from rfl) (Or.inr (Or.inl ⟨96, [], by simp [brn, k1], rfl⟩)) ?_
      refine XW.fam (S' := (98, [(5, .int t), (4, .int low), (0, .ref 90), (1, .int wk), (2, .int rw), (3, .int wt)], [.int low], (sh, I, L, R))) (M := mr_205) rfl (show mcode 205 96 = some (96, .iload 4, 2, 0, 0, 0, _) from rfl) (Or.inl ⟨.int low, rfl, rfl⟩) ?_
      refine XW.ret (r := some (.int low)) ⟨⟨.int, rfl, rfl⟩, by decide +kernel⟩ ?_
      have en : t.toInt.toNat = wk.toInt.toNat + 1 := by omega
      rw [en] at hlow
      exact ⟨hf, ⟨sh, R, hw⟩, h93, low, rfl, hlow⟩
    | false =>
      have gk1 : ¬ ((wk).toInt < (t).toInt) := icF (c := .gt) (a := (t).toInt) (b := (wk).toInt) rfl rfl k1
      refine XW.fam (S' := (21, [(5, .int t), (4, .int low), (0, .ref 90), (1, .int wk), (2, .int rw), (3, .int wt)], [], (sh, I, L, R))) (M := mr_205) rfl (show mcode 205 18 = some (18, .if_icmp .gt 78, 3, 96, 0, 0, _) from rfl) (Or.inr (Or.inl ⟨21, [], by simp [brn, k1], rfl⟩)) ?_
      refine XW.fam (S' := (23, [(5, .int t), (4, .int low), (0, .ref 90), (1, .int wk), (2, .int rw), (3, .int wt)], [.int t], (sh, I, L, R))) (M := mr_205) rfl (show mcode 205 21 = some (21, .iload 5, 2, 0, 0, 0, _) from rfl) (Or.inl ⟨.int t, rfl, rfl⟩) ?_
      refine XW.fam (S' := (25, [(5, .int t), (4, .int low), (0, .ref 90), (1, .int wk), (2, .int rw), (3, .int wt)], [.int 8, .int t], (sh, I, L, R))) (M := mr_205) rfl (show mcode 205 23 = some (23, .bipush 8, 2, 0, 0, 0, _) from rfl) (Or.inl ⟨.int 8, rfl, rfl⟩) ?_
      have k2 : bcmp .ge t 8 = false := bcF (c := .ge) (a := (t).toInt) (b := 8) rfl (by decide) (by show ¬ (8 ≤ (t).toInt); omega)
      refine XW.fam (S' := (28, [(5, .int t), (4, .int low), (0, .ref 90), (1, .int wk), (2, .int rw), (3, .int wt)], [], (sh, I, L, R))) (M := mr_205) rfl (show mcode 205 25 = some (25, .if_icmp .ge 71, 3, 96, 0, 0, _) from rfl) (Or.inr (Or.inl ⟨28, [], by simp [brn, k2], rfl⟩)) ?_
      refine XW.fam (S' := (29, [(5, .int t), (4, .int low), (0, .ref 90), (1, .int wk), (2, .int rw), (3, .int wt)], [.ref 90], (sh, I, L, R))) (M := mr_205) rfl (show mcode 205 28 = some (28, .aload_n 0, 1, 0, 0, 0, _) from rfl) (Or.inl ⟨.ref 90, rfl, rfl⟩) ?_
      refine XW.fam (S' := (31, [(5, .int t), (4, .int low), (0, .ref 90), (1, .int wk), (2, .int rw), (3, .int wt)], [.int t, .ref 90], (sh, I, L, R))) (M := mr_205) rfl (show mcode 205 29 = some (29, .iload 5, 2, 0, 0, 0, _) from rfl) (Or.inl ⟨.int t, rfl, rfl⟩) ?_
      refine XW.fam (S' := (32, [(5, .int t), (4, .int low), (0, .ref 90), (1, .int wk), (2, .int rw), (3, .int wt)], [.int rw, .int t, .ref 90], (sh, I, L, R))) (M := mr_205) rfl (show mcode 205 31 = some (31, .iload_n 2, 1, 0, 0, 0, _) from rfl) (Or.inl ⟨.int rw, rfl, rfl⟩) ?_
      refine XW.fam (S' := (33, [(5, .int t), (4, .int low), (0, .ref 90), (1, .int wk), (2, .int rw), (3, .int wt)], [.int wt, .int rw, .int t, .ref 90], (sh, I, L, R))) (M := mr_205) rfl (show mcode 205 32 = some (32, .iload_n 3, 1, 0, 0, 0, _) from rfl) (Or.inl ⟨.int wt, rfl, rfl⟩) ?_
      refine XW.call (d' := d + 1) (mc' := 0) (ms' := 0) (av := [.ref 90, .int t, .int rw, .int wt]) (rest := []) (M := mr_205) (Ma := mr_206) rfl (show mcode 205 33 = some (33, .invokevirtual 31, 3, 206, 0, 0, _) from rfl) rfl (by decide) (by decide) ⟨rfl, 90, _, rfl, c90⟩ rfl rfl (show 0 ≤ 8 by decide) (tc_room (d := d) hw (by omega) hr ht hwt) (by omega) (Nat.zero_le _) (Nat.zero_le _) (fun rQ3 wQ3 Q3 => ?_)
      obtain ⟨⟨x, rfl, hx⟩, rfl⟩ := Q3
      refine XW.fam (S' := (38, [(6, .int x), (5, .int t), (4, .int low), (0, .ref 90), (1, .int wk), (2, .int rw), (3, .int wt)], [], (sh, I, L, R))) (M := mr_205) rfl (show mcode 205 36 = some (36, .istore 6, 2, 0, 0, 0, _) from rfl) (Or.inr (Or.inr (Or.inr (Or.inr (Or.inr (Or.inr (Or.inl ⟨_, [], _, rfl, rfl, rfl⟩))))))) ?_
      refine XW.fam (S' := (39, [(6, .int x), (5, .int t), (4, .int low), (0, .ref 90), (1, .int wk), (2, .int rw), (3, .int wt)], [.int 0], (sh, I, L, R))) (M := mr_205) rfl (show mcode 205 38 = some (38, .iconst 0, 1, 0, 0, 0, _) from rfl) (Or.inl ⟨.int 0, rfl, rfl⟩) ?_
      refine XW.fam (S' := (41, [(7, .int 0), (6, .int x), (5, .int t), (4, .int low), (0, .ref 90), (1, .int wk), (2, .int rw), (3, .int wt)], [], (sh, I, L, R))) (M := mr_205) rfl (show mcode 205 39 = some (39, .istore 7, 2, 0, 0, 0, _) from rfl) (Or.inr (Or.inr (Or.inr (Or.inr (Or.inr (Or.inr (Or.inl ⟨_, [], _, rfl, rfl, rfl⟩))))))) ?_
      have eQ : I 92 = J 92 := funext (fun k => h93 92 k (by decide))
      have eH : I 91 = J 91 := funext (fun k => h93 91 k (by decide))
      have ex : x.toInt = lnRoom (J 92) wt.toInt.toNat (lnRun (J 91) (J 92) rw.toInt.toNat wt.toInt.toNat t.toInt.toNat).2 t.toInt.toNat rw.toInt.toNat := by
        rw [hx, eQ]
        exact rmin_congr (fun k hk => by dsimp only; rw [hwv k (by omega)])
      refine XW.sub (ls' := [(7, .int 0), (6, .int x), (5, .int t), (4, .int low), (0, .ref 90), (1, .int wk), (2, .int rw), (3, .int wt)]) (List.forall_mem_cons.mpr ⟨List.mem_of_getElem? (i := 0) rfl, (List.forall_mem_cons.mpr ⟨List.mem_of_getElem? (i := 1) rfl, (List.forall_mem_cons.mpr ⟨List.mem_of_getElem? (i := 2) rfl, (List.forall_mem_cons.mpr ⟨List.mem_of_getElem? (i := 3) rfl, (List.forall_mem_cons.mpr ⟨List.mem_of_getElem? (i := 4) rfl, (List.forall_mem_cons.mpr ⟨List.mem_of_getElem? (i := 5) rfl, (List.forall_mem_cons.mpr ⟨List.mem_of_getElem? (i := 6) rfl, (List.forall_mem_cons.mpr ⟨List.mem_of_getElem? (i := 7) rfl, (fun _ h => absurd h List.not_mem_nil)⟩)⟩)⟩)⟩)⟩)⟩)⟩)⟩) ?_
      have hl2 : low.toInt.toNat = (lnRun (J 91) (J 92) rw.toInt.toNat wt.toInt.toNat t.toInt.toNat).1 := by omega
      refine low_in (d := d) (l0 := low.toInt.toNat) hw (by rw [eH]; exact hh) (fun lo2 cm hfl q1 q2 q3 q4 => ?_) 101 low 0 (by omega) (by omega) (by omega) (by decide) (by omega) rfl
      refine XW.fam (S' := (82, [(7, .int cm), (6, .int x), (5, .int t), (4, .int lo2), (0, .ref 90), (1, .int wk), (2, .int rw), (3, .int wt)], [.ref 90], (sh, I, L, R))) (M := mr_205) rfl (show mcode 205 81 = some (81, .aload_n 0, 1, 0, 0, 0, _) from rfl) (Or.inl ⟨.ref 90, rfl, rfl⟩) ?_
      refine XW.fam (S' := (84, [(7, .int cm), (6, .int x), (5, .int t), (4, .int lo2), (0, .ref 90), (1, .int wk), (2, .int rw), (3, .int wt)], [.int t, .ref 90], (sh, I, L, R))) (M := mr_205) rfl (show mcode 205 82 = some (82, .iload 5, 2, 0, 0, 0, _) from rfl) (Or.inl ⟨.int t, rfl, rfl⟩) ?_
      refine XW.fam (S' := (85, [(7, .int cm), (6, .int x), (5, .int t), (4, .int lo2), (0, .ref 90), (1, .int wk), (2, .int rw), (3, .int wt)], [.int rw, .int t, .ref 90], (sh, I, L, R))) (M := mr_205) rfl (show mcode 205 84 = some (84, .iload_n 2, 1, 0, 0, 0, _) from rfl) (Or.inl ⟨.int rw, rfl, rfl⟩) ?_
      refine XW.fam (S' := (87, [(7, .int cm), (6, .int x), (5, .int t), (4, .int lo2), (0, .ref 90), (1, .int wk), (2, .int rw), (3, .int wt)], [.int cm, .int rw, .int t, .ref 90], (sh, I, L, R))) (M := mr_205) rfl (show mcode 205 85 = some (85, .iload 7, 2, 0, 0, 0, _) from rfl) (Or.inl ⟨.int cm, rfl, rfl⟩) ?_
      refine XW.call (d' := d + 1) (mc' := 0) (ms' := 0) (av := [.ref 90, .int t, .int rw, .int cm]) (rest := []) (M := mr_205) (Ma := mr_207) rfl (show mcode 205 87 = some (87, .invokevirtual 35, 3, 207, 0, 0, _) from rfl) rfl (by decide) (by decide) ⟨rfl, 90, _, rfl, c90⟩ rfl rfl (show 0 ≤ 8 by decide) (tc_go (d := d) hw hf (by omega) hr (by omega) hwt) (by omega) (Nat.zero_le _) (Nat.zero_le _) (fun rQ4 wQ4 Q4 => ?_)
      obtain ⟨rfl, hfG, hwG, hG1, hG2, hG3⟩ := Q4
      obtain ⟨shG, IG, LG, RG⟩ := wQ4
      obtain rfl : sh = shG := hwG.2.2.2.1.symm
      obtain rfl : R = RG := hwG.2.2.2.2.1.symm
      refine XW.fam (S' := (93, [(5, .int (t + Int32.ofInt 1)), (7, .int cm), (6, .int x), (4, .int lo2), (0, .ref 90), (1, .int wk), (2, .int rw), (3, .int wt)], [], (sh, IG, LG, R))) (M := mr_205) rfl (show mcode 205 90 = some (90, .iinc 5 1, 3, 0, 0, 0, _) from rfl) (Or.inr (Or.inr (Or.inr (Or.inr (Or.inr (Or.inr (Or.inr (Or.inr (Or.inr ⟨5, 1, t, rfl, rfl, by decide, rfl⟩))))))))) ?_
      refine XW.fam (S' := (15, [(5, .int (t + Int32.ofInt 1)), (7, .int cm), (6, .int x), (4, .int lo2), (0, .ref 90), (1, .int wk), (2, .int rw), (3, .int wt)], [], (sh, IG, LG, R))) (M := mr_205) rfl (show mcode 205 93 = some (93, .goto (-78), 3, 15, 0, 0, _) from rfl) (Or.inr (Or.inl ⟨15, [], rfl, rfl⟩)) ?_
      have eo := incO (m := t) (by omega) (by omega)
      refine XW.sub (ls' := [(5, .int (t + Int32.ofInt 1)), (4, .int lo2), (0, .ref 90), (1, .int wk), (2, .int rw), (3, .int wt)]) (List.forall_mem_cons.mpr ⟨List.mem_of_getElem? (i := 0) rfl, (List.forall_mem_cons.mpr ⟨List.mem_of_getElem? (i := 3) rfl, (List.forall_mem_cons.mpr ⟨List.mem_of_getElem? (i := 4) rfl, (List.forall_mem_cons.mpr ⟨List.mem_of_getElem? (i := 5) rfl, (List.forall_mem_cons.mpr ⟨List.mem_of_getElem? (i := 6) rfl, (List.forall_mem_cons.mpr ⟨List.mem_of_getElem? (i := 7) rfl, (fun _ h => absurd h List.not_mem_nil)⟩)⟩)⟩)⟩)⟩)⟩) ?_
      have en : (t + Int32.ofInt 1).toInt.toNat = t.toInt.toNat + 1 := by omega
      rw [eH, hl2, ex] at hfl
      have hst : lnRun (J 91) (J 92) rw.toInt.toNat wt.toInt.toNat (t.toInt.toNat + 1) = lnStep (J 91) (J 92) rw.toInt.toNat wt.toInt.toNat t.toInt.toNat (lnRun (J 91) (J 92) rw.toInt.toNat wt.toInt.toNat t.toInt.toNat) := rfl
      refine ih (t + Int32.ofInt 1) lo2 (by omega) (by omega) (by omega) hwG hfG (fun q k hq => (hG1 q k hq).trans (h93 q k hq)) ?_ (fun k hk => ?_)
      · rw [en, hst]
        show _ = (((fallS (J 91) _ _ 0).1 : Nat) : Int)
        rw [hfl]
        show lo2.toInt = ((lo2.toInt.toNat : Nat) : Int)
        omega
      · rw [en, hst]
        show (IG 93 k).toInt = (if k < rw.toInt.toNat then lnGo (J 92) t.toInt.toNat (fallS (J 91) _ _ 0).2 (lnRun (J 91) (J 92) rw.toInt.toNat wt.toInt.toNat t.toInt.toNat).2 k else (lnRun (J 91) (J 92) rw.toInt.toNat wt.toInt.toNat t.toInt.toNat).2 k)
        by_cases c : k < rw.toInt.toNat
        · rw [if_pos c, hfl]
          have hg : (IG 93 k).toInt = lnGo (I 92) t.toInt.toNat cm.toInt (fun k => (I 93 k).toInt) k := hG2 k (by omega)
          rw [hg, eQ]
          unfold lnGo
          dsimp only
          exact congrArg (fun z : Int => if 0 < z + cm.toInt - lnB (J 92) k t.toInt.toNat then z + cm.toInt - lnB (J 92) k t.toInt.toNat else 0) (hwv k hk)
        · rw [if_neg c]
          have hg : IG 93 k = I 93 k := hG3 k (by omega)
          rw [hg]
          exact hwv k hk
theorem tc_low {d : Nat} {sh : List mE} {I : Nat → Nat → Int32} {L : Nat → Nat → Int64} {R : Nat → Nat → Option Nat} {wk rw wt : Int32} (hw : wOK (mkT vV []) (wE sh R) (sh, I, L, R)) (hf : fresh (sh, I, L, R)) (hk : 0 ≤ wk.toInt ∧ wk.toInt ≤ 7) (hr : 1 ≤ rw.toInt ∧ rw.toInt ≤ 4) (ht : 1 ≤ wt.toInt ∧ wt.toInt ≤ 4) : Tc 205 (d + 2) 0 0 [.ref 90, .int wk, .int rw, .int wt] (sh, I, L, R) (fun r w' => fresh w' ∧ (∃ sh R, wOK (mkT vV []) (wE sh R) w') ∧ (∀ q k, ¬ q = 93 → w'.2.1 q k = I q k) ∧ ∃ x : Int32, r = some (.int x) ∧ x.toInt = ((lnRun (I 91) (I 92) rw.toInt.toNat wt.toInt.toNat (wk.toInt.toNat + 1)).1 : Int)) := by
  have c90 : sh[90]? = some (.inr 11) := hw.1 90 _ rfl
  have r90_2 : R 90 2 = some 93 := hw.2.1 90 2 _ rfl
  have z0 : (0 : Int32).toInt = 0 := rfl
  have z100 : (100 : Int32).toInt = 100 := rfl
  refine Tc.of mr_205 rfl (show 4 ≤ mr_205.2.2.2.1 by decide) ?_
  refine XW.fam (S' := (1, [(0, .ref 90), (1, .int wk), (2, .int rw), (3, .int wt)], [.ref 90], (sh, I, L, R))) (M := mr_205) rfl (show mcode 205 0 = some (0, .aload_n 0, 1, 0, 0, 0, _) from rfl) (Or.inl ⟨.ref 90, rfl, rfl⟩) ?_
  refine XW.fam (S' := (4, [(0, .ref 90), (1, .int wk), (2, .int rw), (3, .int wt)], [.ref 93], (sh, I, L, R))) (M := mr_205) rfl (show mcode 205 1 = some (1, .getfield 18, 3, 11, 2, 0, _) from rfl) (Or.inr (Or.inr (Or.inr (Or.inr (Or.inr (Or.inr (Or.inr (Or.inl ⟨_, _, rfl, fl_ld c90 r90_2 (by decide) (by decide), rfl⟩)))))))) ?_
  refine XW.fam (S' := (5, [(0, .ref 90), (1, .int wk), (2, .int rw), (3, .int wt)], [.int 0, .ref 93], (sh, I, L, R))) (M := mr_205) rfl (show mcode 205 4 = some (4, .iconst 0, 1, 0, 0, 0, _) from rfl) (Or.inl ⟨.int 0, rfl, rfl⟩) ?_
  refine XW.call (d' := d) (mc' := 0) (ms' := 0) (av := [.ref 93, .int 0]) (rest := []) (M := mr_205) (Ma := mr_4) rfl (show mcode 205 5 = some (5, .invokestatic 25, 3, 4, 0, 0, _) from rfl) rfl (by decide) (by decide) rfl rfl rfl (show 0 ≤ 8 by decide) (tc_fill93 (d := d) hw hf) (by omega) (Nat.zero_le _) (Nat.zero_le _) (fun rQ1 wQ1 Q1 => ?_)
  obtain ⟨rfl, hfG, hwG, hG1, hG2⟩ := Q1
  obtain ⟨shG, IG, LG, RG⟩ := wQ1
  obtain rfl : sh = shG := hwG.2.2.2.1.symm
  obtain rfl : R = RG := hwG.2.2.2.2.1.symm
  refine XW.fam (S' := (10, [(0, .ref 90), (1, .int wk), (2, .int rw), (3, .int wt)], [.int 100], (sh, IG, LG, R))) (M := mr_205) rfl (show mcode 205 8 = some (8, .bipush 100, 2, 0, 0, 0, _) from rfl) (Or.inl ⟨.int 100, rfl, rfl⟩) ?_
  refine XW.fam (S' := (12, [(4, .int 100), (0, .ref 90), (1, .int wk), (2, .int rw), (3, .int wt)], [], (sh, IG, LG, R))) (M := mr_205) rfl (show mcode 205 10 = some (10, .istore 4, 2, 0, 0, 0, _) from rfl) (Or.inr (Or.inr (Or.inr (Or.inr (Or.inr (Or.inr (Or.inl ⟨_, [], _, rfl, rfl, rfl⟩))))))) ?_
  refine XW.fam (S' := (13, [(4, .int 100), (0, .ref 90), (1, .int wk), (2, .int rw), (3, .int wt)], [.int 0], (sh, IG, LG, R))) (M := mr_205) rfl (show mcode 205 12 = some (12, .iconst 0, 1, 0, 0, 0, _) from rfl) (Or.inl ⟨.int 0, rfl, rfl⟩) ?_
  refine XW.fam (S' := (15, [(5, .int 0), (4, .int 100), (0, .ref 90), (1, .int wk), (2, .int rw), (3, .int wt)], [], (sh, IG, LG, R))) (M := mr_205) rfl (show mcode 205 13 = some (13, .istore 5, 2, 0, 0, 0, _) from rfl) (Or.inr (Or.inr (Or.inr (Or.inr (Or.inr (Or.inr (Or.inl ⟨_, [], _, rfl, rfl, rfl⟩))))))) ?_
  refine XW.sub (ls' := [(5, .int 0), (4, .int 100), (0, .ref 90), (1, .int wk), (2, .int rw), (3, .int wt)]) (List.forall_mem_cons.mpr ⟨List.mem_of_getElem? (i := 0) rfl, (List.forall_mem_cons.mpr ⟨List.mem_of_getElem? (i := 1) rfl, (List.forall_mem_cons.mpr ⟨List.mem_of_getElem? (i := 2) rfl, (List.forall_mem_cons.mpr ⟨List.mem_of_getElem? (i := 3) rfl, (List.forall_mem_cons.mpr ⟨List.mem_of_getElem? (i := 4) rfl, (List.forall_mem_cons.mpr ⟨List.mem_of_getElem? (i := 5) rfl, (fun _ h => absurd h List.not_mem_nil)⟩)⟩)⟩)⟩)⟩)⟩) ?_
  exact low_wk (d := d) (J := I) hk hr ht 9 0 100 (by decide) (by omega) (by omega) hwG hfG hG1 rfl (fun k hk => by have g2 := hG2 k hk; dsimp only at g2; rw [g2]; rfl)
def okLn (wk rw wt : Int32) : Prop := (0 ≤ wk.toInt ∧ wk.toInt ≤ 7) ∧ (1 ≤ rw.toInt ∧ rw.toInt ≤ 4) ∧ (1 ≤ wt.toInt ∧ wt.toInt ≤ 4)
/-- refused, or the line that both reckon; the row of those who wait alone is changed -/
def Qline (qw qh qb : Nat) (wk rw wt : Int32) (w : mW) (r : Option Value) (w' : mW) : Prop := fresh w' ∧ (∃ sh R, wOK (mkT vV []) (wE sh R) w') ∧ (∀ q k, ¬ q = qw → w'.2.1 q k = w.2.1 q k) ∧ ((¬ okLn wk rw wt ∧ r = some (.int (-1))) ∨ (okLn wk rw wt ∧ ∃ x : Int32, r = some (.int x) ∧ x.toInt = ((lnRun (w.2.1 qh) (w.2.1 qb) rw.toInt.toNat wt.toInt.toNat (wk.toInt.toNat + 1)).1 : Int)))
theorem Qline_int {qw qh qb : Nat} {wk rw wt : Int32} {w w' : mW} {r : Option Value} (h : Qline qw qh qb wk rw wt w r w') : ∃ y : Int32, r = some (.int y) := by
  rcases h.2.2.2 with ⟨-, h⟩ | ⟨-, x, h, -⟩
  · exact ⟨_, h⟩
  · exact ⟨_, h⟩
theorem line_like {wk rw wt : Int32} {w w1 w2 : mW} {r1 r2 : Option Value} (hH : ∀ k, w.2.1 91 k = w.2.1 162 k) (hB : ∀ k, w.2.1 92 k = w.2.1 163 k) (h1 : Qline 93 91 92 wk rw wt w r1 w1) (h2 : Qline 164 162 163 wk rw wt w1 r2 w2) : r1 = r2 := by
  have e1 : w1.2.1 162 = w.2.1 91 := funext (fun k => (h1.2.2.1 162 k (by decide)).trans (hH k).symm)
  have e2 : w1.2.1 163 = w.2.1 92 := funext (fun k => (h1.2.2.1 163 k (by decide)).trans (hB k).symm)
  rcases h1.2.2.2 with ⟨n1, a1⟩ | ⟨n1, x, a1, b1⟩
  · rcases h2.2.2.2 with ⟨n2, a2⟩ | ⟨n2, y, a2, b2⟩
    · exact a1.trans a2.symm
    · exact absurd n2 n1
  · rcases h2.2.2.2 with ⟨n2, a2⟩ | ⟨n2, y, a2, b2⟩
    · exact absurd n1 n2
    · rw [e1, e2] at b2
      have e : x = y := Int32.toInt_inj.mp (b1.trans b2.symm)
      rw [a1, a2, e]
theorem tc_lineC {d : Nat} {sh : List mE} {R : Nat → Nat → Option Nat} {w : mW} {wk rw wt : Int32} (hw : wOK (mkT vV []) (wE sh R) w) (hf : fresh w) : Tc 204 (d + 3) 0 0 [.ref 0, .int wk, .int rw, .int wt] w (Qline 93 91 92 wk rw wt w) := by
  obtain ⟨sh0, I, L, R0⟩ := w
  obtain rfl : sh = sh0 := hw.2.2.2.1.symm
  obtain rfl : R = R0 := hw.2.2.2.2.1.symm
  have c0 : sh[0]? = some (.inr 0) := hw.1 0 _ rfl
  have c90 : sh[90]? = some (.inr 11) := hw.1 90 _ rfl
  have r0_10 : R 0 10 = some 90 := hw.2.1 0 10 _ rfl
  have zm1 : ((-1) : Int32).toInt = (-1) := rfl
  have z0 : (0 : Int32).toInt = 0 := rfl
  have z1 : (1 : Int32).toInt = 1 := rfl
  have z4 : (4 : Int32).toInt = 4 := rfl
  have z7 : (7 : Int32).toInt = 7 := rfl
  refine Tc.of mr_204 rfl (show 4 ≤ mr_204.2.2.2.1 by decide) ?_
  refine XW.fam (S' := (1, [(0, .ref 0), (1, .int wk), (2, .int rw), (3, .int wt)], [.int wk], (sh, I, L, R))) (M := mr_204) rfl (show mcode 204 0 = some (0, .iload_n 1, 1, 0, 0, 0, _) from rfl) (Or.inl ⟨.int wk, rfl, rfl⟩) ?_
  refine XW.fam (S' := (2, [(0, .ref 0), (1, .int wk), (2, .int rw), (3, .int wt)], [.int 0, .int wk], (sh, I, L, R))) (M := mr_204) rfl (show mcode 204 1 = some (1, .iconst 0, 1, 0, 0, 0, _) from rfl) (Or.inl ⟨.int 0, rfl, rfl⟩) ?_
  refine XW.fam (S' := (4, [(0, .ref 0), (1, .int wk), (2, .int rw), (3, .int wt)], [.int 7, .int 0, .int wk], (sh, I, L, R))) (M := mr_204) rfl (show mcode 204 2 = some (2, .bipush 7, 2, 0, 0, 0, _) from rfl) (Or.inl ⟨.int 7, rfl, rfl⟩) ?_
  refine XW.call (d' := d) (mc' := 0) (ms' := 0) (av := [.int wk, .int 0, .int 7]) (rest := []) (M := mr_204) (Ma := mr_15) rfl (show mcode 204 4 = some (4, .invokestatic 112, 3, 15, 0, 0, _) from rfl) rfl (by decide) (by decide) rfl rfl rfl (show 0 ≤ 8 by decide) (tc_inC) (by omega) (Nat.zero_le _) (Nat.zero_le _) (fun rQ1 wQ1 Q1 => ?_)
  obtain ⟨hQ1, rfl⟩ := Q1
  rcases hQ1 with ⟨rfl, gQ1⟩ | ⟨rfl, gQ1⟩
  · skip
    refine XW.fam (S' := (28, [(0, .ref 0), (1, .int wk), (2, .int rw), (3, .int wt)], [], (sh, I, L, R))) (M := mr_204) rfl (show mcode 204 7 = some (7, .ifCond .eq 21, 3, 28, 0, 0, _) from rfl) (Or.inr (Or.inl ⟨28, [], rfl, rfl⟩)) ?_
    refine XW.fam (S' := (29, [(0, .ref 0), (1, .int wk), (2, .int rw), (3, .int wt)], [.int (-1)], (sh, I, L, R))) (M := mr_204) rfl (show mcode 204 28 = some (28, .iconst (-1), 1, 0, 0, 0, _) from rfl) (Or.inl ⟨.int (-1), rfl, rfl⟩) ?_
    refine XW.ret (r := some (.int (-1))) ⟨⟨.int, rfl, rfl⟩, by decide +kernel⟩ ?_
    exact ⟨hf, ⟨sh, R, hw⟩, fun _ _ _ => rfl, Or.inl ⟨fun q => by unfold okLn at q; omega, rfl⟩⟩
  · skip
    refine XW.fam (S' := (10, [(0, .ref 0), (1, .int wk), (2, .int rw), (3, .int wt)], [], (sh, I, L, R))) (M := mr_204) rfl (show mcode 204 7 = some (7, .ifCond .eq 21, 3, 28, 0, 0, _) from rfl) (Or.inr (Or.inl ⟨10, [], rfl, rfl⟩)) ?_
    refine XW.fam (S' := (11, [(0, .ref 0), (1, .int wk), (2, .int rw), (3, .int wt)], [.int rw], (sh, I, L, R))) (M := mr_204) rfl (show mcode 204 10 = some (10, .iload_n 2, 1, 0, 0, 0, _) from rfl) (Or.inl ⟨.int rw, rfl, rfl⟩) ?_
    refine XW.fam (S' := (12, [(0, .ref 0), (1, .int wk), (2, .int rw), (3, .int wt)], [.int 1, .int rw], (sh, I, L, R))) (M := mr_204) rfl (show mcode 204 11 = some (11, .iconst 1, 1, 0, 0, 0, _) from rfl) (Or.inl ⟨.int 1, rfl, rfl⟩) ?_
    refine XW.fam (S' := (13, [(0, .ref 0), (1, .int wk), (2, .int rw), (3, .int wt)], [.int 4, .int 1, .int rw], (sh, I, L, R))) (M := mr_204) rfl (show mcode 204 12 = some (12, .iconst 4, 1, 0, 0, 0, _) from rfl) (Or.inl ⟨.int 4, rfl, rfl⟩) ?_
    refine XW.call (d' := d) (mc' := 0) (ms' := 0) (av := [.int rw, .int 1, .int 4]) (rest := []) (M := mr_204) (Ma := mr_15) rfl (show mcode 204 13 = some (13, .invokestatic 112, 3, 15, 0, 0, _) from rfl) rfl (by decide) (by decide) rfl rfl rfl (show 0 ≤ 8 by decide) (tc_inC) (by omega) (Nat.zero_le _) (Nat.zero_le _) (fun rQ2 wQ2 Q2 => ?_)
    obtain ⟨hQ2, rfl⟩ := Q2
    rcases hQ2 with ⟨rfl, gQ2⟩ | ⟨rfl, gQ2⟩
    · skip
      refine XW.fam (S' := (28, [(0, .ref 0), (1, .int wk), (2, .int rw), (3, .int wt)], [], (sh, I, L, R))) (M := mr_204) rfl (show mcode 204 16 = some (16, .ifCond .eq 12, 3, 28, 0, 0, _) from rfl) (Or.inr (Or.inl ⟨28, [], rfl, rfl⟩)) ?_
      refine XW.fam (S' := (29, [(0, .ref 0), (1, .int wk), (2, .int rw), (3, .int wt)], [.int (-1)], (sh, I, L, R))) (M := mr_204) rfl (show mcode 204 28 = some (28, .iconst (-1), 1, 0, 0, 0, _) from rfl) (Or.inl ⟨.int (-1), rfl, rfl⟩) ?_
      refine XW.ret (r := some (.int (-1))) ⟨⟨.int, rfl, rfl⟩, by decide +kernel⟩ ?_
      exact ⟨hf, ⟨sh, R, hw⟩, fun _ _ _ => rfl, Or.inl ⟨fun q => by unfold okLn at q; omega, rfl⟩⟩
    · skip
      refine XW.fam (S' := (19, [(0, .ref 0), (1, .int wk), (2, .int rw), (3, .int wt)], [], (sh, I, L, R))) (M := mr_204) rfl (show mcode 204 16 = some (16, .ifCond .eq 12, 3, 28, 0, 0, _) from rfl) (Or.inr (Or.inl ⟨19, [], rfl, rfl⟩)) ?_
      refine XW.fam (S' := (20, [(0, .ref 0), (1, .int wk), (2, .int rw), (3, .int wt)], [.int wt], (sh, I, L, R))) (M := mr_204) rfl (show mcode 204 19 = some (19, .iload_n 3, 1, 0, 0, 0, _) from rfl) (Or.inl ⟨.int wt, rfl, rfl⟩) ?_
      refine XW.fam (S' := (21, [(0, .ref 0), (1, .int wk), (2, .int rw), (3, .int wt)], [.int 1, .int wt], (sh, I, L, R))) (M := mr_204) rfl (show mcode 204 20 = some (20, .iconst 1, 1, 0, 0, 0, _) from rfl) (Or.inl ⟨.int 1, rfl, rfl⟩) ?_
      refine XW.fam (S' := (22, [(0, .ref 0), (1, .int wk), (2, .int rw), (3, .int wt)], [.int 4, .int 1, .int wt], (sh, I, L, R))) (M := mr_204) rfl (show mcode 204 21 = some (21, .iconst 4, 1, 0, 0, 0, _) from rfl) (Or.inl ⟨.int 4, rfl, rfl⟩) ?_
      refine XW.call (d' := d) (mc' := 0) (ms' := 0) (av := [.int wt, .int 1, .int 4]) (rest := []) (M := mr_204) (Ma := mr_15) rfl (show mcode 204 22 = some (22, .invokestatic 112, 3, 15, 0, 0, _) from rfl) rfl (by decide) (by decide) rfl rfl rfl (show 0 ≤ 8 by decide) (tc_inC) (by omega) (Nat.zero_le _) (Nat.zero_le _) (fun rQ3 wQ3 Q3 => ?_)
      obtain ⟨hQ3, rfl⟩ := Q3
      rcases hQ3 with ⟨rfl, gQ3⟩ | ⟨rfl, gQ3⟩
      · skip
        refine XW.fam (S' := (28, [(0, .ref 0), (1, .int wk), (2, .int rw), (3, .int wt)], [], (sh, I, L, R))) (M := mr_204) rfl (show mcode 204 25 = some (25, .ifCond .ne 5, 3, 30, 0, 0, _) from rfl) (Or.inr (Or.inl ⟨28, [], rfl, rfl⟩)) ?_
        refine XW.fam (S' := (29, [(0, .ref 0), (1, .int wk), (2, .int rw), (3, .int wt)], [.int (-1)], (sh, I, L, R))) (M := mr_204) rfl (show mcode 204 28 = some (28, .iconst (-1), 1, 0, 0, 0, _) from rfl) (Or.inl ⟨.int (-1), rfl, rfl⟩) ?_
        refine XW.ret (r := some (.int (-1))) ⟨⟨.int, rfl, rfl⟩, by decide +kernel⟩ ?_
        exact ⟨hf, ⟨sh, R, hw⟩, fun _ _ _ => rfl, Or.inl ⟨fun q => by unfold okLn at q; omega, rfl⟩⟩
      · skip
        refine XW.fam (S' := (30, [(0, .ref 0), (1, .int wk), (2, .int rw), (3, .int wt)], [], (sh, I, L, R))) (M := mr_204) rfl (show mcode 204 25 = some (25, .ifCond .ne 5, 3, 30, 0, 0, _) from rfl) (Or.inr (Or.inl ⟨30, [], rfl, rfl⟩)) ?_
        refine XW.fam (S' := (31, [(0, .ref 0), (1, .int wk), (2, .int rw), (3, .int wt)], [.ref 0], (sh, I, L, R))) (M := mr_204) rfl (show mcode 204 30 = some (30, .aload_n 0, 1, 0, 0, 0, _) from rfl) (Or.inl ⟨.ref 0, rfl, rfl⟩) ?_
        refine XW.fam (S' := (34, [(0, .ref 0), (1, .int wk), (2, .int rw), (3, .int wt)], [.ref 90], (sh, I, L, R))) (M := mr_204) rfl (show mcode 204 31 = some (31, .getfield 92, 3, 0, 10, 0, _) from rfl) (Or.inr (Or.inr (Or.inr (Or.inr (Or.inr (Or.inr (Or.inr (Or.inl ⟨_, _, rfl, fl_ld c0 r0_10 (by decide) (by decide), rfl⟩)))))))) ?_
        refine XW.fam (S' := (35, [(0, .ref 0), (1, .int wk), (2, .int rw), (3, .int wt)], [.int wk, .ref 90], (sh, I, L, R))) (M := mr_204) rfl (show mcode 204 34 = some (34, .iload_n 1, 1, 0, 0, 0, _) from rfl) (Or.inl ⟨.int wk, rfl, rfl⟩) ?_
        refine XW.fam (S' := (36, [(0, .ref 0), (1, .int wk), (2, .int rw), (3, .int wt)], [.int rw, .int wk, .ref 90], (sh, I, L, R))) (M := mr_204) rfl (show mcode 204 35 = some (35, .iload_n 2, 1, 0, 0, 0, _) from rfl) (Or.inl ⟨.int rw, rfl, rfl⟩) ?_
        refine XW.fam (S' := (37, [(0, .ref 0), (1, .int wk), (2, .int rw), (3, .int wt)], [.int wt, .int rw, .int wk, .ref 90], (sh, I, L, R))) (M := mr_204) rfl (show mcode 204 36 = some (36, .iload_n 3, 1, 0, 0, 0, _) from rfl) (Or.inl ⟨.int wt, rfl, rfl⟩) ?_
        refine XW.call (d' := d + 2) (mc' := 0) (ms' := 0) (av := [.ref 90, .int wk, .int rw, .int wt]) (rest := []) (M := mr_204) (Ma := mr_205) rfl (show mcode 204 37 = some (37, .invokevirtual 312, 3, 205, 0, 0, _) from rfl) rfl (by decide) (by decide) ⟨rfl, 90, _, rfl, c90⟩ rfl rfl (show 0 ≤ 8 by decide) (tc_low (d := d) hw hf (by omega) (by omega) (by omega)) (by omega) (Nat.zero_le _) (Nat.zero_le _) (fun rQ4 wQ4 Q4 => ?_)
        obtain ⟨hf1, hw1, h1, x, rfl, hx⟩ := Q4
        refine XW.ret (r := some (.int x)) ⟨⟨.int, rfl, rfl⟩, by decide +kernel⟩ ?_
        exact ⟨hf1, hw1, h1, Or.inr ⟨by unfold okLn; omega, x, rfl, hx⟩⟩
