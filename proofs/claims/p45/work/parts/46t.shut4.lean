/-! ===== shut with all its rows; bread alike (wip/genshut4.py) ===== -/
/-- nothing new, or one camp more: its days, its bread, what must be shut ahead of it -/
def Rz (qn kn rd rb ra : Nat) (v e : Int32) (w w' : mW) : Prop := w'.2.1 = w.2.1 ∨ (w'.2.1 qn kn = w.2.1 qn kn + 1 ∧ (w'.2.1 rd (w.2.1 qn kn).toNatClampNeg = v / 1000 ∧ ∀ k, ¬ k = (w.2.1 qn kn).toNatClampNeg → w'.2.1 rd k = w.2.1 rd k) ∧ (w'.2.1 rb (w.2.1 qn kn).toNatClampNeg = v - v / 1000 * 1000 ∧ ∀ k, ¬ k = (w.2.1 qn kn).toNatClampNeg → w'.2.1 rb k = w.2.1 rb k) ∧ (w'.2.1 ra (w.2.1 qn kn).toNatClampNeg = e ∧ ∀ k, ¬ k = (w.2.1 qn kn).toNatClampNeg → w'.2.1 ra k = w.2.1 ra k))
theorem tc_shutT4 {d : Nat} {sh : List mE} {I : Nat → Nat → Int32} {L : Nat → Nat → Int64} {R : Nat → Nat → Option Nat} {p v e : Int32} (hw : wOK (mkT vV []) (wE sh R) (sh, I, L, R)) (hf : fresh (sh, I, L, R)) : Tc 191 (d + 2) 0 0 [.ref 83, .int p, .int v, .int e] (sh, I, L, R) (fun r w' => QZC p v e (sh, I, L, R) r w' ∧ Rz 83 1 85 86 87 v e (sh, I, L, R) w') := by
  have c1 : sh[1]? = some (.inr 1) := hw.1 1 _ rfl
  have c83 : sh[83]? = some (.inr 10) := hw.1 83 _ rfl
  have c84 : sh[84]? = some (.inl (.int, 8)) := hw.1 84 _ rfl
  have c85 : sh[85]? = some (.inl (.int, 8)) := hw.1 85 _ rfl
  have c86 : sh[86]? = some (.inl (.int, 8)) := hw.1 86 _ rfl
  have c87 : sh[87]? = some (.inl (.int, 8)) := hw.1 87 _ rfl
  have r83_0 : R 83 0 = some 1 := hw.2.1 83 0 _ rfl
  have r83_2 : R 83 2 = some 84 := hw.2.1 83 2 _ rfl
  have r83_3 : R 83 3 = some 85 := hw.2.1 83 3 _ rfl
  have r83_4 : R 83 4 = some 86 := hw.2.1 83 4 _ rfl
  have r83_5 : R 83 5 = some 87 := hw.2.1 83 5 _ rfl
  have zm3 : ((-3) : Int32).toInt = (-3) := rfl
  have zm1 : ((-1) : Int32).toInt = (-1) := rfl
  have z0 : (0 : Int32).toInt = 0 := rfl
  have z1 : (1 : Int32).toInt = 1 := rfl
  have z8 : (8 : Int32).toInt = 8 := rfl
  have z255 : (255 : Int32).toInt = 255 := rfl
  have z1000 : (1000 : Int32).toInt = 1000 := rfl
  have z1001 : (1001 : Int32).toInt = 1001 := rfl
  have z20999 : (20999 : Int32).toInt = 20999 := rfl
  have hmc : 0 ≤ (I 83 1).toInt ∧ (I 83 1).toInt ≤ 8 := hw.2.2.1 83 1
  obtain ⟨m, em⟩ : ∃ m, I 83 1 = m := ⟨_, rfl⟩
  rw [em] at hmc
  have hm : 0 ≤ (I 1 1).toInt ∧ (I 1 1).toInt ≤ 20 := hw.2.2.1 1 1
  refine Tc.of mr_191 rfl (show 4 ≤ mr_191.2.2.2.1 by decide) ?_
  refine XW.fam (S' := (1, [(0, .ref 83), (1, .int p), (2, .int v), (3, .int e)], [.ref 83], (sh, I, L, R))) (M := mr_191) rfl (show mcode 191 0 = some (0, .aload_n 0, 1, 0, 0, 0, _) from rfl) (Or.inl ⟨.ref 83, rfl, rfl⟩) ?_
  refine XW.fam (S' := (4, [(0, .ref 83), (1, .int p), (2, .int v), (3, .int e)], [.ref 1], (sh, I, L, R))) (M := mr_191) rfl (show mcode 191 1 = some (1, .getfield 30, 3, 10, 0, 0, _) from rfl) (Or.inr (Or.inr (Or.inr (Or.inr (Or.inr (Or.inr (Or.inr (Or.inl ⟨_, _, rfl, fl_ld c83 r83_0 (by decide) (by decide), rfl⟩)))))))) ?_
  refine XW.fam (S' := (5, [(0, .ref 83), (1, .int p), (2, .int v), (3, .int e)], [.int p, .ref 1], (sh, I, L, R))) (M := mr_191) rfl (show mcode 191 4 = some (4, .iload_n 1, 1, 0, 0, 0, _) from rfl) (Or.inl ⟨.int p, rfl, rfl⟩) ?_
  refine XW.call (d' := d) (mc' := 0) (ms' := 0) (av := [.ref 1, .int p]) (rest := []) (M := mr_191) (Ma := mr_19) rfl (show mcode 191 5 = some (5, .invokevirtual 34, 3, 19, 0, 0, _) from rfl) rfl (by decide) (by decide) ⟨rfl, 1, _, rfl, c1⟩ rfl rfl (show 0 ≤ 8 by decide) (tc_isPlC (d := d) hw) (by omega) (Nat.zero_le _) (Nat.zero_le _) (fun rQ1 wQ1 Q1 => ?_)
  obtain ⟨hQ1, rfl⟩ := Q1
  rcases hQ1 with ⟨rfl, gQ1⟩ | ⟨rfl, gQ1⟩
  · skip
    refine XW.fam (S' := (33, [(0, .ref 83), (1, .int p), (2, .int v), (3, .int e)], [], (sh, I, L, R))) (M := mr_191) rfl (show mcode 191 8 = some (8, .ifCond .eq 25, 3, 33, 0, 0, _) from rfl) (Or.inr (Or.inl ⟨33, [], rfl, rfl⟩)) ?_
    refine XW.fam (S' := (34, [(0, .ref 83), (1, .int p), (2, .int v), (3, .int e)], [.int (-1)], (sh, I, L, R))) (M := mr_191) rfl (show mcode 191 33 = some (33, .iconst (-1), 1, 0, 0, 0, _) from rfl) (Or.inl ⟨.int (-1), rfl, rfl⟩) ?_
    refine XW.ret (r := some (.int (-1))) ⟨⟨.int, rfl, rfl⟩, by decide +kernel⟩ ?_
    refine ⟨?_, Or.inl rfl⟩
    exact ⟨hf, ⟨sh, R, hw⟩, Or.inl ⟨fun q => by have q1 : okZC I p v e := q.1; unfold okZC at q1; rw [em] at q1; omega, rfl, rfl⟩⟩
  · skip
    refine XW.fam (S' := (11, [(0, .ref 83), (1, .int p), (2, .int v), (3, .int e)], [], (sh, I, L, R))) (M := mr_191) rfl (show mcode 191 8 = some (8, .ifCond .eq 25, 3, 33, 0, 0, _) from rfl) (Or.inr (Or.inl ⟨11, [], rfl, rfl⟩)) ?_
    refine XW.fam (S' := (12, [(0, .ref 83), (1, .int p), (2, .int v), (3, .int e)], [.ref 83], (sh, I, L, R))) (M := mr_191) rfl (show mcode 191 11 = some (11, .aload_n 0, 1, 0, 0, 0, _) from rfl) (Or.inl ⟨.ref 83, rfl, rfl⟩) ?_
    refine XW.fam (S' := (15, [(0, .ref 83), (1, .int p), (2, .int v), (3, .int e)], [.ref 1], (sh, I, L, R))) (M := mr_191) rfl (show mcode 191 12 = some (12, .getfield 30, 3, 10, 0, 0, _) from rfl) (Or.inr (Or.inr (Or.inr (Or.inr (Or.inr (Or.inr (Or.inr (Or.inl ⟨_, _, rfl, fl_ld c83 r83_0 (by decide) (by decide), rfl⟩)))))))) ?_
    refine XW.fam (S' := (16, [(0, .ref 83), (1, .int p), (2, .int v), (3, .int e)], [.int p, .ref 1], (sh, I, L, R))) (M := mr_191) rfl (show mcode 191 15 = some (15, .iload_n 1, 1, 0, 0, 0, _) from rfl) (Or.inl ⟨.int p, rfl, rfl⟩) ?_
    refine XW.call (d' := d + 1) (mc' := 0) (ms' := 0) (av := [.ref 1, .int p]) (rest := []) (M := mr_191) (Ma := mr_128) rfl (show mcode 191 16 = some (16, .invokevirtual 40, 3, 128, 0, 0, _) from rfl) rfl (by decide) (by decide) ⟨rfl, 1, _, rfl, c1⟩ rfl rfl (show 0 ≤ 8 by decide) (tc_isPoC (d := d) hw) (by omega) (Nat.zero_le _) (Nat.zero_le _) (fun rQ2 wQ2 Q2 => ?_)
    obtain ⟨hQ2, rfl⟩ := Q2
    rcases hQ2 with ⟨rfl, gQ2⟩ | ⟨rfl, gQ2⟩
    · skip
      refine XW.fam (S' := (22, [(0, .ref 83), (1, .int p), (2, .int v), (3, .int e)], [], (sh, I, L, R))) (M := mr_191) rfl (show mcode 191 19 = some (19, .ifCond .ne 14, 3, 33, 0, 0, _) from rfl) (Or.inr (Or.inl ⟨22, [], rfl, rfl⟩)) ?_
      refine XW.fam (S' := (23, [(0, .ref 83), (1, .int p), (2, .int v), (3, .int e)], [.int e], (sh, I, L, R))) (M := mr_191) rfl (show mcode 191 22 = some (22, .iload_n 3, 1, 0, 0, 0, _) from rfl) (Or.inl ⟨.int e, rfl, rfl⟩) ?_
      refine XW.fam (S' := (24, [(0, .ref 83), (1, .int p), (2, .int v), (3, .int e)], [.int 0, .int e], (sh, I, L, R))) (M := mr_191) rfl (show mcode 191 23 = some (23, .iconst 0, 1, 0, 0, 0, _) from rfl) (Or.inl ⟨.int 0, rfl, rfl⟩) ?_
      refine XW.fam (S' := (27, [(0, .ref 83), (1, .int p), (2, .int v), (3, .int e)], [.int 255, .int 0, .int e], (sh, I, L, R))) (M := mr_191) rfl (show mcode 191 24 = some (24, .sipush 255, 3, 0, 0, 0, _) from rfl) (Or.inl ⟨.int 255, rfl, rfl⟩) ?_
      refine XW.call (d' := d) (mc' := 0) (ms' := 0) (av := [.int e, .int 0, .int 255]) (rest := []) (M := mr_191) (Ma := mr_15) rfl (show mcode 191 27 = some (27, .invokestatic 43, 3, 15, 1, 0, _) from rfl) rfl (by decide) (by decide) rfl rfl rfl (show 0 ≤ 8 by decide) (tc_inC) (by omega) (Nat.zero_le _) (Nat.zero_le _) (fun rQ3 wQ3 Q3 => ?_)
      obtain ⟨hQ3, rfl⟩ := Q3
      rcases hQ3 with ⟨rfl, gQ3⟩ | ⟨rfl, gQ3⟩
      · skip
        refine XW.fam (S' := (33, [(0, .ref 83), (1, .int p), (2, .int v), (3, .int e)], [], (sh, I, L, R))) (M := mr_191) rfl (show mcode 191 30 = some (30, .ifCond .ne 5, 3, 35, 0, 0, _) from rfl) (Or.inr (Or.inl ⟨33, [], rfl, rfl⟩)) ?_
        refine XW.fam (S' := (34, [(0, .ref 83), (1, .int p), (2, .int v), (3, .int e)], [.int (-1)], (sh, I, L, R))) (M := mr_191) rfl (show mcode 191 33 = some (33, .iconst (-1), 1, 0, 0, 0, _) from rfl) (Or.inl ⟨.int (-1), rfl, rfl⟩) ?_
        refine XW.ret (r := some (.int (-1))) ⟨⟨.int, rfl, rfl⟩, by decide +kernel⟩ ?_
        refine ⟨?_, Or.inl rfl⟩
        exact ⟨hf, ⟨sh, R, hw⟩, Or.inl ⟨fun q => by have q1 : okZC I p v e := q.1; unfold okZC at q1; rw [em] at q1; omega, rfl, rfl⟩⟩
      · skip
        refine XW.fam (S' := (35, [(0, .ref 83), (1, .int p), (2, .int v), (3, .int e)], [], (sh, I, L, R))) (M := mr_191) rfl (show mcode 191 30 = some (30, .ifCond .ne 5, 3, 35, 0, 0, _) from rfl) (Or.inr (Or.inl ⟨35, [], rfl, rfl⟩)) ?_
        refine XW.fam (S' := (36, [(0, .ref 83), (1, .int p), (2, .int v), (3, .int e)], [.int v], (sh, I, L, R))) (M := mr_191) rfl (show mcode 191 35 = some (35, .iload_n 2, 1, 0, 0, 0, _) from rfl) (Or.inl ⟨.int v, rfl, rfl⟩) ?_
        refine XW.fam (S' := (39, [(0, .ref 83), (1, .int p), (2, .int v), (3, .int e)], [.int 1001, .int v], (sh, I, L, R))) (M := mr_191) rfl (show mcode 191 36 = some (36, .sipush 1001, 3, 0, 0, 0, _) from rfl) (Or.inl ⟨.int 1001, rfl, rfl⟩) ?_
        refine XW.fam (S' := (42, [(0, .ref 83), (1, .int p), (2, .int v), (3, .int e)], [.int 20999, .int 1001, .int v], (sh, I, L, R))) (M := mr_191) rfl (show mcode 191 39 = some (39, .sipush 20999, 3, 0, 0, 0, _) from rfl) (Or.inl ⟨.int 20999, rfl, rfl⟩) ?_
        refine XW.call (d' := d) (mc' := 0) (ms' := 0) (av := [.int v, .int 1001, .int 20999]) (rest := []) (M := mr_191) (Ma := mr_15) rfl (show mcode 191 42 = some (42, .invokestatic 43, 3, 15, 1, 0, _) from rfl) rfl (by decide) (by decide) rfl rfl rfl (show 0 ≤ 8 by decide) (tc_inC) (by omega) (Nat.zero_le _) (Nat.zero_le _) (fun rQ4 wQ4 Q4 => ?_)
        obtain ⟨hQ4, rfl⟩ := Q4
        rcases hQ4 with ⟨rfl, gQ4⟩ | ⟨rfl, gQ4⟩
        · skip
          refine XW.fam (S' := (67, [(0, .ref 83), (1, .int p), (2, .int v), (3, .int e)], [], (sh, I, L, R))) (M := mr_191) rfl (show mcode 191 45 = some (45, .ifCond .eq 22, 3, 67, 0, 0, _) from rfl) (Or.inr (Or.inl ⟨67, [], rfl, rfl⟩)) ?_
          refine XW.fam (S' := (68, [(0, .ref 83), (1, .int p), (2, .int v), (3, .int e)], [.int (-1)], (sh, I, L, R))) (M := mr_191) rfl (show mcode 191 67 = some (67, .iconst (-1), 1, 0, 0, 0, _) from rfl) (Or.inl ⟨.int (-1), rfl, rfl⟩) ?_
          refine XW.ret (r := some (.int (-1))) ⟨⟨.int, rfl, rfl⟩, by decide +kernel⟩ ?_
          refine ⟨?_, Or.inl rfl⟩
          exact ⟨hf, ⟨sh, R, hw⟩, Or.inl ⟨fun q => by have q1 : okZC I p v e := q.1; unfold okZC at q1; rw [em] at q1; omega, rfl, rfl⟩⟩
        · skip
          refine XW.fam (S' := (48, [(0, .ref 83), (1, .int p), (2, .int v), (3, .int e)], [], (sh, I, L, R))) (M := mr_191) rfl (show mcode 191 45 = some (45, .ifCond .eq 22, 3, 67, 0, 0, _) from rfl) (Or.inr (Or.inl ⟨48, [], rfl, rfl⟩)) ?_
          refine XW.fam (S' := (49, [(0, .ref 83), (1, .int p), (2, .int v), (3, .int e)], [.int v], (sh, I, L, R))) (M := mr_191) rfl (show mcode 191 48 = some (48, .iload_n 2, 1, 0, 0, 0, _) from rfl) (Or.inl ⟨.int v, rfl, rfl⟩) ?_
          refine XW.fam (S' := (52, [(0, .ref 83), (1, .int p), (2, .int v), (3, .int e)], [.int 1000, .int v], (sh, I, L, R))) (M := mr_191) rfl (show mcode 191 49 = some (49, .sipush 1000, 3, 0, 0, 0, _) from rfl) (Or.inl ⟨.int 1000, rfl, rfl⟩) ?_
          refine XW.fam (S' := (53, [(0, .ref 83), (1, .int p), (2, .int v), (3, .int e)], [.int (v - v / 1000 * 1000)], (sh, I, L, R))) (M := mr_191) rfl (show mcode 191 52 = some (52, .irem, 1, 0, 0, 0, _) from rfl) (Or.inr (Or.inr (Or.inr (Or.inr (Or.inr (Or.inl ⟨_, stk_bin (by simp only [ibin]; rw [if_neg (by decide)]), rfl⟩)))))) ?_
          cases k5 : bcmp .eq (v - v / 1000 * 1000) 0 with
          | true =>
            have gk5 : ((v - v / 1000 * 1000)).toInt = 0 := icT (c := .eq) (a := ((v - v / 1000 * 1000)).toInt) (b := 0) rfl (by decide) k5
            refine XW.fam (S' := (67, [(0, .ref 83), (1, .int p), (2, .int v), (3, .int e)], [], (sh, I, L, R))) (M := mr_191) rfl (show mcode 191 53 = some (53, .ifCond .eq 14, 3, 67, 0, 0, _) from rfl) (Or.inr (Or.inl ⟨67, [], by simp [brn, k5], rfl⟩)) ?_
            refine XW.fam (S' := (68, [(0, .ref 83), (1, .int p), (2, .int v), (3, .int e)], [.int (-1)], (sh, I, L, R))) (M := mr_191) rfl (show mcode 191 67 = some (67, .iconst (-1), 1, 0, 0, 0, _) from rfl) (Or.inl ⟨.int (-1), rfl, rfl⟩) ?_
            refine XW.ret (r := some (.int (-1))) ⟨⟨.int, rfl, rfl⟩, by decide +kernel⟩ ?_
            refine ⟨?_, Or.inl rfl⟩
            exact ⟨hf, ⟨sh, R, hw⟩, Or.inl ⟨fun q => by have q1 : okZC I p v e := q.1; unfold okZC at q1; rw [em] at q1; omega, rfl, rfl⟩⟩
          | false =>
            have gk5 : ¬ (((v - v / 1000 * 1000)).toInt = 0) := icF (c := .eq) (a := ((v - v / 1000 * 1000)).toInt) (b := 0) rfl (by decide) k5
            refine XW.fam (S' := (56, [(0, .ref 83), (1, .int p), (2, .int v), (3, .int e)], [], (sh, I, L, R))) (M := mr_191) rfl (show mcode 191 53 = some (53, .ifCond .eq 14, 3, 67, 0, 0, _) from rfl) (Or.inr (Or.inl ⟨56, [], by simp [brn, k5], rfl⟩)) ?_
            refine XW.fam (S' := (57, [(0, .ref 83), (1, .int p), (2, .int v), (3, .int e)], [.int e], (sh, I, L, R))) (M := mr_191) rfl (show mcode 191 56 = some (56, .iload_n 3, 1, 0, 0, 0, _) from rfl) (Or.inl ⟨.int e, rfl, rfl⟩) ?_
            refine XW.fam (S' := (58, [(0, .ref 83), (1, .int p), (2, .int v), (3, .int e)], [.ref 83, .int e], (sh, I, L, R))) (M := mr_191) rfl (show mcode 191 57 = some (57, .aload_n 0, 1, 0, 0, 0, _) from rfl) (Or.inl ⟨.ref 83, rfl, rfl⟩) ?_
            refine XW.fam (S' := (61, [(0, .ref 83), (1, .int p), (2, .int v), (3, .int e)], [.int (I 83 1), .int e], (sh, I, L, R))) (M := mr_191) rfl (show mcode 191 58 = some (58, .getfield 47, 3, 10, 1, 0, _) from rfl) (Or.inr (Or.inr (Or.inr (Or.inr (Or.inr (Or.inr (Or.inr (Or.inl ⟨_, _, rfl, fl_ldI c83 (by decide) (by decide), rfl⟩)))))))) ?_
            rw [em]
            refine XW.fam (S' := (62, [(0, .ref 83), (1, .int p), (2, .int v), (3, .int e)], [.int (e >>> (m &&& 31))], (sh, I, L, R))) (M := mr_191) rfl (show mcode 191 61 = some (61, .ishr, 1, 0, 0, 0, _) from rfl) (Or.inr (Or.inr (Or.inr (Or.inr (Or.inr (Or.inl ⟨_, rfl, rfl⟩)))))) ?_
            refine XW.fam (S' := (63, [(0, .ref 83), (1, .int p), (2, .int v), (3, .int e)], [.int 1, .int (e >>> (m &&& 31))], (sh, I, L, R))) (M := mr_191) rfl (show mcode 191 62 = some (62, .iconst 1, 1, 0, 0, 0, _) from rfl) (Or.inl ⟨.int 1, rfl, rfl⟩) ?_
            refine XW.fam (S' := (64, [(0, .ref 83), (1, .int p), (2, .int v), (3, .int e)], [.int ((e >>> (m &&& 31)) &&& 1)], (sh, I, L, R))) (M := mr_191) rfl (show mcode 191 63 = some (63, .iand, 1, 0, 0, 0, _) from rfl) (Or.inr (Or.inr (Or.inr (Or.inr (Or.inr (Or.inl ⟨_, rfl, rfl⟩)))))) ?_
            cases k6 : bcmp .eq ((e >>> (m &&& 31)) &&& 1) 0 with
            | true =>
              have gk6 : (((e >>> (m &&& 31)) &&& 1)).toInt = 0 := icT (c := .eq) (a := (((e >>> (m &&& 31)) &&& 1)).toInt) (b := 0) rfl (by decide) k6
              refine XW.fam (S' := (69, [(0, .ref 83), (1, .int p), (2, .int v), (3, .int e)], [], (sh, I, L, R))) (M := mr_191) rfl (show mcode 191 64 = some (64, .ifCond .eq 5, 3, 69, 0, 0, _) from rfl) (Or.inr (Or.inl ⟨69, [], by simp [brn, k6], rfl⟩)) ?_
              refine XW.fam (S' := (70, [(0, .ref 83), (1, .int p), (2, .int v), (3, .int e)], [.int 0], (sh, I, L, R))) (M := mr_191) rfl (show mcode 191 69 = some (69, .iconst 0, 1, 0, 0, 0, _) from rfl) (Or.inl ⟨.int 0, rfl, rfl⟩) ?_
              refine XW.fam (S' := (72, [(4, .int 0), (0, .ref 83), (1, .int p), (2, .int v), (3, .int e)], [], (sh, I, L, R))) (M := mr_191) rfl (show mcode 191 70 = some (70, .istore 4, 2, 0, 0, 0, _) from rfl) (Or.inr (Or.inr (Or.inr (Or.inr (Or.inr (Or.inr (Or.inl ⟨_, [], _, rfl, rfl, rfl⟩))))))) ?_
              refine scan_ZC (d := d) hw (by rw [em]; omega) (fun ht t => ?_) (fun ht t => ?_) 9 0 (by decide) (by decide) (by rw [em]; omega) (fun k hk => by exfalso; have z0 : (0 : Int32).toInt = 0 := rfl; omega)
              · skip
                refine XW.fam (S' := (93, [(4, .int t), (0, .ref 83), (1, .int p), (2, .int v), (3, .int e)], [.int (-1)], (sh, I, L, R))) (M := mr_191) rfl (show mcode 191 92 = some (92, .iconst (-1), 1, 0, 0, 0, _) from rfl) (Or.inl ⟨.int (-1), rfl, rfl⟩) ?_
                refine XW.ret (r := some (.int (-1))) ⟨⟨.int, rfl, rfl⟩, by decide +kernel⟩ ?_
                refine ⟨?_, Or.inl rfl⟩
                exact ⟨hf, ⟨sh, R, hw⟩, Or.inl ⟨fun q => q.2 ht, rfl, rfl⟩⟩
              · skip
                refine XW.fam (S' := (101, [(4, .int t), (0, .ref 83), (1, .int p), (2, .int v), (3, .int e)], [.ref 83], (sh, I, L, R))) (M := mr_191) rfl (show mcode 191 100 = some (100, .aload_n 0, 1, 0, 0, 0, _) from rfl) (Or.inl ⟨.ref 83, rfl, rfl⟩) ?_
                refine XW.fam (S' := (104, [(4, .int t), (0, .ref 83), (1, .int p), (2, .int v), (3, .int e)], [.int (I 83 1)], (sh, I, L, R))) (M := mr_191) rfl (show mcode 191 101 = some (101, .getfield 47, 3, 10, 1, 0, _) from rfl) (Or.inr (Or.inr (Or.inr (Or.inr (Or.inr (Or.inr (Or.inr (Or.inl ⟨_, _, rfl, fl_ldI c83 (by decide) (by decide), rfl⟩)))))))) ?_
                rw [em]
                refine XW.fam (S' := (106, [(4, .int t), (0, .ref 83), (1, .int p), (2, .int v), (3, .int e)], [.int 8, .int m], (sh, I, L, R))) (M := mr_191) rfl (show mcode 191 104 = some (104, .bipush 8, 2, 0, 0, 0, _) from rfl) (Or.inl ⟨.int 8, rfl, rfl⟩) ?_
                cases k7 : bcmp .lt m 8 with
                | true =>
                  have gk7 : (m).toInt < 8 := icT (c := .lt) (a := (m).toInt) (b := 8) rfl (by decide) k7
                  refine XW.fam (S' := (112, [(4, .int t), (0, .ref 83), (1, .int p), (2, .int v), (3, .int e)], [], (sh, I, L, R))) (M := mr_191) rfl (show mcode 191 106 = some (106, .if_icmp .lt 6, 3, 112, 0, 0, _) from rfl) (Or.inr (Or.inl ⟨112, [], by simp [brn, k7], rfl⟩)) ?_
                  refine XW.fam (S' := (113, [(4, .int t), (0, .ref 83), (1, .int p), (2, .int v), (3, .int e)], [.ref 83], (sh, I, L, R))) (M := mr_191) rfl (show mcode 191 112 = some (112, .aload_n 0, 1, 0, 0, 0, _) from rfl) (Or.inl ⟨.ref 83, rfl, rfl⟩) ?_
                  refine XW.fam (S' := (116, [(4, .int t), (0, .ref 83), (1, .int p), (2, .int v), (3, .int e)], [.ref 84], (sh, I, L, R))) (M := mr_191) rfl (show mcode 191 113 = some (113, .getfield 11, 3, 10, 2, 0, _) from rfl) (Or.inr (Or.inr (Or.inr (Or.inr (Or.inr (Or.inr (Or.inr (Or.inl ⟨_, _, rfl, fl_ld c83 r83_2 (by decide) (by decide), rfl⟩)))))))) ?_
                  refine XW.fam (S' := (117, [(4, .int t), (0, .ref 83), (1, .int p), (2, .int v), (3, .int e)], [.ref 83, .ref 84], (sh, I, L, R))) (M := mr_191) rfl (show mcode 191 116 = some (116, .aload_n 0, 1, 0, 0, 0, _) from rfl) (Or.inl ⟨.ref 83, rfl, rfl⟩) ?_
                  refine XW.fam (S' := (120, [(4, .int t), (0, .ref 83), (1, .int p), (2, .int v), (3, .int e)], [.int (I 83 1), .ref 84], (sh, I, L, R))) (M := mr_191) rfl (show mcode 191 117 = some (117, .getfield 47, 3, 10, 1, 0, _) from rfl) (Or.inr (Or.inr (Or.inr (Or.inr (Or.inr (Or.inr (Or.inr (Or.inl ⟨_, _, rfl, fl_ldI c83 (by decide) (by decide), rfl⟩)))))))) ?_
                  rw [em]
                  refine XW.fam (S' := (121, [(4, .int t), (0, .ref 83), (1, .int p), (2, .int v), (3, .int e)], [.int p, .int m, .ref 84], (sh, I, L, R))) (M := mr_191) rfl (show mcode 191 120 = some (120, .iload_n 1, 1, 0, 0, 0, _) from rfl) (Or.inl ⟨.int p, rfl, rfl⟩) ?_
                  have hin8 : inR m 8 = true := inR_of (by omega) (by omega)
                  obtain ⟨I9, eI9⟩ : ∃ X, X = up2 I 84 (m).toNatClampNeg p := ⟨_, rfl⟩
                  refine XW.fam (S' := (122, [(4, .int t), (0, .ref 83), (1, .int p), (2, .int v), (3, .int e)], [], (sh, I9, L, R))) (M := mr_191) rfl (show mcode 191 121 = some (121, .iastore, 1, 0, 0, 0, _) from rfl) (Or.inr (Or.inr (Or.inr (Or.inl ⟨_, _, by rw [eI9]; exact sta_i c84 hin8, rfl⟩)))) ?_
                  have hwI9 : wOK (mkT vV []) (wE sh R) (sh, I9, L, R) := by rw [eI9]; exact wOK_u2 (q := 84) (k := (m).toNatClampNeg) (x := p) wE_put hw rfl (by show (0 : Int) ≤ _; omega) (by show _ ≤ (19 : Int); omega)
                  have hfI9 : fresh (sh, I9, L, R) := by rw [eI9]; exact fresh_I hf c84
                  have v10 : I9 83 1 = m := by rw [eI9, up2_ne (fun e => by cases e.1)]; exact em
                  have v11 : I9 84 (m).toNatClampNeg = p := by rw [eI9]; exact up2_eq
                  refine XW.fam (S' := (123, [(4, .int t), (0, .ref 83), (1, .int p), (2, .int v), (3, .int e)], [.ref 83], (sh, I9, L, R))) (M := mr_191) rfl (show mcode 191 122 = some (122, .aload_n 0, 1, 0, 0, 0, _) from rfl) (Or.inl ⟨.ref 83, rfl, rfl⟩) ?_
                  refine XW.fam (S' := (126, [(4, .int t), (0, .ref 83), (1, .int p), (2, .int v), (3, .int e)], [.ref 85], (sh, I9, L, R))) (M := mr_191) rfl (show mcode 191 123 = some (123, .getfield 15, 3, 10, 3, 0, _) from rfl) (Or.inr (Or.inr (Or.inr (Or.inr (Or.inr (Or.inr (Or.inr (Or.inl ⟨_, _, rfl, fl_ld c83 r83_3 (by decide) (by decide), rfl⟩)))))))) ?_
                  refine XW.fam (S' := (127, [(4, .int t), (0, .ref 83), (1, .int p), (2, .int v), (3, .int e)], [.ref 83, .ref 85], (sh, I9, L, R))) (M := mr_191) rfl (show mcode 191 126 = some (126, .aload_n 0, 1, 0, 0, 0, _) from rfl) (Or.inl ⟨.ref 83, rfl, rfl⟩) ?_
                  refine XW.fam (S' := (130, [(4, .int t), (0, .ref 83), (1, .int p), (2, .int v), (3, .int e)], [.int (I9 83 1), .ref 85], (sh, I9, L, R))) (M := mr_191) rfl (show mcode 191 127 = some (127, .getfield 47, 3, 10, 1, 0, _) from rfl) (Or.inr (Or.inr (Or.inr (Or.inr (Or.inr (Or.inr (Or.inr (Or.inl ⟨_, _, rfl, fl_ldI c83 (by decide) (by decide), rfl⟩)))))))) ?_
                  rw [v10]
                  refine XW.fam (S' := (131, [(4, .int t), (0, .ref 83), (1, .int p), (2, .int v), (3, .int e)], [.int v, .int m, .ref 85], (sh, I9, L, R))) (M := mr_191) rfl (show mcode 191 130 = some (130, .iload_n 2, 1, 0, 0, 0, _) from rfl) (Or.inl ⟨.int v, rfl, rfl⟩) ?_
                  refine XW.fam (S' := (134, [(4, .int t), (0, .ref 83), (1, .int p), (2, .int v), (3, .int e)], [.int 1000, .int v, .int m, .ref 85], (sh, I9, L, R))) (M := mr_191) rfl (show mcode 191 131 = some (131, .sipush 1000, 3, 0, 0, 0, _) from rfl) (Or.inl ⟨.int 1000, rfl, rfl⟩) ?_
                  refine XW.fam (S' := (135, [(4, .int t), (0, .ref 83), (1, .int p), (2, .int v), (3, .int e)], [.int (v / 1000), .int m, .ref 85], (sh, I9, L, R))) (M := mr_191) rfl (show mcode 191 134 = some (134, .idiv, 1, 0, 0, 0, _) from rfl) (Or.inr (Or.inr (Or.inr (Or.inr (Or.inr (Or.inl ⟨_, stk_bin (by simp only [ibin]; rw [if_neg (by decide)]), rfl⟩)))))) ?_
                  have hin12 : inR m 8 = true := inR_of (by omega) (by omega)
                  obtain ⟨I13, eI13⟩ : ∃ X, X = up2 I9 85 (m).toNatClampNeg (v / 1000) := ⟨_, rfl⟩
                  refine XW.fam (S' := (136, [(4, .int t), (0, .ref 83), (1, .int p), (2, .int v), (3, .int e)], [], (sh, I13, L, R))) (M := mr_191) rfl (show mcode 191 135 = some (135, .iastore, 1, 0, 0, 0, _) from rfl) (Or.inr (Or.inr (Or.inr (Or.inl ⟨_, _, by rw [eI13]; exact sta_i c85 hin12, rfl⟩)))) ?_
                  have xd := dv1000 (x := v) (by omega)
                  have hwI13 : wOK (mkT vV []) (wE sh R) (sh, I13, L, R) := by rw [eI13]; exact wOK_u2 (q := 85) (k := (m).toNatClampNeg) (x := (v / 1000)) wE_put hwI9 rfl (by show (0 : Int) ≤ _; omega) (by show _ ≤ (20 : Int); omega)
                  have hfI13 : fresh (sh, I13, L, R) := by rw [eI13]; exact fresh_I hfI9 c85
                  have v14 : I13 83 1 = m := by rw [eI13, up2_ne (fun e => by cases e.1)]; exact v10
                  have v15 : I13 84 (m).toNatClampNeg = p := by rw [eI13, up2_ne (fun e => by cases e.1)]; exact v11
                  have v16 : I13 85 (m).toNatClampNeg = (v / 1000) := by rw [eI13]; exact up2_eq
                  refine XW.fam (S' := (137, [(4, .int t), (0, .ref 83), (1, .int p), (2, .int v), (3, .int e)], [.ref 83], (sh, I13, L, R))) (M := mr_191) rfl (show mcode 191 136 = some (136, .aload_n 0, 1, 0, 0, 0, _) from rfl) (Or.inl ⟨.ref 83, rfl, rfl⟩) ?_
                  refine XW.fam (S' := (140, [(4, .int t), (0, .ref 83), (1, .int p), (2, .int v), (3, .int e)], [.ref 86], (sh, I13, L, R))) (M := mr_191) rfl (show mcode 191 137 = some (137, .getfield 18, 3, 10, 4, 0, _) from rfl) (Or.inr (Or.inr (Or.inr (Or.inr (Or.inr (Or.inr (Or.inr (Or.inl ⟨_, _, rfl, fl_ld c83 r83_4 (by decide) (by decide), rfl⟩)))))))) ?_
                  refine XW.fam (S' := (141, [(4, .int t), (0, .ref 83), (1, .int p), (2, .int v), (3, .int e)], [.ref 83, .ref 86], (sh, I13, L, R))) (M := mr_191) rfl (show mcode 191 140 = some (140, .aload_n 0, 1, 0, 0, 0, _) from rfl) (Or.inl ⟨.ref 83, rfl, rfl⟩) ?_
                  refine XW.fam (S' := (144, [(4, .int t), (0, .ref 83), (1, .int p), (2, .int v), (3, .int e)], [.int (I13 83 1), .ref 86], (sh, I13, L, R))) (M := mr_191) rfl (show mcode 191 141 = some (141, .getfield 47, 3, 10, 1, 0, _) from rfl) (Or.inr (Or.inr (Or.inr (Or.inr (Or.inr (Or.inr (Or.inr (Or.inl ⟨_, _, rfl, fl_ldI c83 (by decide) (by decide), rfl⟩)))))))) ?_
                  rw [v14]
                  refine XW.fam (S' := (145, [(4, .int t), (0, .ref 83), (1, .int p), (2, .int v), (3, .int e)], [.int v, .int m, .ref 86], (sh, I13, L, R))) (M := mr_191) rfl (show mcode 191 144 = some (144, .iload_n 2, 1, 0, 0, 0, _) from rfl) (Or.inl ⟨.int v, rfl, rfl⟩) ?_
                  refine XW.fam (S' := (148, [(4, .int t), (0, .ref 83), (1, .int p), (2, .int v), (3, .int e)], [.int 1000, .int v, .int m, .ref 86], (sh, I13, L, R))) (M := mr_191) rfl (show mcode 191 145 = some (145, .sipush 1000, 3, 0, 0, 0, _) from rfl) (Or.inl ⟨.int 1000, rfl, rfl⟩) ?_
                  refine XW.fam (S' := (149, [(4, .int t), (0, .ref 83), (1, .int p), (2, .int v), (3, .int e)], [.int (v - v / 1000 * 1000), .int m, .ref 86], (sh, I13, L, R))) (M := mr_191) rfl (show mcode 191 148 = some (148, .irem, 1, 0, 0, 0, _) from rfl) (Or.inr (Or.inr (Or.inr (Or.inr (Or.inr (Or.inl ⟨_, stk_bin (by simp only [ibin]; rw [if_neg (by decide)]), rfl⟩)))))) ?_
                  have hin17 : inR m 8 = true := inR_of (by omega) (by omega)
                  obtain ⟨I18, eI18⟩ : ∃ X, X = up2 I13 86 (m).toNatClampNeg (v - v / 1000 * 1000) := ⟨_, rfl⟩
                  refine XW.fam (S' := (150, [(4, .int t), (0, .ref 83), (1, .int p), (2, .int v), (3, .int e)], [], (sh, I18, L, R))) (M := mr_191) rfl (show mcode 191 149 = some (149, .iastore, 1, 0, 0, 0, _) from rfl) (Or.inr (Or.inr (Or.inr (Or.inl ⟨_, _, by rw [eI18]; exact sta_i c86 hin17, rfl⟩)))) ?_
                  have xr := rm1000 (x := v) (by omega)
                  have hwI18 : wOK (mkT vV []) (wE sh R) (sh, I18, L, R) := by rw [eI18]; exact wOK_u2 (q := 86) (k := (m).toNatClampNeg) (x := (v - v / 1000 * 1000)) wE_put hwI13 rfl (by show (0 : Int) ≤ _; omega) (by show _ ≤ (999 : Int); omega)
                  have hfI18 : fresh (sh, I18, L, R) := by rw [eI18]; exact fresh_I hfI13 c86
                  have v19 : I18 83 1 = m := by rw [eI18, up2_ne (fun e => by cases e.1)]; exact v14
                  have v20 : I18 84 (m).toNatClampNeg = p := by rw [eI18, up2_ne (fun e => by cases e.1)]; exact v15
                  have v21 : I18 85 (m).toNatClampNeg = (v / 1000) := by rw [eI18, up2_ne (fun e => by cases e.1)]; exact v16
                  have v22 : I18 86 (m).toNatClampNeg = (v - v / 1000 * 1000) := by rw [eI18]; exact up2_eq
                  refine XW.fam (S' := (151, [(4, .int t), (0, .ref 83), (1, .int p), (2, .int v), (3, .int e)], [.ref 83], (sh, I18, L, R))) (M := mr_191) rfl (show mcode 191 150 = some (150, .aload_n 0, 1, 0, 0, 0, _) from rfl) (Or.inl ⟨.ref 83, rfl, rfl⟩) ?_
                  refine XW.fam (S' := (154, [(4, .int t), (0, .ref 83), (1, .int p), (2, .int v), (3, .int e)], [.ref 87], (sh, I18, L, R))) (M := mr_191) rfl (show mcode 191 151 = some (151, .getfield 21, 3, 10, 5, 0, _) from rfl) (Or.inr (Or.inr (Or.inr (Or.inr (Or.inr (Or.inr (Or.inr (Or.inl ⟨_, _, rfl, fl_ld c83 r83_5 (by decide) (by decide), rfl⟩)))))))) ?_
                  refine XW.fam (S' := (155, [(4, .int t), (0, .ref 83), (1, .int p), (2, .int v), (3, .int e)], [.ref 83, .ref 87], (sh, I18, L, R))) (M := mr_191) rfl (show mcode 191 154 = some (154, .aload_n 0, 1, 0, 0, 0, _) from rfl) (Or.inl ⟨.ref 83, rfl, rfl⟩) ?_
                  refine XW.fam (S' := (158, [(4, .int t), (0, .ref 83), (1, .int p), (2, .int v), (3, .int e)], [.int (I18 83 1), .ref 87], (sh, I18, L, R))) (M := mr_191) rfl (show mcode 191 155 = some (155, .getfield 47, 3, 10, 1, 0, _) from rfl) (Or.inr (Or.inr (Or.inr (Or.inr (Or.inr (Or.inr (Or.inr (Or.inl ⟨_, _, rfl, fl_ldI c83 (by decide) (by decide), rfl⟩)))))))) ?_
                  rw [v19]
                  refine XW.fam (S' := (159, [(4, .int t), (0, .ref 83), (1, .int p), (2, .int v), (3, .int e)], [.int e, .int m, .ref 87], (sh, I18, L, R))) (M := mr_191) rfl (show mcode 191 158 = some (158, .iload_n 3, 1, 0, 0, 0, _) from rfl) (Or.inl ⟨.int e, rfl, rfl⟩) ?_
                  have hin23 : inR m 8 = true := inR_of (by omega) (by omega)
                  obtain ⟨I24, eI24⟩ : ∃ X, X = up2 I18 87 (m).toNatClampNeg e := ⟨_, rfl⟩
                  refine XW.fam (S' := (160, [(4, .int t), (0, .ref 83), (1, .int p), (2, .int v), (3, .int e)], [], (sh, I24, L, R))) (M := mr_191) rfl (show mcode 191 159 = some (159, .iastore, 1, 0, 0, 0, _) from rfl) (Or.inr (Or.inr (Or.inr (Or.inl ⟨_, _, by rw [eI24]; exact sta_i c87 hin23, rfl⟩)))) ?_
                  have hwI24 : wOK (mkT vV []) (wE sh R) (sh, I24, L, R) := by rw [eI24]; exact wOK_u2 (q := 87) (k := (m).toNatClampNeg) (x := e) wE_put hwI18 rfl (by show (0 : Int) ≤ _; omega) (by show _ ≤ (255 : Int); omega)
                  have hfI24 : fresh (sh, I24, L, R) := by rw [eI24]; exact fresh_I hfI18 c87
                  have v25 : I24 83 1 = m := by rw [eI24, up2_ne (fun e => by cases e.1)]; exact v19
                  have v26 : I24 84 (m).toNatClampNeg = p := by rw [eI24, up2_ne (fun e => by cases e.1)]; exact v20
                  have v27 : I24 85 (m).toNatClampNeg = (v / 1000) := by rw [eI24, up2_ne (fun e => by cases e.1)]; exact v21
                  have v28 : I24 86 (m).toNatClampNeg = (v - v / 1000 * 1000) := by rw [eI24, up2_ne (fun e => by cases e.1)]; exact v22
                  have v29 : I24 87 (m).toNatClampNeg = e := by rw [eI24]; exact up2_eq
                  refine XW.fam (S' := (161, [(4, .int t), (0, .ref 83), (1, .int p), (2, .int v), (3, .int e)], [.ref 83], (sh, I24, L, R))) (M := mr_191) rfl (show mcode 191 160 = some (160, .aload_n 0, 1, 0, 0, 0, _) from rfl) (Or.inl ⟨.ref 83, rfl, rfl⟩) ?_
                  refine XW.fam (S' := (162, [(4, .int t), (0, .ref 83), (1, .int p), (2, .int v), (3, .int e)], [.ref 83, .ref 83], (sh, I24, L, R))) (M := mr_191) rfl (show mcode 191 161 = some (161, .dup, 1, 0, 0, 0, _) from rfl) (Or.inr (Or.inr (Or.inr (Or.inr (Or.inr (Or.inl ⟨_, rfl, rfl⟩)))))) ?_
                  refine XW.fam (S' := (165, [(4, .int t), (0, .ref 83), (1, .int p), (2, .int v), (3, .int e)], [.int (I24 83 1), .ref 83], (sh, I24, L, R))) (M := mr_191) rfl (show mcode 191 162 = some (162, .getfield 47, 3, 10, 1, 0, _) from rfl) (Or.inr (Or.inr (Or.inr (Or.inr (Or.inr (Or.inr (Or.inr (Or.inl ⟨_, _, rfl, fl_ldI c83 (by decide) (by decide), rfl⟩)))))))) ?_
                  rw [v25]
                  refine XW.fam (S' := (166, [(4, .int t), (0, .ref 83), (1, .int p), (2, .int v), (3, .int e)], [.int 1, .int m, .ref 83], (sh, I24, L, R))) (M := mr_191) rfl (show mcode 191 165 = some (165, .iconst 1, 1, 0, 0, 0, _) from rfl) (Or.inl ⟨.int 1, rfl, rfl⟩) ?_
                  refine XW.fam (S' := (167, [(4, .int t), (0, .ref 83), (1, .int p), (2, .int v), (3, .int e)], [.int (m + 1), .ref 83], (sh, I24, L, R))) (M := mr_191) rfl (show mcode 191 166 = some (166, .iadd, 1, 0, 0, 0, _) from rfl) (Or.inr (Or.inr (Or.inr (Or.inr (Or.inr (Or.inl ⟨_, rfl, rfl⟩)))))) ?_
                  obtain ⟨I30, eI30⟩ : ∃ X, X = up2 I24 83 1 (m + 1) := ⟨_, rfl⟩
                  refine XW.fam (S' := (170, [(4, .int t), (0, .ref 83), (1, .int p), (2, .int v), (3, .int e)], [], (sh, I30, L, R))) (M := mr_191) rfl (show mcode 191 167 = some (167, .putfield 47, 3, 10, 1, 0, _) from rfl) (Or.inr (Or.inr (Or.inr (Or.inr (Or.inr (Or.inr (Or.inr (Or.inr (Or.inl ⟨_, _, _, rfl, by rw [eI30]; exact stf_I c83 (by decide) (by decide) (by decide), rfl⟩))))))))) ?_
                  have xi := inc32 (m := m) (by omega) (by omega)
                  have hwI30 : wOK (mkT vV []) (wE sh R) (sh, I30, L, R) := by rw [eI30]; exact wOK_u2 (q := 83) (k := 1) (x := (m + 1)) wE_put hwI24 rfl (by show (0 : Int) ≤ _; omega) (by show _ ≤ (8 : Int); omega)
                  have hfI30 : fresh (sh, I30, L, R) := by rw [eI30]; exact fresh_I hfI24 c83
                  have v32 : I30 84 (m).toNatClampNeg = p := by rw [eI30, up2_ne (fun e => by cases e.1)]; exact v26
                  have v33 : I30 85 (m).toNatClampNeg = (v / 1000) := by rw [eI30, up2_ne (fun e => by cases e.1)]; exact v27
                  have v34 : I30 86 (m).toNatClampNeg = (v - v / 1000 * 1000) := by rw [eI30, up2_ne (fun e => by cases e.1)]; exact v28
                  have v35 : I30 87 (m).toNatClampNeg = e := by rw [eI30, up2_ne (fun e => by cases e.1)]; exact v29
                  have v36 : I30 83 1 = (m + 1) := by rw [eI30]; exact up2_eq
                  refine XW.fam (S' := (171, [(4, .int t), (0, .ref 83), (1, .int p), (2, .int v), (3, .int e)], [.ref 83], (sh, I30, L, R))) (M := mr_191) rfl (show mcode 191 170 = some (170, .aload_n 0, 1, 0, 0, 0, _) from rfl) (Or.inl ⟨.ref 83, rfl, rfl⟩) ?_
                  refine XW.fam (S' := (174, [(4, .int t), (0, .ref 83), (1, .int p), (2, .int v), (3, .int e)], [.int (I30 83 1)], (sh, I30, L, R))) (M := mr_191) rfl (show mcode 191 171 = some (171, .getfield 47, 3, 10, 1, 0, _) from rfl) (Or.inr (Or.inr (Or.inr (Or.inr (Or.inr (Or.inr (Or.inr (Or.inl ⟨_, _, rfl, fl_ldI c83 (by decide) (by decide), rfl⟩)))))))) ?_
                  rw [v36]
                  refine XW.ret (r := some (.int (m + 1))) ⟨⟨.int, rfl, rfl⟩, by decide +kernel⟩ ?_
                  refine ⟨?_, Or.inr ⟨?_, ?_, ?_, ?_⟩⟩
                  · skip
                    have hkp : ∀ q k, inm mdZC q k = false → I30 q k = I q k := by
                      intro q k h
                      rw [eI30, up2_ne (fun e => by rw [e.1, e.2] at h; cases h), eI24, up2_ne (fun e => by rw [e.1] at h; cases h), eI18, up2_ne (fun e => by rw [e.1] at h; cases h), eI13, up2_ne (fun e => by rw [e.1] at h; cases h), eI9, up2_ne (fun e => by rw [e.1] at h; cases h)]
                    have hrw : ∀ k, I30 84 k = I9 84 k := by
                      intro k
                      rw [eI30, up2_ne (fun e => by cases e.1), eI24, up2_ne (fun e => by cases e.1), eI18, up2_ne (fun e => by cases e.1), eI13, up2_ne (fun e => by cases e.1)]
                    refine ⟨hfI30, ⟨sh, R, hwI30⟩, Or.inr (Or.inr ⟨⟨show okZC I p v e by unfold okZC; rw [em]; omega, ht⟩, by show (I 83 1).toInt < (8 : Int); rw [em]; omega, ?_, ?_, ?_, fun k hk => ?_, hkp⟩)⟩
                    · show some (Value.int _) = some (Value.int (I 83 1 + 1))
                      rw [em]
                    · show I30 83 1 = I 83 1 + 1
                      rw [em]
                      exact v36
                    · show I30 84 (I 83 1).toNatClampNeg = _
                      rw [hrw, em, eI9, up2_eq]
                    · have hk : ¬ k = (I 83 1).toNatClampNeg := hk
                      rw [em] at hk
                      show I30 84 k = I 84 k
                      rw [hrw, eI9, up2_ne (fun e => hk e.2)]
                  · show I30 83 1 = I 83 1 + 1
                    rw [em]
                    exact v36
                  · have hrw : ∀ k, I30 85 k = I13 85 k := by
                      intro k
                      rw [eI30, up2_ne (fun e => by cases e.1), eI24, up2_ne (fun e => by cases e.1), eI18, up2_ne (fun e => by cases e.1)]
                    refine ⟨?_, fun k hk => ?_⟩
                    · show I30 85 (I 83 1).toNatClampNeg = _
                      rw [hrw, em, eI13, up2_eq]
                    · have hk : ¬ k = (I 83 1).toNatClampNeg := hk
                      rw [em] at hk
                      show I30 85 k = I 85 k
                      rw [hrw, eI13, up2_ne (fun e => hk e.2), eI9, up2_ne (fun e => by cases e.1)]
                  · have hrw : ∀ k, I30 86 k = I18 86 k := by
                      intro k
                      rw [eI30, up2_ne (fun e => by cases e.1), eI24, up2_ne (fun e => by cases e.1)]
                    refine ⟨?_, fun k hk => ?_⟩
                    · show I30 86 (I 83 1).toNatClampNeg = _
                      rw [hrw, em, eI18, up2_eq]
                    · have hk : ¬ k = (I 83 1).toNatClampNeg := hk
                      rw [em] at hk
                      show I30 86 k = I 86 k
                      rw [hrw, eI18, up2_ne (fun e => hk e.2), eI13, up2_ne (fun e => by cases e.1), eI9, up2_ne (fun e => by cases e.1)]
                  · have hrw : ∀ k, I30 87 k = I24 87 k := by
                      intro k
                      rw [eI30, up2_ne (fun e => by cases e.1)]
                    refine ⟨?_, fun k hk => ?_⟩
                    · show I30 87 (I 83 1).toNatClampNeg = _
                      rw [hrw, em, eI24, up2_eq]
                    · have hk : ¬ k = (I 83 1).toNatClampNeg := hk
                      rw [em] at hk
                      show I30 87 k = I 87 k
                      rw [hrw, eI24, up2_ne (fun e => hk e.2), eI18, up2_ne (fun e => by cases e.1), eI13, up2_ne (fun e => by cases e.1), eI9, up2_ne (fun e => by cases e.1)]
                | false =>
                  have gk7 : ¬ ((m).toInt < 8) := icF (c := .lt) (a := (m).toInt) (b := 8) rfl (by decide) k7
                  refine XW.fam (S' := (109, [(4, .int t), (0, .ref 83), (1, .int p), (2, .int v), (3, .int e)], [], (sh, I, L, R))) (M := mr_191) rfl (show mcode 191 106 = some (106, .if_icmp .lt 6, 3, 112, 0, 0, _) from rfl) (Or.inr (Or.inl ⟨109, [], by simp [brn, k7], rfl⟩)) ?_
                  refine XW.fam (S' := (111, [(4, .int t), (0, .ref 83), (1, .int p), (2, .int v), (3, .int e)], [.int (-3)], (sh, I, L, R))) (M := mr_191) rfl (show mcode 191 109 = some (109, .bipush (-3), 2, 0, 0, 0, _) from rfl) (Or.inl ⟨.int (-3), rfl, rfl⟩) ?_
                  refine XW.ret (r := some (.int (-3))) ⟨⟨.int, rfl, rfl⟩, by decide +kernel⟩ ?_
                  refine ⟨?_, Or.inl rfl⟩
                  exact ⟨hf, ⟨sh, R, hw⟩, Or.inr (Or.inl ⟨⟨show okZC I p v e by unfold okZC; rw [em]; omega, ht⟩, by show (8 : Int) ≤ (I 83 1).toInt; rw [em]; omega, rfl, rfl⟩)⟩
            | false =>
              have gk6 : ¬ ((((e >>> (m &&& 31)) &&& 1)).toInt = 0) := icF (c := .eq) (a := (((e >>> (m &&& 31)) &&& 1)).toInt) (b := 0) rfl (by decide) k6
              refine XW.fam (S' := (67, [(0, .ref 83), (1, .int p), (2, .int v), (3, .int e)], [], (sh, I, L, R))) (M := mr_191) rfl (show mcode 191 64 = some (64, .ifCond .eq 5, 3, 69, 0, 0, _) from rfl) (Or.inr (Or.inl ⟨67, [], by simp [brn, k6], rfl⟩)) ?_
              refine XW.fam (S' := (68, [(0, .ref 83), (1, .int p), (2, .int v), (3, .int e)], [.int (-1)], (sh, I, L, R))) (M := mr_191) rfl (show mcode 191 67 = some (67, .iconst (-1), 1, 0, 0, 0, _) from rfl) (Or.inl ⟨.int (-1), rfl, rfl⟩) ?_
              refine XW.ret (r := some (.int (-1))) ⟨⟨.int, rfl, rfl⟩, by decide +kernel⟩ ?_
              refine ⟨?_, Or.inl rfl⟩
              exact ⟨hf, ⟨sh, R, hw⟩, Or.inl ⟨fun q => by have q1 : okZC I p v e := q.1; unfold okZC at q1; rw [em] at q1; omega, rfl, rfl⟩⟩
    · skip
      refine XW.fam (S' := (33, [(0, .ref 83), (1, .int p), (2, .int v), (3, .int e)], [], (sh, I, L, R))) (M := mr_191) rfl (show mcode 191 19 = some (19, .ifCond .ne 14, 3, 33, 0, 0, _) from rfl) (Or.inr (Or.inl ⟨33, [], rfl, rfl⟩)) ?_
      refine XW.fam (S' := (34, [(0, .ref 83), (1, .int p), (2, .int v), (3, .int e)], [.int (-1)], (sh, I, L, R))) (M := mr_191) rfl (show mcode 191 33 = some (33, .iconst (-1), 1, 0, 0, 0, _) from rfl) (Or.inl ⟨.int (-1), rfl, rfl⟩) ?_
      refine XW.ret (r := some (.int (-1))) ⟨⟨.int, rfl, rfl⟩, by decide +kernel⟩ ?_
      refine ⟨?_, Or.inl rfl⟩
      exact ⟨hf, ⟨sh, R, hw⟩, Or.inl ⟨fun q => by have q1 : okZC I p v e := q.1; unfold okZC at q1; rw [em] at q1; omega, rfl, rfl⟩⟩
theorem tc_shutM4 {d : Nat} {sh : List mE} {R : Nat → Nat → Option Nat} {w : mW} {p v e : Int32} (hw : wOK (mkT vV []) (wE sh R) w) (hf : fresh w) : Tc 338 (d + 2) 0 0 [.ref 94, .int p, .int v, .int e] w (fun r w' => QZM p v e w r w' ∧ Rz 94 92 157 158 159 v e w w') := by
  obtain ⟨sh0, I, L, R0⟩ := w
  obtain rfl : sh = sh0 := hw.2.2.2.1.symm
  obtain rfl : R = R0 := hw.2.2.2.2.1.symm
  have c94 : sh[94]? = some (.inr 12) := hw.1 94 _ rfl
  have c96 : sh[96]? = some (.inl (.boolean, 20)) := hw.1 96 _ rfl
  have c156 : sh[156]? = some (.inl (.int, 8)) := hw.1 156 _ rfl
  have c157 : sh[157]? = some (.inl (.int, 8)) := hw.1 157 _ rfl
  have c158 : sh[158]? = some (.inl (.int, 8)) := hw.1 158 _ rfl
  have c159 : sh[159]? = some (.inl (.int, 8)) := hw.1 159 _ rfl
  have r94_4 : R 94 4 = some 96 := hw.2.1 94 4 _ rfl
  have r94_93 : R 94 93 = some 156 := hw.2.1 94 93 _ rfl
  have r94_94 : R 94 94 = some 157 := hw.2.1 94 94 _ rfl
  have r94_95 : R 94 95 = some 158 := hw.2.1 94 95 _ rfl
  have r94_96 : R 94 96 = some 159 := hw.2.1 94 96 _ rfl
  have zm3 : ((-3) : Int32).toInt = (-3) := rfl
  have zm1 : ((-1) : Int32).toInt = (-1) := rfl
  have z0 : (0 : Int32).toInt = 0 := rfl
  have z1 : (1 : Int32).toInt = 1 := rfl
  have z8 : (8 : Int32).toInt = 8 := rfl
  have z20 : (20 : Int32).toInt = 20 := rfl
  have z255 : (255 : Int32).toInt = 255 := rfl
  have z1000 : (1000 : Int32).toInt = 1000 := rfl
  have hmc : 0 ≤ (I 94 92).toInt ∧ (I 94 92).toInt ≤ 8 := hw.2.2.1 94 92
  obtain ⟨m, em⟩ : ∃ m, I 94 92 = m := ⟨_, rfl⟩
  rw [em] at hmc
  have hm : 0 ≤ (I 94 2).toInt ∧ (I 94 2).toInt ≤ 20 := hw.2.2.1 94 2
  refine Tc.of mr_338 rfl (show 4 ≤ mr_338.2.2.2.1 by decide) ?_
  refine XW.fam (S' := (1, [(0, .ref 94), (1, .int p), (2, .int v), (3, .int e)], [.ref 94], (sh, I, L, R))) (M := mr_338) rfl (show mcode 338 0 = some (0, .aload_n 0, 1, 0, 0, 0, _) from rfl) (Or.inl ⟨.ref 94, rfl, rfl⟩) ?_
  refine XW.fam (S' := (2, [(0, .ref 94), (1, .int p), (2, .int v), (3, .int e)], [.int p, .ref 94], (sh, I, L, R))) (M := mr_338) rfl (show mcode 338 1 = some (1, .iload_n 1, 1, 0, 0, 0, _) from rfl) (Or.inl ⟨.int p, rfl, rfl⟩) ?_
  refine XW.call (d' := d + 1) (mc' := 0) (ms' := 0) (av := [.ref 94, .int p]) (rest := []) (M := mr_338) (Ma := mr_240) rfl (show mcode 338 2 = some (2, .invokevirtual 269, 3, 240, 0, 0, _) from rfl) rfl (by decide) (by decide) ⟨rfl, 94, _, rfl, c94⟩ rfl rfl (show 0 ≤ 8 by decide) (tc_isPlM (d := d) hw) (by omega) (Nat.zero_le _) (Nat.zero_le _) (fun rQ1 wQ1 Q1 => ?_)
  obtain ⟨hQ1, rfl⟩ := Q1
  rcases hQ1 with ⟨rfl, gQ1⟩ | ⟨rfl, gQ1⟩
  · skip
    refine XW.fam (S' := (54, [(0, .ref 94), (1, .int p), (2, .int v), (3, .int e)], [], (sh, I, L, R))) (M := mr_338) rfl (show mcode 338 5 = some (5, .ifCond .eq 49, 3, 54, 0, 0, _) from rfl) (Or.inr (Or.inl ⟨54, [], rfl, rfl⟩)) ?_
    refine XW.fam (S' := (55, [(0, .ref 94), (1, .int p), (2, .int v), (3, .int e)], [.int (-1)], (sh, I, L, R))) (M := mr_338) rfl (show mcode 338 54 = some (54, .iconst (-1), 1, 0, 0, 0, _) from rfl) (Or.inl ⟨.int (-1), rfl, rfl⟩) ?_
    refine XW.ret (r := some (.int (-1))) ⟨⟨.int, rfl, rfl⟩, by decide +kernel⟩ ?_
    refine ⟨?_, Or.inl rfl⟩
    exact ⟨hf, ⟨sh, R, hw⟩, Or.inl ⟨fun q => by have q1 : okZM I p v e := q.1; unfold okZM at q1; rw [em] at q1; omega, rfl, rfl⟩⟩
  · skip
    refine XW.fam (S' := (8, [(0, .ref 94), (1, .int p), (2, .int v), (3, .int e)], [], (sh, I, L, R))) (M := mr_338) rfl (show mcode 338 5 = some (5, .ifCond .eq 49, 3, 54, 0, 0, _) from rfl) (Or.inr (Or.inl ⟨8, [], rfl, rfl⟩)) ?_
    refine XW.fam (S' := (9, [(0, .ref 94), (1, .int p), (2, .int v), (3, .int e)], [.ref 94], (sh, I, L, R))) (M := mr_338) rfl (show mcode 338 8 = some (8, .aload_n 0, 1, 0, 0, 0, _) from rfl) (Or.inl ⟨.ref 94, rfl, rfl⟩) ?_
    refine XW.fam (S' := (12, [(0, .ref 94), (1, .int p), (2, .int v), (3, .int e)], [.ref 96], (sh, I, L, R))) (M := mr_338) rfl (show mcode 338 9 = some (9, .getfield 13, 3, 12, 4, 0, _) from rfl) (Or.inr (Or.inr (Or.inr (Or.inr (Or.inr (Or.inr (Or.inr (Or.inl ⟨_, _, rfl, fl_ld c94 r94_4 (by decide) (by decide), rfl⟩)))))))) ?_
    refine XW.fam (S' := (13, [(0, .ref 94), (1, .int p), (2, .int v), (3, .int e)], [.int p, .ref 96], (sh, I, L, R))) (M := mr_338) rfl (show mcode 338 12 = some (12, .iload_n 1, 1, 0, 0, 0, _) from rfl) (Or.inl ⟨.int p, rfl, rfl⟩) ?_
    have hin2 : inR p 20 = true := inR_of (by omega) (by omega)
    refine XW.fam (S' := (14, [(0, .ref 94), (1, .int p), (2, .int v), (3, .int e)], [.int (I 96 (p).toNatClampNeg)], (sh, I, L, R))) (M := mr_338) rfl (show mcode 338 13 = some (13, .baload, 1, 0, 0, 0, _) from rfl) (Or.inr (Or.inr (Or.inl ⟨_, lda_z c96 hin2, rfl⟩))) ?_
    cases k3 : bcmp .ne (I 96 (p).toNatClampNeg) 0 with
    | true =>
      have gk3 : ¬ ((I 96 (p).toNatClampNeg)).toInt = 0 := icT (c := .ne) (a := ((I 96 (p).toNatClampNeg)).toInt) (b := 0) rfl (by decide) k3
      refine XW.fam (S' := (54, [(0, .ref 94), (1, .int p), (2, .int v), (3, .int e)], [], (sh, I, L, R))) (M := mr_338) rfl (show mcode 338 14 = some (14, .ifCond .ne 40, 3, 54, 0, 0, _) from rfl) (Or.inr (Or.inl ⟨54, [], by simp [brn, k3], rfl⟩)) ?_
      refine XW.fam (S' := (55, [(0, .ref 94), (1, .int p), (2, .int v), (3, .int e)], [.int (-1)], (sh, I, L, R))) (M := mr_338) rfl (show mcode 338 54 = some (54, .iconst (-1), 1, 0, 0, 0, _) from rfl) (Or.inl ⟨.int (-1), rfl, rfl⟩) ?_
      refine XW.ret (r := some (.int (-1))) ⟨⟨.int, rfl, rfl⟩, by decide +kernel⟩ ?_
      refine ⟨?_, Or.inl rfl⟩
      exact ⟨hf, ⟨sh, R, hw⟩, Or.inl ⟨fun q => by have q1 : okZM I p v e := q.1; unfold okZM at q1; rw [em] at q1; omega, rfl, rfl⟩⟩
    | false =>
      have gk3 : ¬ (¬ ((I 96 (p).toNatClampNeg)).toInt = 0) := icF (c := .ne) (a := ((I 96 (p).toNatClampNeg)).toInt) (b := 0) rfl (by decide) k3
      refine XW.fam (S' := (17, [(0, .ref 94), (1, .int p), (2, .int v), (3, .int e)], [], (sh, I, L, R))) (M := mr_338) rfl (show mcode 338 14 = some (14, .ifCond .ne 40, 3, 54, 0, 0, _) from rfl) (Or.inr (Or.inl ⟨17, [], by simp [brn, k3], rfl⟩)) ?_
      refine XW.fam (S' := (18, [(0, .ref 94), (1, .int p), (2, .int v), (3, .int e)], [.int v], (sh, I, L, R))) (M := mr_338) rfl (show mcode 338 17 = some (17, .iload_n 2, 1, 0, 0, 0, _) from rfl) (Or.inl ⟨.int v, rfl, rfl⟩) ?_
      cases k4 : bcmp .lt v 0 with
      | true =>
        have gk4 : (v).toInt < 0 := icT (c := .lt) (a := (v).toInt) (b := 0) rfl (by decide) k4
        refine XW.fam (S' := (54, [(0, .ref 94), (1, .int p), (2, .int v), (3, .int e)], [], (sh, I, L, R))) (M := mr_338) rfl (show mcode 338 18 = some (18, .ifCond .lt 36, 3, 54, 0, 0, _) from rfl) (Or.inr (Or.inl ⟨54, [], by simp [brn, k4], rfl⟩)) ?_
        refine XW.fam (S' := (55, [(0, .ref 94), (1, .int p), (2, .int v), (3, .int e)], [.int (-1)], (sh, I, L, R))) (M := mr_338) rfl (show mcode 338 54 = some (54, .iconst (-1), 1, 0, 0, 0, _) from rfl) (Or.inl ⟨.int (-1), rfl, rfl⟩) ?_
        refine XW.ret (r := some (.int (-1))) ⟨⟨.int, rfl, rfl⟩, by decide +kernel⟩ ?_
        refine ⟨?_, Or.inl rfl⟩
        exact ⟨hf, ⟨sh, R, hw⟩, Or.inl ⟨fun q => by have q1 : okZM I p v e := q.1; unfold okZM at q1; rw [em] at q1; omega, rfl, rfl⟩⟩
      | false =>
        have gk4 : ¬ ((v).toInt < 0) := icF (c := .lt) (a := (v).toInt) (b := 0) rfl (by decide) k4
        refine XW.fam (S' := (21, [(0, .ref 94), (1, .int p), (2, .int v), (3, .int e)], [], (sh, I, L, R))) (M := mr_338) rfl (show mcode 338 18 = some (18, .ifCond .lt 36, 3, 54, 0, 0, _) from rfl) (Or.inr (Or.inl ⟨21, [], by simp [brn, k4], rfl⟩)) ?_
        refine XW.fam (S' := (22, [(0, .ref 94), (1, .int p), (2, .int v), (3, .int e)], [.int v], (sh, I, L, R))) (M := mr_338) rfl (show mcode 338 21 = some (21, .iload_n 2, 1, 0, 0, 0, _) from rfl) (Or.inl ⟨.int v, rfl, rfl⟩) ?_
        refine XW.fam (S' := (25, [(0, .ref 94), (1, .int p), (2, .int v), (3, .int e)], [.int 1000, .int v], (sh, I, L, R))) (M := mr_338) rfl (show mcode 338 22 = some (22, .sipush 1000, 3, 0, 0, 0, _) from rfl) (Or.inl ⟨.int 1000, rfl, rfl⟩) ?_
        refine XW.fam (S' := (26, [(0, .ref 94), (1, .int p), (2, .int v), (3, .int e)], [.int (v / 1000)], (sh, I, L, R))) (M := mr_338) rfl (show mcode 338 25 = some (25, .idiv, 1, 0, 0, 0, _) from rfl) (Or.inr (Or.inr (Or.inr (Or.inr (Or.inr (Or.inl ⟨_, stk_bin (by simp only [ibin]; rw [if_neg (by decide)]), rfl⟩)))))) ?_
        refine XW.fam (S' := (27, [(0, .ref 94), (1, .int p), (2, .int v), (3, .int e)], [.int 1, .int (v / 1000)], (sh, I, L, R))) (M := mr_338) rfl (show mcode 338 26 = some (26, .iconst 1, 1, 0, 0, 0, _) from rfl) (Or.inl ⟨.int 1, rfl, rfl⟩) ?_
        refine XW.fam (S' := (29, [(0, .ref 94), (1, .int p), (2, .int v), (3, .int e)], [.int 20, .int 1, .int (v / 1000)], (sh, I, L, R))) (M := mr_338) rfl (show mcode 338 27 = some (27, .bipush 20, 2, 0, 0, 0, _) from rfl) (Or.inl ⟨.int 20, rfl, rfl⟩) ?_
        refine XW.call (d' := d) (mc' := 0) (ms' := 0) (av := [.int (v / 1000), .int 1, .int 20]) (rest := []) (M := mr_338) (Ma := mr_236) rfl (show mcode 338 29 = some (29, .invokestatic 254, 3, 236, 0, 0, _) from rfl) rfl (by decide) (by decide) rfl rfl rfl (show 0 ≤ 8 by decide) (tc_inM) (by omega) (Nat.zero_le _) (Nat.zero_le _) (fun rQ5 wQ5 Q5 => ?_)
        obtain ⟨hQ5, rfl⟩ := Q5
        rcases hQ5 with ⟨rfl, gQ5⟩ | ⟨rfl, gQ5⟩
        · skip
          refine XW.fam (S' := (54, [(0, .ref 94), (1, .int p), (2, .int v), (3, .int e)], [], (sh, I, L, R))) (M := mr_338) rfl (show mcode 338 32 = some (32, .ifCond .eq 22, 3, 54, 0, 0, _) from rfl) (Or.inr (Or.inl ⟨54, [], rfl, rfl⟩)) ?_
          refine XW.fam (S' := (55, [(0, .ref 94), (1, .int p), (2, .int v), (3, .int e)], [.int (-1)], (sh, I, L, R))) (M := mr_338) rfl (show mcode 338 54 = some (54, .iconst (-1), 1, 0, 0, 0, _) from rfl) (Or.inl ⟨.int (-1), rfl, rfl⟩) ?_
          refine XW.ret (r := some (.int (-1))) ⟨⟨.int, rfl, rfl⟩, by decide +kernel⟩ ?_
          refine ⟨?_, Or.inl rfl⟩
          exact ⟨hf, ⟨sh, R, hw⟩, Or.inl ⟨fun q => by have q1 : okZM I p v e := q.1; unfold okZM at q1; rw [em] at q1; omega, rfl, rfl⟩⟩
        · skip
          refine XW.fam (S' := (35, [(0, .ref 94), (1, .int p), (2, .int v), (3, .int e)], [], (sh, I, L, R))) (M := mr_338) rfl (show mcode 338 32 = some (32, .ifCond .eq 22, 3, 54, 0, 0, _) from rfl) (Or.inr (Or.inl ⟨35, [], rfl, rfl⟩)) ?_
          refine XW.fam (S' := (36, [(0, .ref 94), (1, .int p), (2, .int v), (3, .int e)], [.int v], (sh, I, L, R))) (M := mr_338) rfl (show mcode 338 35 = some (35, .iload_n 2, 1, 0, 0, 0, _) from rfl) (Or.inl ⟨.int v, rfl, rfl⟩) ?_
          refine XW.fam (S' := (39, [(0, .ref 94), (1, .int p), (2, .int v), (3, .int e)], [.int 1000, .int v], (sh, I, L, R))) (M := mr_338) rfl (show mcode 338 36 = some (36, .sipush 1000, 3, 0, 0, 0, _) from rfl) (Or.inl ⟨.int 1000, rfl, rfl⟩) ?_
          refine XW.fam (S' := (40, [(0, .ref 94), (1, .int p), (2, .int v), (3, .int e)], [.int (v - v / 1000 * 1000)], (sh, I, L, R))) (M := mr_338) rfl (show mcode 338 39 = some (39, .irem, 1, 0, 0, 0, _) from rfl) (Or.inr (Or.inr (Or.inr (Or.inr (Or.inr (Or.inl ⟨_, stk_bin (by simp only [ibin]; rw [if_neg (by decide)]), rfl⟩)))))) ?_
          cases k6 : bcmp .eq (v - v / 1000 * 1000) 0 with
          | true =>
            have gk6 : ((v - v / 1000 * 1000)).toInt = 0 := icT (c := .eq) (a := ((v - v / 1000 * 1000)).toInt) (b := 0) rfl (by decide) k6
            refine XW.fam (S' := (54, [(0, .ref 94), (1, .int p), (2, .int v), (3, .int e)], [], (sh, I, L, R))) (M := mr_338) rfl (show mcode 338 40 = some (40, .ifCond .eq 14, 3, 54, 0, 0, _) from rfl) (Or.inr (Or.inl ⟨54, [], by simp [brn, k6], rfl⟩)) ?_
            refine XW.fam (S' := (55, [(0, .ref 94), (1, .int p), (2, .int v), (3, .int e)], [.int (-1)], (sh, I, L, R))) (M := mr_338) rfl (show mcode 338 54 = some (54, .iconst (-1), 1, 0, 0, 0, _) from rfl) (Or.inl ⟨.int (-1), rfl, rfl⟩) ?_
            refine XW.ret (r := some (.int (-1))) ⟨⟨.int, rfl, rfl⟩, by decide +kernel⟩ ?_
            refine ⟨?_, Or.inl rfl⟩
            exact ⟨hf, ⟨sh, R, hw⟩, Or.inl ⟨fun q => by have q1 : okZM I p v e := q.1; unfold okZM at q1; rw [em] at q1; omega, rfl, rfl⟩⟩
          | false =>
            have gk6 : ¬ (((v - v / 1000 * 1000)).toInt = 0) := icF (c := .eq) (a := ((v - v / 1000 * 1000)).toInt) (b := 0) rfl (by decide) k6
            refine XW.fam (S' := (43, [(0, .ref 94), (1, .int p), (2, .int v), (3, .int e)], [], (sh, I, L, R))) (M := mr_338) rfl (show mcode 338 40 = some (40, .ifCond .eq 14, 3, 54, 0, 0, _) from rfl) (Or.inr (Or.inl ⟨43, [], by simp [brn, k6], rfl⟩)) ?_
            refine XW.fam (S' := (44, [(0, .ref 94), (1, .int p), (2, .int v), (3, .int e)], [.int e], (sh, I, L, R))) (M := mr_338) rfl (show mcode 338 43 = some (43, .iload_n 3, 1, 0, 0, 0, _) from rfl) (Or.inl ⟨.int e, rfl, rfl⟩) ?_
            refine XW.fam (S' := (45, [(0, .ref 94), (1, .int p), (2, .int v), (3, .int e)], [.int 0, .int e], (sh, I, L, R))) (M := mr_338) rfl (show mcode 338 44 = some (44, .iconst 0, 1, 0, 0, 0, _) from rfl) (Or.inl ⟨.int 0, rfl, rfl⟩) ?_
            refine XW.fam (S' := (48, [(0, .ref 94), (1, .int p), (2, .int v), (3, .int e)], [.int 255, .int 0, .int e], (sh, I, L, R))) (M := mr_338) rfl (show mcode 338 45 = some (45, .sipush 255, 3, 0, 0, 0, _) from rfl) (Or.inl ⟨.int 255, rfl, rfl⟩) ?_
            refine XW.call (d' := d) (mc' := 0) (ms' := 0) (av := [.int e, .int 0, .int 255]) (rest := []) (M := mr_338) (Ma := mr_236) rfl (show mcode 338 48 = some (48, .invokestatic 254, 3, 236, 0, 0, _) from rfl) rfl (by decide) (by decide) rfl rfl rfl (show 0 ≤ 8 by decide) (tc_inM) (by omega) (Nat.zero_le _) (Nat.zero_le _) (fun rQ7 wQ7 Q7 => ?_)
            obtain ⟨hQ7, rfl⟩ := Q7
            rcases hQ7 with ⟨rfl, gQ7⟩ | ⟨rfl, gQ7⟩
            · skip
              refine XW.fam (S' := (54, [(0, .ref 94), (1, .int p), (2, .int v), (3, .int e)], [], (sh, I, L, R))) (M := mr_338) rfl (show mcode 338 51 = some (51, .ifCond .ne 5, 3, 56, 0, 0, _) from rfl) (Or.inr (Or.inl ⟨54, [], rfl, rfl⟩)) ?_
              refine XW.fam (S' := (55, [(0, .ref 94), (1, .int p), (2, .int v), (3, .int e)], [.int (-1)], (sh, I, L, R))) (M := mr_338) rfl (show mcode 338 54 = some (54, .iconst (-1), 1, 0, 0, 0, _) from rfl) (Or.inl ⟨.int (-1), rfl, rfl⟩) ?_
              refine XW.ret (r := some (.int (-1))) ⟨⟨.int, rfl, rfl⟩, by decide +kernel⟩ ?_
              refine ⟨?_, Or.inl rfl⟩
              exact ⟨hf, ⟨sh, R, hw⟩, Or.inl ⟨fun q => by have q1 : okZM I p v e := q.1; unfold okZM at q1; rw [em] at q1; omega, rfl, rfl⟩⟩
            · skip
              refine XW.fam (S' := (56, [(0, .ref 94), (1, .int p), (2, .int v), (3, .int e)], [], (sh, I, L, R))) (M := mr_338) rfl (show mcode 338 51 = some (51, .ifCond .ne 5, 3, 56, 0, 0, _) from rfl) (Or.inr (Or.inl ⟨56, [], rfl, rfl⟩)) ?_
              refine XW.fam (S' := (57, [(0, .ref 94), (1, .int p), (2, .int v), (3, .int e)], [.int 0], (sh, I, L, R))) (M := mr_338) rfl (show mcode 338 56 = some (56, .iconst 0, 1, 0, 0, 0, _) from rfl) (Or.inl ⟨.int 0, rfl, rfl⟩) ?_
              refine XW.fam (S' := (59, [(4, .int 0), (0, .ref 94), (1, .int p), (2, .int v), (3, .int e)], [], (sh, I, L, R))) (M := mr_338) rfl (show mcode 338 57 = some (57, .istore 4, 2, 0, 0, 0, _) from rfl) (Or.inr (Or.inr (Or.inr (Or.inr (Or.inr (Or.inr (Or.inl ⟨_, [], _, rfl, rfl, rfl⟩))))))) ?_
              refine scan_ZM (d := d) hw (by rw [em]; omega) (fun ht t => ?_) (fun ht t => ?_) 9 0 (by decide) (by decide) (by rw [em]; omega) (fun k hk => by exfalso; have z0 : (0 : Int32).toInt = 0 := rfl; omega)
              · skip
                refine XW.fam (S' := (80, [(4, .int t), (0, .ref 94), (1, .int p), (2, .int v), (3, .int e)], [.int (-1)], (sh, I, L, R))) (M := mr_338) rfl (show mcode 338 79 = some (79, .iconst (-1), 1, 0, 0, 0, _) from rfl) (Or.inl ⟨.int (-1), rfl, rfl⟩) ?_
                refine XW.ret (r := some (.int (-1))) ⟨⟨.int, rfl, rfl⟩, by decide +kernel⟩ ?_
                refine ⟨?_, Or.inl rfl⟩
                exact ⟨hf, ⟨sh, R, hw⟩, Or.inl ⟨fun q => q.2 ht, rfl, rfl⟩⟩
              · skip
                refine XW.fam (S' := (88, [(4, .int t), (0, .ref 94), (1, .int p), (2, .int v), (3, .int e)], [.ref 94], (sh, I, L, R))) (M := mr_338) rfl (show mcode 338 87 = some (87, .aload_n 0, 1, 0, 0, 0, _) from rfl) (Or.inl ⟨.ref 94, rfl, rfl⟩) ?_
                refine XW.fam (S' := (91, [(4, .int t), (0, .ref 94), (1, .int p), (2, .int v), (3, .int e)], [.int (I 94 92)], (sh, I, L, R))) (M := mr_338) rfl (show mcode 338 88 = some (88, .getfield 570, 3, 12, 92, 0, _) from rfl) (Or.inr (Or.inr (Or.inr (Or.inr (Or.inr (Or.inr (Or.inr (Or.inl ⟨_, _, rfl, fl_ldI c94 (by decide) (by decide), rfl⟩)))))))) ?_
                rw [em]
                refine XW.fam (S' := (93, [(4, .int t), (0, .ref 94), (1, .int p), (2, .int v), (3, .int e)], [.int 8, .int m], (sh, I, L, R))) (M := mr_338) rfl (show mcode 338 91 = some (91, .bipush 8, 2, 0, 0, 0, _) from rfl) (Or.inl ⟨.int 8, rfl, rfl⟩) ?_
                cases k8 : bcmp .ge m 8 with
                | true =>
                  have gk8 : 8 ≤ (m).toInt := icT (c := .ge) (a := (m).toInt) (b := 8) rfl (by decide) k8
                  refine XW.fam (S' := (110, [(4, .int t), (0, .ref 94), (1, .int p), (2, .int v), (3, .int e)], [], (sh, I, L, R))) (M := mr_338) rfl (show mcode 338 93 = some (93, .if_icmp .ge 17, 3, 110, 0, 0, _) from rfl) (Or.inr (Or.inl ⟨110, [], by simp [brn, k8], rfl⟩)) ?_
                  refine XW.fam (S' := (111, [(4, .int t), (0, .ref 94), (1, .int p), (2, .int v), (3, .int e)], [.ref 94], (sh, I, L, R))) (M := mr_338) rfl (show mcode 338 110 = some (110, .aload_n 0, 1, 0, 0, 0, _) from rfl) (Or.inl ⟨.ref 94, rfl, rfl⟩) ?_
                  refine XW.fam (S' := (114, [(4, .int t), (0, .ref 94), (1, .int p), (2, .int v), (3, .int e)], [.int (I 94 92)], (sh, I, L, R))) (M := mr_338) rfl (show mcode 338 111 = some (111, .getfield 570, 3, 12, 92, 0, _) from rfl) (Or.inr (Or.inr (Or.inr (Or.inr (Or.inr (Or.inr (Or.inr (Or.inl ⟨_, _, rfl, fl_ldI c94 (by decide) (by decide), rfl⟩)))))))) ?_
                  rw [em]
                  refine XW.fam (S' := (116, [(4, .int t), (0, .ref 94), (1, .int p), (2, .int v), (3, .int e)], [.int 8, .int m], (sh, I, L, R))) (M := mr_338) rfl (show mcode 338 114 = some (114, .bipush 8, 2, 0, 0, 0, _) from rfl) (Or.inl ⟨.int 8, rfl, rfl⟩) ?_
                  cases k9 : bcmp .ne m 8 with
                  | true =>
                    have gk9 : ¬ (m).toInt = 8 := icT (c := .ne) (a := (m).toInt) (b := 8) rfl (by decide) k9
                    refine XW.fam (S' := (122, [(4, .int t), (0, .ref 94), (1, .int p), (2, .int v), (3, .int e)], [], (sh, I, L, R))) (M := mr_338) rfl (show mcode 338 116 = some (116, .if_icmp .ne 6, 3, 122, 0, 0, _) from rfl) (Or.inr (Or.inl ⟨122, [], by simp [brn, k9], rfl⟩)) ?_
                    refine XW.fam (S' := (123, [(4, .int t), (0, .ref 94), (1, .int p), (2, .int v), (3, .int e)], [.ref 94], (sh, I, L, R))) (M := mr_338) rfl (show mcode 338 122 = some (122, .aload_n 0, 1, 0, 0, 0, _) from rfl) (Or.inl ⟨.ref 94, rfl, rfl⟩) ?_
                    refine XW.fam (S' := (126, [(4, .int t), (0, .ref 94), (1, .int p), (2, .int v), (3, .int e)], [.ref 156], (sh, I, L, R))) (M := mr_338) rfl (show mcode 338 123 = some (123, .getfield 205, 3, 12, 93, 0, _) from rfl) (Or.inr (Or.inr (Or.inr (Or.inr (Or.inr (Or.inr (Or.inr (Or.inl ⟨_, _, rfl, fl_ld c94 r94_93 (by decide) (by decide), rfl⟩)))))))) ?_
                    refine XW.fam (S' := (127, [(4, .int t), (0, .ref 94), (1, .int p), (2, .int v), (3, .int e)], [.ref 94, .ref 156], (sh, I, L, R))) (M := mr_338) rfl (show mcode 338 126 = some (126, .aload_n 0, 1, 0, 0, 0, _) from rfl) (Or.inl ⟨.ref 94, rfl, rfl⟩) ?_
                    refine XW.fam (S' := (130, [(4, .int t), (0, .ref 94), (1, .int p), (2, .int v), (3, .int e)], [.int (I 94 92), .ref 156], (sh, I, L, R))) (M := mr_338) rfl (show mcode 338 127 = some (127, .getfield 570, 3, 12, 92, 0, _) from rfl) (Or.inr (Or.inr (Or.inr (Or.inr (Or.inr (Or.inr (Or.inr (Or.inl ⟨_, _, rfl, fl_ldI c94 (by decide) (by decide), rfl⟩)))))))) ?_
                    rw [em]
                    refine XW.fam (S' := (131, [(4, .int t), (0, .ref 94), (1, .int p), (2, .int v), (3, .int e)], [.int p, .int m, .ref 156], (sh, I, L, R))) (M := mr_338) rfl (show mcode 338 130 = some (130, .iload_n 1, 1, 0, 0, 0, _) from rfl) (Or.inl ⟨.int p, rfl, rfl⟩) ?_
                    have hin10 : inR m 8 = true := inR_of (by omega) (by omega)
                    obtain ⟨I11, eI11⟩ : ∃ X, X = up2 I 156 (m).toNatClampNeg p := ⟨_, rfl⟩
                    refine XW.fam (S' := (132, [(4, .int t), (0, .ref 94), (1, .int p), (2, .int v), (3, .int e)], [], (sh, I11, L, R))) (M := mr_338) rfl (show mcode 338 131 = some (131, .iastore, 1, 0, 0, 0, _) from rfl) (Or.inr (Or.inr (Or.inr (Or.inl ⟨_, _, by rw [eI11]; exact sta_i c156 hin10, rfl⟩)))) ?_
                    have hwI11 : wOK (mkT vV []) (wE sh R) (sh, I11, L, R) := by rw [eI11]; exact wOK_u2 (q := 156) (k := (m).toNatClampNeg) (x := p) wE_put hw rfl (by show (0 : Int) ≤ _; omega) (by show _ ≤ (19 : Int); omega)
                    have hfI11 : fresh (sh, I11, L, R) := by rw [eI11]; exact fresh_I hf c156
                    have v12 : I11 94 92 = m := by rw [eI11, up2_ne (fun e => by cases e.1)]; exact em
                    have v13 : I11 156 (m).toNatClampNeg = p := by rw [eI11]; exact up2_eq
                    refine XW.fam (S' := (133, [(4, .int t), (0, .ref 94), (1, .int p), (2, .int v), (3, .int e)], [.ref 94], (sh, I11, L, R))) (M := mr_338) rfl (show mcode 338 132 = some (132, .aload_n 0, 1, 0, 0, 0, _) from rfl) (Or.inl ⟨.ref 94, rfl, rfl⟩) ?_
                    refine XW.fam (S' := (136, [(4, .int t), (0, .ref 94), (1, .int p), (2, .int v), (3, .int e)], [.ref 157], (sh, I11, L, R))) (M := mr_338) rfl (show mcode 338 133 = some (133, .getfield 208, 3, 12, 94, 0, _) from rfl) (Or.inr (Or.inr (Or.inr (Or.inr (Or.inr (Or.inr (Or.inr (Or.inl ⟨_, _, rfl, fl_ld c94 r94_94 (by decide) (by decide), rfl⟩)))))))) ?_
                    refine XW.fam (S' := (137, [(4, .int t), (0, .ref 94), (1, .int p), (2, .int v), (3, .int e)], [.ref 94, .ref 157], (sh, I11, L, R))) (M := mr_338) rfl (show mcode 338 136 = some (136, .aload_n 0, 1, 0, 0, 0, _) from rfl) (Or.inl ⟨.ref 94, rfl, rfl⟩) ?_
                    refine XW.fam (S' := (140, [(4, .int t), (0, .ref 94), (1, .int p), (2, .int v), (3, .int e)], [.int (I11 94 92), .ref 157], (sh, I11, L, R))) (M := mr_338) rfl (show mcode 338 137 = some (137, .getfield 570, 3, 12, 92, 0, _) from rfl) (Or.inr (Or.inr (Or.inr (Or.inr (Or.inr (Or.inr (Or.inr (Or.inl ⟨_, _, rfl, fl_ldI c94 (by decide) (by decide), rfl⟩)))))))) ?_
                    rw [v12]
                    refine XW.fam (S' := (141, [(4, .int t), (0, .ref 94), (1, .int p), (2, .int v), (3, .int e)], [.int v, .int m, .ref 157], (sh, I11, L, R))) (M := mr_338) rfl (show mcode 338 140 = some (140, .iload_n 2, 1, 0, 0, 0, _) from rfl) (Or.inl ⟨.int v, rfl, rfl⟩) ?_
                    refine XW.fam (S' := (144, [(4, .int t), (0, .ref 94), (1, .int p), (2, .int v), (3, .int e)], [.int 1000, .int v, .int m, .ref 157], (sh, I11, L, R))) (M := mr_338) rfl (show mcode 338 141 = some (141, .sipush 1000, 3, 0, 0, 0, _) from rfl) (Or.inl ⟨.int 1000, rfl, rfl⟩) ?_
                    refine XW.fam (S' := (145, [(4, .int t), (0, .ref 94), (1, .int p), (2, .int v), (3, .int e)], [.int (v / 1000), .int m, .ref 157], (sh, I11, L, R))) (M := mr_338) rfl (show mcode 338 144 = some (144, .idiv, 1, 0, 0, 0, _) from rfl) (Or.inr (Or.inr (Or.inr (Or.inr (Or.inr (Or.inl ⟨_, stk_bin (by simp only [ibin]; rw [if_neg (by decide)]), rfl⟩)))))) ?_
                    have hin14 : inR m 8 = true := inR_of (by omega) (by omega)
                    obtain ⟨I15, eI15⟩ : ∃ X, X = up2 I11 157 (m).toNatClampNeg (v / 1000) := ⟨_, rfl⟩
                    refine XW.fam (S' := (146, [(4, .int t), (0, .ref 94), (1, .int p), (2, .int v), (3, .int e)], [], (sh, I15, L, R))) (M := mr_338) rfl (show mcode 338 145 = some (145, .iastore, 1, 0, 0, 0, _) from rfl) (Or.inr (Or.inr (Or.inr (Or.inl ⟨_, _, by rw [eI15]; exact sta_i c157 hin14, rfl⟩)))) ?_
                    have xd := dv1000 (x := v) (by omega)
                    have hwI15 : wOK (mkT vV []) (wE sh R) (sh, I15, L, R) := by rw [eI15]; exact wOK_u2 (q := 157) (k := (m).toNatClampNeg) (x := (v / 1000)) wE_put hwI11 rfl (by show (0 : Int) ≤ _; omega) (by show _ ≤ (2147483 : Int); omega)
                    have hfI15 : fresh (sh, I15, L, R) := by rw [eI15]; exact fresh_I hfI11 c157
                    have v16 : I15 94 92 = m := by rw [eI15, up2_ne (fun e => by cases e.1)]; exact v12
                    have v17 : I15 156 (m).toNatClampNeg = p := by rw [eI15, up2_ne (fun e => by cases e.1)]; exact v13
                    have v18 : I15 157 (m).toNatClampNeg = (v / 1000) := by rw [eI15]; exact up2_eq
                    refine XW.fam (S' := (147, [(4, .int t), (0, .ref 94), (1, .int p), (2, .int v), (3, .int e)], [.ref 94], (sh, I15, L, R))) (M := mr_338) rfl (show mcode 338 146 = some (146, .aload_n 0, 1, 0, 0, 0, _) from rfl) (Or.inl ⟨.ref 94, rfl, rfl⟩) ?_
                    refine XW.fam (S' := (150, [(4, .int t), (0, .ref 94), (1, .int p), (2, .int v), (3, .int e)], [.ref 158], (sh, I15, L, R))) (M := mr_338) rfl (show mcode 338 147 = some (147, .getfield 211, 3, 12, 95, 0, _) from rfl) (Or.inr (Or.inr (Or.inr (Or.inr (Or.inr (Or.inr (Or.inr (Or.inl ⟨_, _, rfl, fl_ld c94 r94_95 (by decide) (by decide), rfl⟩)))))))) ?_
                    refine XW.fam (S' := (151, [(4, .int t), (0, .ref 94), (1, .int p), (2, .int v), (3, .int e)], [.ref 94, .ref 158], (sh, I15, L, R))) (M := mr_338) rfl (show mcode 338 150 = some (150, .aload_n 0, 1, 0, 0, 0, _) from rfl) (Or.inl ⟨.ref 94, rfl, rfl⟩) ?_
                    refine XW.fam (S' := (154, [(4, .int t), (0, .ref 94), (1, .int p), (2, .int v), (3, .int e)], [.int (I15 94 92), .ref 158], (sh, I15, L, R))) (M := mr_338) rfl (show mcode 338 151 = some (151, .getfield 570, 3, 12, 92, 0, _) from rfl) (Or.inr (Or.inr (Or.inr (Or.inr (Or.inr (Or.inr (Or.inr (Or.inl ⟨_, _, rfl, fl_ldI c94 (by decide) (by decide), rfl⟩)))))))) ?_
                    rw [v16]
                    refine XW.fam (S' := (155, [(4, .int t), (0, .ref 94), (1, .int p), (2, .int v), (3, .int e)], [.int v, .int m, .ref 158], (sh, I15, L, R))) (M := mr_338) rfl (show mcode 338 154 = some (154, .iload_n 2, 1, 0, 0, 0, _) from rfl) (Or.inl ⟨.int v, rfl, rfl⟩) ?_
                    refine XW.fam (S' := (158, [(4, .int t), (0, .ref 94), (1, .int p), (2, .int v), (3, .int e)], [.int 1000, .int v, .int m, .ref 158], (sh, I15, L, R))) (M := mr_338) rfl (show mcode 338 155 = some (155, .sipush 1000, 3, 0, 0, 0, _) from rfl) (Or.inl ⟨.int 1000, rfl, rfl⟩) ?_
                    refine XW.fam (S' := (159, [(4, .int t), (0, .ref 94), (1, .int p), (2, .int v), (3, .int e)], [.int (v - v / 1000 * 1000), .int m, .ref 158], (sh, I15, L, R))) (M := mr_338) rfl (show mcode 338 158 = some (158, .irem, 1, 0, 0, 0, _) from rfl) (Or.inr (Or.inr (Or.inr (Or.inr (Or.inr (Or.inl ⟨_, stk_bin (by simp only [ibin]; rw [if_neg (by decide)]), rfl⟩)))))) ?_
                    have hin19 : inR m 8 = true := inR_of (by omega) (by omega)
                    obtain ⟨I20, eI20⟩ : ∃ X, X = up2 I15 158 (m).toNatClampNeg (v - v / 1000 * 1000) := ⟨_, rfl⟩
                    refine XW.fam (S' := (160, [(4, .int t), (0, .ref 94), (1, .int p), (2, .int v), (3, .int e)], [], (sh, I20, L, R))) (M := mr_338) rfl (show mcode 338 159 = some (159, .iastore, 1, 0, 0, 0, _) from rfl) (Or.inr (Or.inr (Or.inr (Or.inl ⟨_, _, by rw [eI20]; exact sta_i c158 hin19, rfl⟩)))) ?_
                    have xr := rm1000 (x := v) (by omega)
                    have hwI20 : wOK (mkT vV []) (wE sh R) (sh, I20, L, R) := by rw [eI20]; exact wOK_u2 (q := 158) (k := (m).toNatClampNeg) (x := (v - v / 1000 * 1000)) wE_put hwI15 rfl (by show (0 : Int) ≤ _; omega) (by show _ ≤ (999 : Int); omega)
                    have hfI20 : fresh (sh, I20, L, R) := by rw [eI20]; exact fresh_I hfI15 c158
                    have v21 : I20 94 92 = m := by rw [eI20, up2_ne (fun e => by cases e.1)]; exact v16
                    have v22 : I20 156 (m).toNatClampNeg = p := by rw [eI20, up2_ne (fun e => by cases e.1)]; exact v17
                    have v23 : I20 157 (m).toNatClampNeg = (v / 1000) := by rw [eI20, up2_ne (fun e => by cases e.1)]; exact v18
                    have v24 : I20 158 (m).toNatClampNeg = (v - v / 1000 * 1000) := by rw [eI20]; exact up2_eq
                    refine XW.fam (S' := (161, [(4, .int t), (0, .ref 94), (1, .int p), (2, .int v), (3, .int e)], [.ref 94], (sh, I20, L, R))) (M := mr_338) rfl (show mcode 338 160 = some (160, .aload_n 0, 1, 0, 0, 0, _) from rfl) (Or.inl ⟨.ref 94, rfl, rfl⟩) ?_
                    refine XW.fam (S' := (164, [(4, .int t), (0, .ref 94), (1, .int p), (2, .int v), (3, .int e)], [.ref 159], (sh, I20, L, R))) (M := mr_338) rfl (show mcode 338 161 = some (161, .getfield 214, 3, 12, 96, 0, _) from rfl) (Or.inr (Or.inr (Or.inr (Or.inr (Or.inr (Or.inr (Or.inr (Or.inl ⟨_, _, rfl, fl_ld c94 r94_96 (by decide) (by decide), rfl⟩)))))))) ?_
                    refine XW.fam (S' := (165, [(4, .int t), (0, .ref 94), (1, .int p), (2, .int v), (3, .int e)], [.ref 94, .ref 159], (sh, I20, L, R))) (M := mr_338) rfl (show mcode 338 164 = some (164, .aload_n 0, 1, 0, 0, 0, _) from rfl) (Or.inl ⟨.ref 94, rfl, rfl⟩) ?_
                    refine XW.fam (S' := (168, [(4, .int t), (0, .ref 94), (1, .int p), (2, .int v), (3, .int e)], [.int (I20 94 92), .ref 159], (sh, I20, L, R))) (M := mr_338) rfl (show mcode 338 165 = some (165, .getfield 570, 3, 12, 92, 0, _) from rfl) (Or.inr (Or.inr (Or.inr (Or.inr (Or.inr (Or.inr (Or.inr (Or.inl ⟨_, _, rfl, fl_ldI c94 (by decide) (by decide), rfl⟩)))))))) ?_
                    rw [v21]
                    refine XW.fam (S' := (169, [(4, .int t), (0, .ref 94), (1, .int p), (2, .int v), (3, .int e)], [.int e, .int m, .ref 159], (sh, I20, L, R))) (M := mr_338) rfl (show mcode 338 168 = some (168, .iload_n 3, 1, 0, 0, 0, _) from rfl) (Or.inl ⟨.int e, rfl, rfl⟩) ?_
                    have hin25 : inR m 8 = true := inR_of (by omega) (by omega)
                    obtain ⟨I26, eI26⟩ : ∃ X, X = up2 I20 159 (m).toNatClampNeg e := ⟨_, rfl⟩
                    refine XW.fam (S' := (170, [(4, .int t), (0, .ref 94), (1, .int p), (2, .int v), (3, .int e)], [], (sh, I26, L, R))) (M := mr_338) rfl (show mcode 338 169 = some (169, .iastore, 1, 0, 0, 0, _) from rfl) (Or.inr (Or.inr (Or.inr (Or.inl ⟨_, _, by rw [eI26]; exact sta_i c159 hin25, rfl⟩)))) ?_
                    have hwI26 : wOK (mkT vV []) (wE sh R) (sh, I26, L, R) := by rw [eI26]; exact wOK_u2 (q := 159) (k := (m).toNatClampNeg) (x := e) wE_put hwI20 rfl (by show (0 : Int) ≤ _; omega) (by show _ ≤ (255 : Int); omega)
                    have hfI26 : fresh (sh, I26, L, R) := by rw [eI26]; exact fresh_I hfI20 c159
                    have v27 : I26 94 92 = m := by rw [eI26, up2_ne (fun e => by cases e.1)]; exact v21
                    have v28 : I26 156 (m).toNatClampNeg = p := by rw [eI26, up2_ne (fun e => by cases e.1)]; exact v22
                    have v29 : I26 157 (m).toNatClampNeg = (v / 1000) := by rw [eI26, up2_ne (fun e => by cases e.1)]; exact v23
                    have v30 : I26 158 (m).toNatClampNeg = (v - v / 1000 * 1000) := by rw [eI26, up2_ne (fun e => by cases e.1)]; exact v24
                    have v31 : I26 159 (m).toNatClampNeg = e := by rw [eI26]; exact up2_eq
                    refine XW.fam (S' := (171, [(4, .int t), (0, .ref 94), (1, .int p), (2, .int v), (3, .int e)], [.ref 94], (sh, I26, L, R))) (M := mr_338) rfl (show mcode 338 170 = some (170, .aload_n 0, 1, 0, 0, 0, _) from rfl) (Or.inl ⟨.ref 94, rfl, rfl⟩) ?_
                    refine XW.fam (S' := (172, [(4, .int t), (0, .ref 94), (1, .int p), (2, .int v), (3, .int e)], [.ref 94, .ref 94], (sh, I26, L, R))) (M := mr_338) rfl (show mcode 338 171 = some (171, .dup, 1, 0, 0, 0, _) from rfl) (Or.inr (Or.inr (Or.inr (Or.inr (Or.inr (Or.inl ⟨_, rfl, rfl⟩)))))) ?_
                    refine XW.fam (S' := (175, [(4, .int t), (0, .ref 94), (1, .int p), (2, .int v), (3, .int e)], [.int (I26 94 92), .ref 94], (sh, I26, L, R))) (M := mr_338) rfl (show mcode 338 172 = some (172, .getfield 570, 3, 12, 92, 0, _) from rfl) (Or.inr (Or.inr (Or.inr (Or.inr (Or.inr (Or.inr (Or.inr (Or.inl ⟨_, _, rfl, fl_ldI c94 (by decide) (by decide), rfl⟩)))))))) ?_
                    rw [v27]
                    refine XW.fam (S' := (176, [(4, .int t), (0, .ref 94), (1, .int p), (2, .int v), (3, .int e)], [.int 1, .int m, .ref 94], (sh, I26, L, R))) (M := mr_338) rfl (show mcode 338 175 = some (175, .iconst 1, 1, 0, 0, 0, _) from rfl) (Or.inl ⟨.int 1, rfl, rfl⟩) ?_
                    refine XW.fam (S' := (177, [(4, .int t), (0, .ref 94), (1, .int p), (2, .int v), (3, .int e)], [.int (m + 1), .ref 94], (sh, I26, L, R))) (M := mr_338) rfl (show mcode 338 176 = some (176, .iadd, 1, 0, 0, 0, _) from rfl) (Or.inr (Or.inr (Or.inr (Or.inr (Or.inr (Or.inl ⟨_, rfl, rfl⟩)))))) ?_
                    obtain ⟨I32, eI32⟩ : ∃ X, X = up2 I26 94 92 (m + 1) := ⟨_, rfl⟩
                    refine XW.fam (S' := (180, [(4, .int t), (0, .ref 94), (1, .int p), (2, .int v), (3, .int e)], [], (sh, I32, L, R))) (M := mr_338) rfl (show mcode 338 177 = some (177, .putfield 570, 3, 12, 92, 0, _) from rfl) (Or.inr (Or.inr (Or.inr (Or.inr (Or.inr (Or.inr (Or.inr (Or.inr (Or.inl ⟨_, _, _, rfl, by rw [eI32]; exact stf_I c94 (by decide) (by decide) (by decide), rfl⟩))))))))) ?_
                    have xi := inc32 (m := m) (by omega) (by omega)
                    have hwI32 : wOK (mkT vV []) (wE sh R) (sh, I32, L, R) := by rw [eI32]; exact wOK_u2 (q := 94) (k := 92) (x := (m + 1)) wE_put hwI26 rfl (by show (0 : Int) ≤ _; omega) (by show _ ≤ (8 : Int); omega)
                    have hfI32 : fresh (sh, I32, L, R) := by rw [eI32]; exact fresh_I hfI26 c94
                    have v34 : I32 156 (m).toNatClampNeg = p := by rw [eI32, up2_ne (fun e => by cases e.1)]; exact v28
                    have v35 : I32 157 (m).toNatClampNeg = (v / 1000) := by rw [eI32, up2_ne (fun e => by cases e.1)]; exact v29
                    have v36 : I32 158 (m).toNatClampNeg = (v - v / 1000 * 1000) := by rw [eI32, up2_ne (fun e => by cases e.1)]; exact v30
                    have v37 : I32 159 (m).toNatClampNeg = e := by rw [eI32, up2_ne (fun e => by cases e.1)]; exact v31
                    have v38 : I32 94 92 = (m + 1) := by rw [eI32]; exact up2_eq
                    refine XW.fam (S' := (181, [(4, .int t), (0, .ref 94), (1, .int p), (2, .int v), (3, .int e)], [.ref 94], (sh, I32, L, R))) (M := mr_338) rfl (show mcode 338 180 = some (180, .aload_n 0, 1, 0, 0, 0, _) from rfl) (Or.inl ⟨.ref 94, rfl, rfl⟩) ?_
                    refine XW.fam (S' := (184, [(4, .int t), (0, .ref 94), (1, .int p), (2, .int v), (3, .int e)], [.int (I32 94 92)], (sh, I32, L, R))) (M := mr_338) rfl (show mcode 338 181 = some (181, .getfield 570, 3, 12, 92, 0, _) from rfl) (Or.inr (Or.inr (Or.inr (Or.inr (Or.inr (Or.inr (Or.inr (Or.inl ⟨_, _, rfl, fl_ldI c94 (by decide) (by decide), rfl⟩)))))))) ?_
                    rw [v38]
                    refine XW.ret (r := some (.int (m + 1))) ⟨⟨.int, rfl, rfl⟩, by decide +kernel⟩ ?_
                    refine ⟨?_, Or.inr ⟨?_, ?_, ?_, ?_⟩⟩
                    · skip
                      have hkp : ∀ q k, inm mdZM q k = false → I32 q k = I q k := by
                        intro q k h
                        rw [eI32, up2_ne (fun e => by rw [e.1, e.2] at h; cases h), eI26, up2_ne (fun e => by rw [e.1] at h; cases h), eI20, up2_ne (fun e => by rw [e.1] at h; cases h), eI15, up2_ne (fun e => by rw [e.1] at h; cases h), eI11, up2_ne (fun e => by rw [e.1] at h; cases h)]
                      have hrw : ∀ k, I32 156 k = I11 156 k := by
                        intro k
                        rw [eI32, up2_ne (fun e => by cases e.1), eI26, up2_ne (fun e => by cases e.1), eI20, up2_ne (fun e => by cases e.1), eI15, up2_ne (fun e => by cases e.1)]
                      refine ⟨hfI32, ⟨sh, R, hwI32⟩, Or.inr (Or.inr ⟨⟨show okZM I p v e by unfold okZM; rw [em]; omega, ht⟩, by show (I 94 92).toInt < (8 : Int); rw [em]; omega, ?_, ?_, ?_, fun k hk => ?_, hkp⟩)⟩
                      · show some (Value.int _) = some (Value.int (I 94 92 + 1))
                        rw [em]
                      · show I32 94 92 = I 94 92 + 1
                        rw [em]
                        exact v38
                      · show I32 156 (I 94 92).toNatClampNeg = _
                        rw [hrw, em, eI11, up2_eq]
                      · have hk : ¬ k = (I 94 92).toNatClampNeg := hk
                        rw [em] at hk
                        show I32 156 k = I 156 k
                        rw [hrw, eI11, up2_ne (fun e => hk e.2)]
                    · show I32 94 92 = I 94 92 + 1
                      rw [em]
                      exact v38
                    · have hrw : ∀ k, I32 157 k = I15 157 k := by
                        intro k
                        rw [eI32, up2_ne (fun e => by cases e.1), eI26, up2_ne (fun e => by cases e.1), eI20, up2_ne (fun e => by cases e.1)]
                      refine ⟨?_, fun k hk => ?_⟩
                      · show I32 157 (I 94 92).toNatClampNeg = _
                        rw [hrw, em, eI15, up2_eq]
                      · have hk : ¬ k = (I 94 92).toNatClampNeg := hk
                        rw [em] at hk
                        show I32 157 k = I 157 k
                        rw [hrw, eI15, up2_ne (fun e => hk e.2), eI11, up2_ne (fun e => by cases e.1)]
                    · have hrw : ∀ k, I32 158 k = I20 158 k := by
                        intro k
                        rw [eI32, up2_ne (fun e => by cases e.1), eI26, up2_ne (fun e => by cases e.1)]
                      refine ⟨?_, fun k hk => ?_⟩
                      · show I32 158 (I 94 92).toNatClampNeg = _
                        rw [hrw, em, eI20, up2_eq]
                      · have hk : ¬ k = (I 94 92).toNatClampNeg := hk
                        rw [em] at hk
                        show I32 158 k = I 158 k
                        rw [hrw, eI20, up2_ne (fun e => hk e.2), eI15, up2_ne (fun e => by cases e.1), eI11, up2_ne (fun e => by cases e.1)]
                    · have hrw : ∀ k, I32 159 k = I26 159 k := by
                        intro k
                        rw [eI32, up2_ne (fun e => by cases e.1)]
                      refine ⟨?_, fun k hk => ?_⟩
                      · show I32 159 (I 94 92).toNatClampNeg = _
                        rw [hrw, em, eI26, up2_eq]
                      · have hk : ¬ k = (I 94 92).toNatClampNeg := hk
                        rw [em] at hk
                        show I32 159 k = I 159 k
                        rw [hrw, eI26, up2_ne (fun e => hk e.2), eI20, up2_ne (fun e => by cases e.1), eI15, up2_ne (fun e => by cases e.1), eI11, up2_ne (fun e => by cases e.1)]
                  | false =>
                    have gk9 : ¬ (¬ (m).toInt = 8) := icF (c := .ne) (a := (m).toInt) (b := 8) rfl (by decide) k9
                    refine XW.fam (S' := (119, [(4, .int t), (0, .ref 94), (1, .int p), (2, .int v), (3, .int e)], [], (sh, I, L, R))) (M := mr_338) rfl (show mcode 338 116 = some (116, .if_icmp .ne 6, 3, 122, 0, 0, _) from rfl) (Or.inr (Or.inl ⟨119, [], by simp [brn, k9], rfl⟩)) ?_
                    refine XW.fam (S' := (121, [(4, .int t), (0, .ref 94), (1, .int p), (2, .int v), (3, .int e)], [.int (-3)], (sh, I, L, R))) (M := mr_338) rfl (show mcode 338 119 = some (119, .bipush (-3), 2, 0, 0, 0, _) from rfl) (Or.inl ⟨.int (-3), rfl, rfl⟩) ?_
                    refine XW.ret (r := some (.int (-3))) ⟨⟨.int, rfl, rfl⟩, by decide +kernel⟩ ?_
                    refine ⟨?_, Or.inl rfl⟩
                    exact ⟨hf, ⟨sh, R, hw⟩, Or.inr (Or.inl ⟨⟨show okZM I p v e by unfold okZM; rw [em]; omega, ht⟩, by show (8 : Int) ≤ (I 94 92).toInt; rw [em]; omega, rfl, rfl⟩)⟩
                | false =>
                  have gk8 : ¬ (8 ≤ (m).toInt) := icF (c := .ge) (a := (m).toInt) (b := 8) rfl (by decide) k8
                  refine XW.fam (S' := (96, [(4, .int t), (0, .ref 94), (1, .int p), (2, .int v), (3, .int e)], [], (sh, I, L, R))) (M := mr_338) rfl (show mcode 338 93 = some (93, .if_icmp .ge 17, 3, 110, 0, 0, _) from rfl) (Or.inr (Or.inl ⟨96, [], by simp [brn, k8], rfl⟩)) ?_
                  refine XW.fam (S' := (97, [(4, .int t), (0, .ref 94), (1, .int p), (2, .int v), (3, .int e)], [.int e], (sh, I, L, R))) (M := mr_338) rfl (show mcode 338 96 = some (96, .iload_n 3, 1, 0, 0, 0, _) from rfl) (Or.inl ⟨.int e, rfl, rfl⟩) ?_
                  refine XW.fam (S' := (98, [(4, .int t), (0, .ref 94), (1, .int p), (2, .int v), (3, .int e)], [.ref 94, .int e], (sh, I, L, R))) (M := mr_338) rfl (show mcode 338 97 = some (97, .aload_n 0, 1, 0, 0, 0, _) from rfl) (Or.inl ⟨.ref 94, rfl, rfl⟩) ?_
                  refine XW.fam (S' := (101, [(4, .int t), (0, .ref 94), (1, .int p), (2, .int v), (3, .int e)], [.int (I 94 92), .int e], (sh, I, L, R))) (M := mr_338) rfl (show mcode 338 98 = some (98, .getfield 570, 3, 12, 92, 0, _) from rfl) (Or.inr (Or.inr (Or.inr (Or.inr (Or.inr (Or.inr (Or.inr (Or.inl ⟨_, _, rfl, fl_ldI c94 (by decide) (by decide), rfl⟩)))))))) ?_
                  rw [em]
                  refine XW.fam (S' := (102, [(4, .int t), (0, .ref 94), (1, .int p), (2, .int v), (3, .int e)], [.int (e >>> (m &&& 31))], (sh, I, L, R))) (M := mr_338) rfl (show mcode 338 101 = some (101, .ishr, 1, 0, 0, 0, _) from rfl) (Or.inr (Or.inr (Or.inr (Or.inr (Or.inr (Or.inl ⟨_, rfl, rfl⟩)))))) ?_
                  refine XW.fam (S' := (103, [(4, .int t), (0, .ref 94), (1, .int p), (2, .int v), (3, .int e)], [.int 1, .int (e >>> (m &&& 31))], (sh, I, L, R))) (M := mr_338) rfl (show mcode 338 102 = some (102, .iconst 1, 1, 0, 0, 0, _) from rfl) (Or.inl ⟨.int 1, rfl, rfl⟩) ?_
                  refine XW.fam (S' := (104, [(4, .int t), (0, .ref 94), (1, .int p), (2, .int v), (3, .int e)], [.int ((e >>> (m &&& 31)) &&& 1)], (sh, I, L, R))) (M := mr_338) rfl (show mcode 338 103 = some (103, .iand, 1, 0, 0, 0, _) from rfl) (Or.inr (Or.inr (Or.inr (Or.inr (Or.inr (Or.inl ⟨_, rfl, rfl⟩)))))) ?_
                  refine XW.fam (S' := (105, [(4, .int t), (0, .ref 94), (1, .int p), (2, .int v), (3, .int e)], [.int 1, .int ((e >>> (m &&& 31)) &&& 1)], (sh, I, L, R))) (M := mr_338) rfl (show mcode 338 104 = some (104, .iconst 1, 1, 0, 0, 0, _) from rfl) (Or.inl ⟨.int 1, rfl, rfl⟩) ?_
                  cases k39 : bcmp .ne ((e >>> (m &&& 31)) &&& 1) 1 with
                  | true =>
                    have gk39 : ¬ (((e >>> (m &&& 31)) &&& 1)).toInt = 1 := icT (c := .ne) (a := (((e >>> (m &&& 31)) &&& 1)).toInt) (b := 1) rfl (by decide) k39
                    refine XW.fam (S' := (110, [(4, .int t), (0, .ref 94), (1, .int p), (2, .int v), (3, .int e)], [], (sh, I, L, R))) (M := mr_338) rfl (show mcode 338 105 = some (105, .if_icmp .ne 5, 3, 110, 0, 0, _) from rfl) (Or.inr (Or.inl ⟨110, [], by simp [brn, k39], rfl⟩)) ?_
                    refine XW.fam (S' := (111, [(4, .int t), (0, .ref 94), (1, .int p), (2, .int v), (3, .int e)], [.ref 94], (sh, I, L, R))) (M := mr_338) rfl (show mcode 338 110 = some (110, .aload_n 0, 1, 0, 0, 0, _) from rfl) (Or.inl ⟨.ref 94, rfl, rfl⟩) ?_
                    refine XW.fam (S' := (114, [(4, .int t), (0, .ref 94), (1, .int p), (2, .int v), (3, .int e)], [.int (I 94 92)], (sh, I, L, R))) (M := mr_338) rfl (show mcode 338 111 = some (111, .getfield 570, 3, 12, 92, 0, _) from rfl) (Or.inr (Or.inr (Or.inr (Or.inr (Or.inr (Or.inr (Or.inr (Or.inl ⟨_, _, rfl, fl_ldI c94 (by decide) (by decide), rfl⟩)))))))) ?_
                    rw [em]
                    refine XW.fam (S' := (116, [(4, .int t), (0, .ref 94), (1, .int p), (2, .int v), (3, .int e)], [.int 8, .int m], (sh, I, L, R))) (M := mr_338) rfl (show mcode 338 114 = some (114, .bipush 8, 2, 0, 0, 0, _) from rfl) (Or.inl ⟨.int 8, rfl, rfl⟩) ?_
                    cases k40 : bcmp .ne m 8 with
                    | true =>
                      have gk40 : ¬ (m).toInt = 8 := icT (c := .ne) (a := (m).toInt) (b := 8) rfl (by decide) k40
                      refine XW.fam (S' := (122, [(4, .int t), (0, .ref 94), (1, .int p), (2, .int v), (3, .int e)], [], (sh, I, L, R))) (M := mr_338) rfl (show mcode 338 116 = some (116, .if_icmp .ne 6, 3, 122, 0, 0, _) from rfl) (Or.inr (Or.inl ⟨122, [], by simp [brn, k40], rfl⟩)) ?_
                      refine XW.fam (S' := (123, [(4, .int t), (0, .ref 94), (1, .int p), (2, .int v), (3, .int e)], [.ref 94], (sh, I, L, R))) (M := mr_338) rfl (show mcode 338 122 = some (122, .aload_n 0, 1, 0, 0, 0, _) from rfl) (Or.inl ⟨.ref 94, rfl, rfl⟩) ?_
                      refine XW.fam (S' := (126, [(4, .int t), (0, .ref 94), (1, .int p), (2, .int v), (3, .int e)], [.ref 156], (sh, I, L, R))) (M := mr_338) rfl (show mcode 338 123 = some (123, .getfield 205, 3, 12, 93, 0, _) from rfl) (Or.inr (Or.inr (Or.inr (Or.inr (Or.inr (Or.inr (Or.inr (Or.inl ⟨_, _, rfl, fl_ld c94 r94_93 (by decide) (by decide), rfl⟩)))))))) ?_
                      refine XW.fam (S' := (127, [(4, .int t), (0, .ref 94), (1, .int p), (2, .int v), (3, .int e)], [.ref 94, .ref 156], (sh, I, L, R))) (M := mr_338) rfl (show mcode 338 126 = some (126, .aload_n 0, 1, 0, 0, 0, _) from rfl) (Or.inl ⟨.ref 94, rfl, rfl⟩) ?_
                      refine XW.fam (S' := (130, [(4, .int t), (0, .ref 94), (1, .int p), (2, .int v), (3, .int e)], [.int (I 94 92), .ref 156], (sh, I, L, R))) (M := mr_338) rfl (show mcode 338 127 = some (127, .getfield 570, 3, 12, 92, 0, _) from rfl) (Or.inr (Or.inr (Or.inr (Or.inr (Or.inr (Or.inr (Or.inr (Or.inl ⟨_, _, rfl, fl_ldI c94 (by decide) (by decide), rfl⟩)))))))) ?_
                      rw [em]
                      refine XW.fam (S' := (131, [(4, .int t), (0, .ref 94), (1, .int p), (2, .int v), (3, .int e)], [.int p, .int m, .ref 156], (sh, I, L, R))) (M := mr_338) rfl (show mcode 338 130 = some (130, .iload_n 1, 1, 0, 0, 0, _) from rfl) (Or.inl ⟨.int p, rfl, rfl⟩) ?_
                      have hin41 : inR m 8 = true := inR_of (by omega) (by omega)
                      obtain ⟨I42, eI42⟩ : ∃ X, X = up2 I 156 (m).toNatClampNeg p := ⟨_, rfl⟩
                      refine XW.fam (S' := (132, [(4, .int t), (0, .ref 94), (1, .int p), (2, .int v), (3, .int e)], [], (sh, I42, L, R))) (M := mr_338) rfl (show mcode 338 131 = some (131, .iastore, 1, 0, 0, 0, _) from rfl) (Or.inr (Or.inr (Or.inr (Or.inl ⟨_, _, by rw [eI42]; exact sta_i c156 hin41, rfl⟩)))) ?_
                      have hwI42 : wOK (mkT vV []) (wE sh R) (sh, I42, L, R) := by rw [eI42]; exact wOK_u2 (q := 156) (k := (m).toNatClampNeg) (x := p) wE_put hw rfl (by show (0 : Int) ≤ _; omega) (by show _ ≤ (19 : Int); omega)
                      have hfI42 : fresh (sh, I42, L, R) := by rw [eI42]; exact fresh_I hf c156
                      have v43 : I42 94 92 = m := by rw [eI42, up2_ne (fun e => by cases e.1)]; exact em
                      have v44 : I42 156 (m).toNatClampNeg = p := by rw [eI42]; exact up2_eq
                      refine XW.fam (S' := (133, [(4, .int t), (0, .ref 94), (1, .int p), (2, .int v), (3, .int e)], [.ref 94], (sh, I42, L, R))) (M := mr_338) rfl (show mcode 338 132 = some (132, .aload_n 0, 1, 0, 0, 0, _) from rfl) (Or.inl ⟨.ref 94, rfl, rfl⟩) ?_
                      refine XW.fam (S' := (136, [(4, .int t), (0, .ref 94), (1, .int p), (2, .int v), (3, .int e)], [.ref 157], (sh, I42, L, R))) (M := mr_338) rfl (show mcode 338 133 = some (133, .getfield 208, 3, 12, 94, 0, _) from rfl) (Or.inr (Or.inr (Or.inr (Or.inr (Or.inr (Or.inr (Or.inr (Or.inl ⟨_, _, rfl, fl_ld c94 r94_94 (by decide) (by decide), rfl⟩)))))))) ?_
                      refine XW.fam (S' := (137, [(4, .int t), (0, .ref 94), (1, .int p), (2, .int v), (3, .int e)], [.ref 94, .ref 157], (sh, I42, L, R))) (M := mr_338) rfl (show mcode 338 136 = some (136, .aload_n 0, 1, 0, 0, 0, _) from rfl) (Or.inl ⟨.ref 94, rfl, rfl⟩) ?_
                      refine XW.fam (S' := (140, [(4, .int t), (0, .ref 94), (1, .int p), (2, .int v), (3, .int e)], [.int (I42 94 92), .ref 157], (sh, I42, L, R))) (M := mr_338) rfl (show mcode 338 137 = some (137, .getfield 570, 3, 12, 92, 0, _) from rfl) (Or.inr (Or.inr (Or.inr (Or.inr (Or.inr (Or.inr (Or.inr (Or.inl ⟨_, _, rfl, fl_ldI c94 (by decide) (by decide), rfl⟩)))))))) ?_
                      rw [v43]
                      refine XW.fam (S' := (141, [(4, .int t), (0, .ref 94), (1, .int p), (2, .int v), (3, .int e)], [.int v, .int m, .ref 157], (sh, I42, L, R))) (M := mr_338) rfl (show mcode 338 140 = some (140, .iload_n 2, 1, 0, 0, 0, _) from rfl) (Or.inl ⟨.int v, rfl, rfl⟩) ?_
                      refine XW.fam (S' := (144, [(4, .int t), (0, .ref 94), (1, .int p), (2, .int v), (3, .int e)], [.int 1000, .int v, .int m, .ref 157], (sh, I42, L, R))) (M := mr_338) rfl (show mcode 338 141 = some (141, .sipush 1000, 3, 0, 0, 0, _) from rfl) (Or.inl ⟨.int 1000, rfl, rfl⟩) ?_
                      refine XW.fam (S' := (145, [(4, .int t), (0, .ref 94), (1, .int p), (2, .int v), (3, .int e)], [.int (v / 1000), .int m, .ref 157], (sh, I42, L, R))) (M := mr_338) rfl (show mcode 338 144 = some (144, .idiv, 1, 0, 0, 0, _) from rfl) (Or.inr (Or.inr (Or.inr (Or.inr (Or.inr (Or.inl ⟨_, stk_bin (by simp only [ibin]; rw [if_neg (by decide)]), rfl⟩)))))) ?_
                      have hin45 : inR m 8 = true := inR_of (by omega) (by omega)
                      obtain ⟨I46, eI46⟩ : ∃ X, X = up2 I42 157 (m).toNatClampNeg (v / 1000) := ⟨_, rfl⟩
                      refine XW.fam (S' := (146, [(4, .int t), (0, .ref 94), (1, .int p), (2, .int v), (3, .int e)], [], (sh, I46, L, R))) (M := mr_338) rfl (show mcode 338 145 = some (145, .iastore, 1, 0, 0, 0, _) from rfl) (Or.inr (Or.inr (Or.inr (Or.inl ⟨_, _, by rw [eI46]; exact sta_i c157 hin45, rfl⟩)))) ?_
                      have xd := dv1000 (x := v) (by omega)
                      have hwI46 : wOK (mkT vV []) (wE sh R) (sh, I46, L, R) := by rw [eI46]; exact wOK_u2 (q := 157) (k := (m).toNatClampNeg) (x := (v / 1000)) wE_put hwI42 rfl (by show (0 : Int) ≤ _; omega) (by show _ ≤ (2147483 : Int); omega)
                      have hfI46 : fresh (sh, I46, L, R) := by rw [eI46]; exact fresh_I hfI42 c157
                      have v47 : I46 94 92 = m := by rw [eI46, up2_ne (fun e => by cases e.1)]; exact v43
                      have v48 : I46 156 (m).toNatClampNeg = p := by rw [eI46, up2_ne (fun e => by cases e.1)]; exact v44
                      have v49 : I46 157 (m).toNatClampNeg = (v / 1000) := by rw [eI46]; exact up2_eq
                      refine XW.fam (S' := (147, [(4, .int t), (0, .ref 94), (1, .int p), (2, .int v), (3, .int e)], [.ref 94], (sh, I46, L, R))) (M := mr_338) rfl (show mcode 338 146 = some (146, .aload_n 0, 1, 0, 0, 0, _) from rfl) (Or.inl ⟨.ref 94, rfl, rfl⟩) ?_
                      refine XW.fam (S' := (150, [(4, .int t), (0, .ref 94), (1, .int p), (2, .int v), (3, .int e)], [.ref 158], (sh, I46, L, R))) (M := mr_338) rfl (show mcode 338 147 = some (147, .getfield 211, 3, 12, 95, 0, _) from rfl) (Or.inr (Or.inr (Or.inr (Or.inr (Or.inr (Or.inr (Or.inr (Or.inl ⟨_, _, rfl, fl_ld c94 r94_95 (by decide) (by decide), rfl⟩)))))))) ?_
                      refine XW.fam (S' := (151, [(4, .int t), (0, .ref 94), (1, .int p), (2, .int v), (3, .int e)], [.ref 94, .ref 158], (sh, I46, L, R))) (M := mr_338) rfl (show mcode 338 150 = some (150, .aload_n 0, 1, 0, 0, 0, _) from rfl) (Or.inl ⟨.ref 94, rfl, rfl⟩) ?_
                      refine XW.fam (S' := (154, [(4, .int t), (0, .ref 94), (1, .int p), (2, .int v), (3, .int e)], [.int (I46 94 92), .ref 158], (sh, I46, L, R))) (M := mr_338) rfl (show mcode 338 151 = some (151, .getfield 570, 3, 12, 92, 0, _) from rfl) (Or.inr (Or.inr (Or.inr (Or.inr (Or.inr (Or.inr (Or.inr (Or.inl ⟨_, _, rfl, fl_ldI c94 (by decide) (by decide), rfl⟩)))))))) ?_
                      rw [v47]
                      refine XW.fam (S' := (155, [(4, .int t), (0, .ref 94), (1, .int p), (2, .int v), (3, .int e)], [.int v, .int m, .ref 158], (sh, I46, L, R))) (M := mr_338) rfl (show mcode 338 154 = some (154, .iload_n 2, 1, 0, 0, 0, _) from rfl) (Or.inl ⟨.int v, rfl, rfl⟩) ?_
                      refine XW.fam (S' := (158, [(4, .int t), (0, .ref 94), (1, .int p), (2, .int v), (3, .int e)], [.int 1000, .int v, .int m, .ref 158], (sh, I46, L, R))) (M := mr_338) rfl (show mcode 338 155 = some (155, .sipush 1000, 3, 0, 0, 0, _) from rfl) (Or.inl ⟨.int 1000, rfl, rfl⟩) ?_
                      refine XW.fam (S' := (159, [(4, .int t), (0, .ref 94), (1, .int p), (2, .int v), (3, .int e)], [.int (v - v / 1000 * 1000), .int m, .ref 158], (sh, I46, L, R))) (M := mr_338) rfl (show mcode 338 158 = some (158, .irem, 1, 0, 0, 0, _) from rfl) (Or.inr (Or.inr (Or.inr (Or.inr (Or.inr (Or.inl ⟨_, stk_bin (by simp only [ibin]; rw [if_neg (by decide)]), rfl⟩)))))) ?_
                      have hin50 : inR m 8 = true := inR_of (by omega) (by omega)
                      obtain ⟨I51, eI51⟩ : ∃ X, X = up2 I46 158 (m).toNatClampNeg (v - v / 1000 * 1000) := ⟨_, rfl⟩
                      refine XW.fam (S' := (160, [(4, .int t), (0, .ref 94), (1, .int p), (2, .int v), (3, .int e)], [], (sh, I51, L, R))) (M := mr_338) rfl (show mcode 338 159 = some (159, .iastore, 1, 0, 0, 0, _) from rfl) (Or.inr (Or.inr (Or.inr (Or.inl ⟨_, _, by rw [eI51]; exact sta_i c158 hin50, rfl⟩)))) ?_
                      have xr := rm1000 (x := v) (by omega)
                      have hwI51 : wOK (mkT vV []) (wE sh R) (sh, I51, L, R) := by rw [eI51]; exact wOK_u2 (q := 158) (k := (m).toNatClampNeg) (x := (v - v / 1000 * 1000)) wE_put hwI46 rfl (by show (0 : Int) ≤ _; omega) (by show _ ≤ (999 : Int); omega)
                      have hfI51 : fresh (sh, I51, L, R) := by rw [eI51]; exact fresh_I hfI46 c158
                      have v52 : I51 94 92 = m := by rw [eI51, up2_ne (fun e => by cases e.1)]; exact v47
                      have v53 : I51 156 (m).toNatClampNeg = p := by rw [eI51, up2_ne (fun e => by cases e.1)]; exact v48
                      have v54 : I51 157 (m).toNatClampNeg = (v / 1000) := by rw [eI51, up2_ne (fun e => by cases e.1)]; exact v49
                      have v55 : I51 158 (m).toNatClampNeg = (v - v / 1000 * 1000) := by rw [eI51]; exact up2_eq
                      refine XW.fam (S' := (161, [(4, .int t), (0, .ref 94), (1, .int p), (2, .int v), (3, .int e)], [.ref 94], (sh, I51, L, R))) (M := mr_338) rfl (show mcode 338 160 = some (160, .aload_n 0, 1, 0, 0, 0, _) from rfl) (Or.inl ⟨.ref 94, rfl, rfl⟩) ?_
                      refine XW.fam (S' := (164, [(4, .int t), (0, .ref 94), (1, .int p), (2, .int v), (3, .int e)], [.ref 159], (sh, I51, L, R))) (M := mr_338) rfl (show mcode 338 161 = some (161, .getfield 214, 3, 12, 96, 0, _) from rfl) (Or.inr (Or.inr (Or.inr (Or.inr (Or.inr (Or.inr (Or.inr (Or.inl ⟨_, _, rfl, fl_ld c94 r94_96 (by decide) (by decide), rfl⟩)))))))) ?_
                      refine XW.fam (S' := (165, [(4, .int t), (0, .ref 94), (1, .int p), (2, .int v), (3, .int e)], [.ref 94, .ref 159], (sh, I51, L, R))) (M := mr_338) rfl (show mcode 338 164 = some (164, .aload_n 0, 1, 0, 0, 0, _) from rfl) (Or.inl ⟨.ref 94, rfl, rfl⟩) ?_
                      refine XW.fam (S' := (168, [(4, .int t), (0, .ref 94), (1, .int p), (2, .int v), (3, .int e)], [.int (I51 94 92), .ref 159], (sh, I51, L, R))) (M := mr_338) rfl (show mcode 338 165 = some (165, .getfield 570, 3, 12, 92, 0, _) from rfl) (Or.inr (Or.inr (Or.inr (Or.inr (Or.inr (Or.inr (Or.inr (Or.inl ⟨_, _, rfl, fl_ldI c94 (by decide) (by decide), rfl⟩)))))))) ?_
                      rw [v52]
                      refine XW.fam (S' := (169, [(4, .int t), (0, .ref 94), (1, .int p), (2, .int v), (3, .int e)], [.int e, .int m, .ref 159], (sh, I51, L, R))) (M := mr_338) rfl (show mcode 338 168 = some (168, .iload_n 3, 1, 0, 0, 0, _) from rfl) (Or.inl ⟨.int e, rfl, rfl⟩) ?_
                      have hin56 : inR m 8 = true := inR_of (by omega) (by omega)
                      obtain ⟨I57, eI57⟩ : ∃ X, X = up2 I51 159 (m).toNatClampNeg e := ⟨_, rfl⟩
                      refine XW.fam (S' := (170, [(4, .int t), (0, .ref 94), (1, .int p), (2, .int v), (3, .int e)], [], (sh, I57, L, R))) (M := mr_338) rfl (show mcode 338 169 = some (169, .iastore, 1, 0, 0, 0, _) from rfl) (Or.inr (Or.inr (Or.inr (Or.inl ⟨_, _, by rw [eI57]; exact sta_i c159 hin56, rfl⟩)))) ?_
                      have hwI57 : wOK (mkT vV []) (wE sh R) (sh, I57, L, R) := by rw [eI57]; exact wOK_u2 (q := 159) (k := (m).toNatClampNeg) (x := e) wE_put hwI51 rfl (by show (0 : Int) ≤ _; omega) (by show _ ≤ (255 : Int); omega)
                      have hfI57 : fresh (sh, I57, L, R) := by rw [eI57]; exact fresh_I hfI51 c159
                      have v58 : I57 94 92 = m := by rw [eI57, up2_ne (fun e => by cases e.1)]; exact v52
                      have v59 : I57 156 (m).toNatClampNeg = p := by rw [eI57, up2_ne (fun e => by cases e.1)]; exact v53
                      have v60 : I57 157 (m).toNatClampNeg = (v / 1000) := by rw [eI57, up2_ne (fun e => by cases e.1)]; exact v54
                      have v61 : I57 158 (m).toNatClampNeg = (v - v / 1000 * 1000) := by rw [eI57, up2_ne (fun e => by cases e.1)]; exact v55
                      have v62 : I57 159 (m).toNatClampNeg = e := by rw [eI57]; exact up2_eq
                      refine XW.fam (S' := (171, [(4, .int t), (0, .ref 94), (1, .int p), (2, .int v), (3, .int e)], [.ref 94], (sh, I57, L, R))) (M := mr_338) rfl (show mcode 338 170 = some (170, .aload_n 0, 1, 0, 0, 0, _) from rfl) (Or.inl ⟨.ref 94, rfl, rfl⟩) ?_
                      refine XW.fam (S' := (172, [(4, .int t), (0, .ref 94), (1, .int p), (2, .int v), (3, .int e)], [.ref 94, .ref 94], (sh, I57, L, R))) (M := mr_338) rfl (show mcode 338 171 = some (171, .dup, 1, 0, 0, 0, _) from rfl) (Or.inr (Or.inr (Or.inr (Or.inr (Or.inr (Or.inl ⟨_, rfl, rfl⟩)))))) ?_
                      refine XW.fam (S' := (175, [(4, .int t), (0, .ref 94), (1, .int p), (2, .int v), (3, .int e)], [.int (I57 94 92), .ref 94], (sh, I57, L, R))) (M := mr_338) rfl (show mcode 338 172 = some (172, .getfield 570, 3, 12, 92, 0, _) from rfl) (Or.inr (Or.inr (Or.inr (Or.inr (Or.inr (Or.inr (Or.inr (Or.inl ⟨_, _, rfl, fl_ldI c94 (by decide) (by decide), rfl⟩)))))))) ?_
                      rw [v58]
                      refine XW.fam (S' := (176, [(4, .int t), (0, .ref 94), (1, .int p), (2, .int v), (3, .int e)], [.int 1, .int m, .ref 94], (sh, I57, L, R))) (M := mr_338) rfl (show mcode 338 175 = some (175, .iconst 1, 1, 0, 0, 0, _) from rfl) (Or.inl ⟨.int 1, rfl, rfl⟩) ?_
                      refine XW.fam (S' := (177, [(4, .int t), (0, .ref 94), (1, .int p), (2, .int v), (3, .int e)], [.int (m + 1), .ref 94], (sh, I57, L, R))) (M := mr_338) rfl (show mcode 338 176 = some (176, .iadd, 1, 0, 0, 0, _) from rfl) (Or.inr (Or.inr (Or.inr (Or.inr (Or.inr (Or.inl ⟨_, rfl, rfl⟩)))))) ?_
                      obtain ⟨I63, eI63⟩ : ∃ X, X = up2 I57 94 92 (m + 1) := ⟨_, rfl⟩
                      refine XW.fam (S' := (180, [(4, .int t), (0, .ref 94), (1, .int p), (2, .int v), (3, .int e)], [], (sh, I63, L, R))) (M := mr_338) rfl (show mcode 338 177 = some (177, .putfield 570, 3, 12, 92, 0, _) from rfl) (Or.inr (Or.inr (Or.inr (Or.inr (Or.inr (Or.inr (Or.inr (Or.inr (Or.inl ⟨_, _, _, rfl, by rw [eI63]; exact stf_I c94 (by decide) (by decide) (by decide), rfl⟩))))))))) ?_
                      have xi := inc32 (m := m) (by omega) (by omega)
                      have hwI63 : wOK (mkT vV []) (wE sh R) (sh, I63, L, R) := by rw [eI63]; exact wOK_u2 (q := 94) (k := 92) (x := (m + 1)) wE_put hwI57 rfl (by show (0 : Int) ≤ _; omega) (by show _ ≤ (8 : Int); omega)
                      have hfI63 : fresh (sh, I63, L, R) := by rw [eI63]; exact fresh_I hfI57 c94
                      have v65 : I63 156 (m).toNatClampNeg = p := by rw [eI63, up2_ne (fun e => by cases e.1)]; exact v59
                      have v66 : I63 157 (m).toNatClampNeg = (v / 1000) := by rw [eI63, up2_ne (fun e => by cases e.1)]; exact v60
                      have v67 : I63 158 (m).toNatClampNeg = (v - v / 1000 * 1000) := by rw [eI63, up2_ne (fun e => by cases e.1)]; exact v61
                      have v68 : I63 159 (m).toNatClampNeg = e := by rw [eI63, up2_ne (fun e => by cases e.1)]; exact v62
                      have v69 : I63 94 92 = (m + 1) := by rw [eI63]; exact up2_eq
                      refine XW.fam (S' := (181, [(4, .int t), (0, .ref 94), (1, .int p), (2, .int v), (3, .int e)], [.ref 94], (sh, I63, L, R))) (M := mr_338) rfl (show mcode 338 180 = some (180, .aload_n 0, 1, 0, 0, 0, _) from rfl) (Or.inl ⟨.ref 94, rfl, rfl⟩) ?_
                      refine XW.fam (S' := (184, [(4, .int t), (0, .ref 94), (1, .int p), (2, .int v), (3, .int e)], [.int (I63 94 92)], (sh, I63, L, R))) (M := mr_338) rfl (show mcode 338 181 = some (181, .getfield 570, 3, 12, 92, 0, _) from rfl) (Or.inr (Or.inr (Or.inr (Or.inr (Or.inr (Or.inr (Or.inr (Or.inl ⟨_, _, rfl, fl_ldI c94 (by decide) (by decide), rfl⟩)))))))) ?_
                      rw [v69]
                      refine XW.ret (r := some (.int (m + 1))) ⟨⟨.int, rfl, rfl⟩, by decide +kernel⟩ ?_
                      refine ⟨?_, Or.inr ⟨?_, ?_, ?_, ?_⟩⟩
                      · skip
                        have hkp : ∀ q k, inm mdZM q k = false → I63 q k = I q k := by
                          intro q k h
                          rw [eI63, up2_ne (fun e => by rw [e.1, e.2] at h; cases h), eI57, up2_ne (fun e => by rw [e.1] at h; cases h), eI51, up2_ne (fun e => by rw [e.1] at h; cases h), eI46, up2_ne (fun e => by rw [e.1] at h; cases h), eI42, up2_ne (fun e => by rw [e.1] at h; cases h)]
                        have hrw : ∀ k, I63 156 k = I42 156 k := by
                          intro k
                          rw [eI63, up2_ne (fun e => by cases e.1), eI57, up2_ne (fun e => by cases e.1), eI51, up2_ne (fun e => by cases e.1), eI46, up2_ne (fun e => by cases e.1)]
                        refine ⟨hfI63, ⟨sh, R, hwI63⟩, Or.inr (Or.inr ⟨⟨show okZM I p v e by unfold okZM; rw [em]; omega, ht⟩, by show (I 94 92).toInt < (8 : Int); rw [em]; omega, ?_, ?_, ?_, fun k hk => ?_, hkp⟩)⟩
                        · show some (Value.int _) = some (Value.int (I 94 92 + 1))
                          rw [em]
                        · show I63 94 92 = I 94 92 + 1
                          rw [em]
                          exact v69
                        · show I63 156 (I 94 92).toNatClampNeg = _
                          rw [hrw, em, eI42, up2_eq]
                        · have hk : ¬ k = (I 94 92).toNatClampNeg := hk
                          rw [em] at hk
                          show I63 156 k = I 156 k
                          rw [hrw, eI42, up2_ne (fun e => hk e.2)]
                      · show I63 94 92 = I 94 92 + 1
                        rw [em]
                        exact v69
                      · have hrw : ∀ k, I63 157 k = I46 157 k := by
                          intro k
                          rw [eI63, up2_ne (fun e => by cases e.1), eI57, up2_ne (fun e => by cases e.1), eI51, up2_ne (fun e => by cases e.1)]
                        refine ⟨?_, fun k hk => ?_⟩
                        · show I63 157 (I 94 92).toNatClampNeg = _
                          rw [hrw, em, eI46, up2_eq]
                        · have hk : ¬ k = (I 94 92).toNatClampNeg := hk
                          rw [em] at hk
                          show I63 157 k = I 157 k
                          rw [hrw, eI46, up2_ne (fun e => hk e.2), eI42, up2_ne (fun e => by cases e.1)]
                      · have hrw : ∀ k, I63 158 k = I51 158 k := by
                          intro k
                          rw [eI63, up2_ne (fun e => by cases e.1), eI57, up2_ne (fun e => by cases e.1)]
                        refine ⟨?_, fun k hk => ?_⟩
                        · show I63 158 (I 94 92).toNatClampNeg = _
                          rw [hrw, em, eI51, up2_eq]
                        · have hk : ¬ k = (I 94 92).toNatClampNeg := hk
                          rw [em] at hk
                          show I63 158 k = I 158 k
                          rw [hrw, eI51, up2_ne (fun e => hk e.2), eI46, up2_ne (fun e => by cases e.1), eI42, up2_ne (fun e => by cases e.1)]
                      · have hrw : ∀ k, I63 159 k = I57 159 k := by
                          intro k
                          rw [eI63, up2_ne (fun e => by cases e.1)]
                        refine ⟨?_, fun k hk => ?_⟩
                        · show I63 159 (I 94 92).toNatClampNeg = _
                          rw [hrw, em, eI57, up2_eq]
                        · have hk : ¬ k = (I 94 92).toNatClampNeg := hk
                          rw [em] at hk
                          show I63 159 k = I 159 k
                          rw [hrw, eI57, up2_ne (fun e => hk e.2), eI51, up2_ne (fun e => by cases e.1), eI46, up2_ne (fun e => by cases e.1), eI42, up2_ne (fun e => by cases e.1)]
                    | false =>
                      have gk40 : ¬ (¬ (m).toInt = 8) := icF (c := .ne) (a := (m).toInt) (b := 8) rfl (by decide) k40
                      refine XW.fam (S' := (119, [(4, .int t), (0, .ref 94), (1, .int p), (2, .int v), (3, .int e)], [], (sh, I, L, R))) (M := mr_338) rfl (show mcode 338 116 = some (116, .if_icmp .ne 6, 3, 122, 0, 0, _) from rfl) (Or.inr (Or.inl ⟨119, [], by simp [brn, k40], rfl⟩)) ?_
                      refine XW.fam (S' := (121, [(4, .int t), (0, .ref 94), (1, .int p), (2, .int v), (3, .int e)], [.int (-3)], (sh, I, L, R))) (M := mr_338) rfl (show mcode 338 119 = some (119, .bipush (-3), 2, 0, 0, 0, _) from rfl) (Or.inl ⟨.int (-3), rfl, rfl⟩) ?_
                      refine XW.ret (r := some (.int (-3))) ⟨⟨.int, rfl, rfl⟩, by decide +kernel⟩ ?_
                      refine ⟨?_, Or.inl rfl⟩
                      exact ⟨hf, ⟨sh, R, hw⟩, Or.inr (Or.inl ⟨⟨show okZM I p v e by unfold okZM; rw [em]; omega, ht⟩, by show (8 : Int) ≤ (I 94 92).toInt; rw [em]; omega, rfl, rfl⟩)⟩
                  | false =>
                    have gk39 : ¬ (¬ (((e >>> (m &&& 31)) &&& 1)).toInt = 1) := icF (c := .ne) (a := (((e >>> (m &&& 31)) &&& 1)).toInt) (b := 1) rfl (by decide) k39
                    refine XW.fam (S' := (108, [(4, .int t), (0, .ref 94), (1, .int p), (2, .int v), (3, .int e)], [], (sh, I, L, R))) (M := mr_338) rfl (show mcode 338 105 = some (105, .if_icmp .ne 5, 3, 110, 0, 0, _) from rfl) (Or.inr (Or.inl ⟨108, [], by simp [brn, k39], rfl⟩)) ?_
                    refine XW.fam (S' := (109, [(4, .int t), (0, .ref 94), (1, .int p), (2, .int v), (3, .int e)], [.int (-1)], (sh, I, L, R))) (M := mr_338) rfl (show mcode 338 108 = some (108, .iconst (-1), 1, 0, 0, 0, _) from rfl) (Or.inl ⟨.int (-1), rfl, rfl⟩) ?_
                    refine XW.ret (r := some (.int (-1))) ⟨⟨.int, rfl, rfl⟩, by decide +kernel⟩ ?_
                    refine ⟨?_, Or.inl rfl⟩
                    exact ⟨hf, ⟨sh, R, hw⟩, Or.inl ⟨fun q => by have q1 : okZM I p v e := q.1; unfold okZM at q1; rw [em] at q1; omega, rfl, rfl⟩⟩
theorem tc_shutC4 {d : Nat} {sh : List mE} {R : Nat → Nat → Option Nat} {w : mW} {p v e : Int32} (hw : wOK (mkT vV []) (wE sh R) w) (hf : fresh w) : Tc 190 (d + 3) 0 0 [.ref 0, .int p, .int v, .int e] w (fun r w' => QZC p v e w r w' ∧ Rz 83 1 85 86 87 v e w w') := by
  obtain ⟨sh0, I, L, R0⟩ := w
  obtain rfl : sh = sh0 := hw.2.2.2.1.symm
  obtain rfl : R = R0 := hw.2.2.2.2.1.symm
  have c0 : sh[0]? = some (.inr 0) := hw.1 0 _ rfl
  have c83 : sh[83]? = some (.inr 10) := hw.1 83 _ rfl
  have r0_9 : R 0 9 = some 83 := hw.2.1 0 9 _ rfl
  refine Tc.of mr_190 rfl (show 4 ≤ mr_190.2.2.2.1 by decide) ?_
  refine XW.fam (S' := (1, [(0, .ref 0), (1, .int p), (2, .int v), (3, .int e)], [.ref 0], (sh, I, L, R))) (M := mr_190) rfl (show mcode 190 0 = some (0, .aload_n 0, 1, 0, 0, 0, _) from rfl) (Or.inl ⟨.ref 0, rfl, rfl⟩) ?_
  refine XW.fam (S' := (4, [(0, .ref 0), (1, .int p), (2, .int v), (3, .int e)], [.ref 83], (sh, I, L, R))) (M := mr_190) rfl (show mcode 190 1 = some (1, .getfield 85, 3, 0, 9, 0, _) from rfl) (Or.inr (Or.inr (Or.inr (Or.inr (Or.inr (Or.inr (Or.inr (Or.inl ⟨_, _, rfl, fl_ld c0 r0_9 (by decide) (by decide), rfl⟩)))))))) ?_
  refine XW.fam (S' := (5, [(0, .ref 0), (1, .int p), (2, .int v), (3, .int e)], [.int p, .ref 83], (sh, I, L, R))) (M := mr_190) rfl (show mcode 190 4 = some (4, .iload_n 1, 1, 0, 0, 0, _) from rfl) (Or.inl ⟨.int p, rfl, rfl⟩) ?_
  refine XW.fam (S' := (6, [(0, .ref 0), (1, .int p), (2, .int v), (3, .int e)], [.int v, .int p, .ref 83], (sh, I, L, R))) (M := mr_190) rfl (show mcode 190 5 = some (5, .iload_n 2, 1, 0, 0, 0, _) from rfl) (Or.inl ⟨.int v, rfl, rfl⟩) ?_
  refine XW.fam (S' := (7, [(0, .ref 0), (1, .int p), (2, .int v), (3, .int e)], [.int e, .int v, .int p, .ref 83], (sh, I, L, R))) (M := mr_190) rfl (show mcode 190 6 = some (6, .iload_n 3, 1, 0, 0, 0, _) from rfl) (Or.inl ⟨.int e, rfl, rfl⟩) ?_
  refine XW.call (d' := d + 2) (mc' := 0) (ms' := 0) (av := [.ref 83, .int p, .int v, .int e]) (rest := []) (M := mr_190) (Ma := mr_191) rfl (show mcode 190 7 = some (7, .invokevirtual 300, 3, 191, 0, 0, _) from rfl) rfl (by decide) (by decide) ⟨rfl, 83, _, rfl, c83⟩ rfl rfl (show 0 ≤ 8 by decide) (tc_shutT4 (d := d) hw hf) (by omega) (Nat.zero_le _) (Nat.zero_le _) (fun rQ1 wQ1 Q1 => ?_)
  obtain ⟨yQ1, eyQ1⟩ := Qapr_int Q1.1
  subst eyQ1
  refine XW.ret (r := some (.int yQ1)) ⟨⟨.int, rfl, rfl⟩, by decide +kernel⟩ ?_
  exact Q1
theorem app_row {A A1 A2 B B1 B2 : Nat → Int32} {c : Nat} {x : Int32} (h : ∀ k, A k = B k) (kb : ∀ k, B1 k = B k) (ka : ∀ k, A2 k = A1 k) (a : A1 c = x ∧ ∀ k, ¬ k = c → A1 k = A k) (b : B2 c = x ∧ ∀ k, ¬ k = c → B2 k = B1 k) : ∀ k, A2 k = B2 k := by
  intro k
  rw [ka]
  by_cases e : k = c
  · rw [e, a.1, b.1]
  · rw [a.2 k e, b.2 k e, kb, h]
theorem shut4_like {p v e : Int32} {w w1 w2 : mW} {r1 r2 : Option Value} (hc : w.2.1 1 1 = w.2.1 94 2) (hK : ∀ k, w.2.1 3 k = w.2.1 96 k) (hn : w.2.1 83 1 = w.2.1 94 92) (hr : ∀ k, w.2.1 84 k = w.2.1 156 k) (hd : ∀ k, w.2.1 85 k = w.2.1 157 k) (hbr : ∀ k, w.2.1 86 k = w.2.1 158 k) (ha : ∀ k, w.2.1 87 k = w.2.1 159 k) (hb : ∀ k, 0 ≤ (w1.2.1 96 k).toInt ∧ (w1.2.1 96 k).toInt ≤ 1) (hm : 0 ≤ (w.2.1 94 92).toInt ∧ (w.2.1 94 92).toInt ≤ 8) (h1 : QZC p v e w r1 w1 ∧ Rz 83 1 85 86 87 v e w w1) (h2 : QZM p v e w1 r2 w2 ∧ Rz 94 92 157 158 159 v e w1 w2) : r1 = r2 ∧ w2.2.1 83 1 = w2.2.1 94 92 ∧ (∀ k, w2.2.1 84 k = w2.2.1 156 k) ∧ (∀ k, w2.2.1 85 k = w2.2.1 157 k) ∧ (∀ k, w2.2.1 86 k = w2.2.1 158 k) ∧ ∀ k, w2.2.1 87 k = w2.2.1 159 k := by
  obtain ⟨l1, l2, l3⟩ := shut_like hc hK hn hr hb hm.2 h1.1 h2.1
  refine ⟨l1, l2, l3, ?_⟩
  have k1 : w1.2.1 94 92 = w.2.1 94 92 := Qapr_keep h1.1 94 92 rfl
  have k2 : w2.2.1 83 1 = w1.2.1 83 1 := Qapr_keep h2.1 83 1 rfl
  have hi := inc32 (m := w.2.1 94 92) hm.1 (by omega)
  have kd : ∀ k, w1.2.1 157 k = w.2.1 157 k := fun k => Qapr_keep h1.1 157 k rfl
  have kb : ∀ k, w1.2.1 158 k = w.2.1 158 k := fun k => Qapr_keep h1.1 158 k rfl
  have ka : ∀ k, w1.2.1 159 k = w.2.1 159 k := fun k => Qapr_keep h1.1 159 k rfl
  have jd : ∀ k, w2.2.1 85 k = w1.2.1 85 k := fun k => Qapr_keep h2.1 85 k rfl
  have jb : ∀ k, w2.2.1 86 k = w1.2.1 86 k := fun k => Qapr_keep h2.1 86 k rfl
  have ja : ∀ k, w2.2.1 87 k = w1.2.1 87 k := fun k => Qapr_keep h2.1 87 k rfl
  rcases h1.2 with f1 | ⟨c1, d1, b1, a1⟩
  · rcases h2.2 with f2 | ⟨c2, -⟩
    · rw [f2, f1]
      exact ⟨hd, hbr, ha⟩
    · exfalso
      rw [k2, f1, c2, k1, hn] at l2
      have := congrArg Int32.toInt l2
      omega
  · rcases h2.2 with f2 | ⟨c2, d2, b2, a2⟩
    · exfalso
      rw [k2, c1, f2, k1, hn] at l2
      have := congrArg Int32.toInt l2
      omega
    · rw [k1, ← hn] at d2 b2 a2
      exact ⟨app_row hd kd jd d1 d2, app_row hbr kb jb b1 b2, app_row ha ka ja a1 a2⟩
theorem bread_like {w w1 w2 : mW} {x1 x2 : Int32} (hn : w.2.1 83 1 = w.2.1 94 92) (hd : ∀ k, w.2.1 85 k = w.2.1 157 k) (hbr : ∀ k, w.2.1 86 k = w.2.1 158 k) (ha : ∀ k, w.2.1 87 k = w.2.1 159 k) (h1 : Qbr 83 1 85 86 87 mdBC w (some (.int x1)) w1) (h2 : Qbr 94 92 157 158 159 mdBM w1 (some (.int x2)) w2) : x1 = x2 := by
  obtain ⟨y1, e1, v1⟩ := h1.2.2.1
  obtain ⟨y2, e2, v2⟩ := h2.2.2.1
  cases e1
  cases e2
  have k := h1.2.2.2.2
  have k1 : w1.2.1 94 92 = w.2.1 83 1 := (k 94 92 rfl).trans hn.symm
  have a1 : rI w1.2.1 157 = rI w.2.1 85 := by
    funext i
    unfold rI
    rw [k 157 i rfl, hd]
  have a2 : rI w1.2.1 158 = rI w.2.1 86 := by
    funext i
    unfold rI
    rw [k 158 i rfl, hbr]
  have a3 : w1.2.1 159 = w.2.1 87 := by
    funext i
    rw [k 159 i rfl, ha]
  have eE : ∀ n, EEI w1.2.1 157 158 159 n 0 = EEI w.2.1 85 86 87 n 0 := by
    intro n
    unfold EEI
    rw [a1, a2, a3]
  rw [k1, eE] at v2
  exact Int32.toInt_inj.mp (v1.trans v2.symm)
