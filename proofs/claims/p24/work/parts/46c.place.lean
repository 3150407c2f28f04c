/-! ===== place (wip/genplace.py) ===== -/
theorem sta_z {sh : List mE} {I : Nat → Nat → Int32} {L : Nat → Nat → Int64} {R : Nat → Nat → Option Nat} {q n : Nat} {i x : Int32} {r : List Value} (hb : vp_nar .boolean x = x) (h0 : sh[q]? = some (.inl (.boolean, n))) (hin : inR i n = true) : sta (sh, I, L, R) .bastore (.int x :: .int i :: .ref q :: r) = some (r, (sh, up2 I q i.toNatClampNeg x, L, R)) := by
  simp [sta, h0, aok, hin, hb]
theorem dv10 {x : Int32} (h : 0 ≤ x.toInt) : (x / 10).toInt = x.toInt / 10 := by
  have e : (10 : Int32).toInt = 10 := rfl
  rw [div32 (y := 10) (by rw [e]; decide), e]
  exact Int.tdiv_eq_ediv_of_nonneg h
theorem rm10 {x : Int32} (h : 0 ≤ x.toInt) : (x - x / 10 * 10).toInt = x.toInt % 10 := by
  have e : (10 : Int32).toInt = 10 := rfl
  rw [rem32 (y := 10) (by rw [e]; decide), e]
  exact Int.tmod_eq_emod_of_nonneg h
theorem decr32 {m : Int32} : m + 1 - 1 = m := Int32.add_sub_cancel m 1
theorem ix20 {a b : Int32} (ha : 0 ≤ a.toInt ∧ a.toInt ≤ 19) (hb : 0 ≤ b.toInt ∧ b.toInt ≤ 19) : (a * 20 + b).toInt = 20 * a.toInt + b.toInt := by
  have e : (20 : Int32).toInt = 20 := rfl
  have m : (a * 20).toInt = a.toInt * 20 := by
    rw [Int32.toInt_mul, e]
    exact bm32 (by unfold lo32; omega) (by unfold hi32; omega)
  have s : (a * 20 + b).toInt = a.toInt * 20 + b.toInt := by
    rw [Int32.toInt_add, m]
    exact bm32 (by unfold lo32; omega) (by unfold hi32; omega)
  omega
theorem inm_one {a q k : Nat} (h : ¬ q = a) : inm [(a, none)] q k = false := by
  cases c : inm [(a, none)] q k with
  | false => rfl
  | true =>
    exfalso
    unfold inm at c
    obtain ⟨e, he, ce⟩ := List.any_eq_true.mp c
    rcases List.mem_singleton.mp he with rfl
    rw [Bool.and_eq_true] at ce
    exact h (Nat.eq_of_beq_eq_true ce.1).symm
def okPl (what n : Int32) : Prop := (0 ≤ what.toInt ∧ what.toInt ≤ 81) ∧ ¬ 1 < (what - what / 10 * 10).toInt ∧ (1 ≤ n.toInt ∧ n.toInt ≤ 999)
def mdPC : aM := [(1, some 1), (2, none), (3, none), (4, none), (8, none)]
def mdPM : aM := [(94, some 2), (95, none), (96, none), (97, none), (102, none)]
/-- a place is refused, there is no room, or it is laid: its number, its kind; what is kept -/
def Qpl (qm km qs : Nat) (md : aM) (what n : Int32) (w : mW) (r : Option Value) (w' : mW) : Prop := fresh w' ∧ (∃ sh R, wOK (mkT vV []) (wE sh R) w') ∧ ((¬ okPl what n ∧ r = some (.int (-1)) ∧ w'.2.1 = w.2.1) ∨ (okPl what n ∧ 20 ≤ (w.2.1 qm km).toInt ∧ r = some (.int (-3)) ∧ w'.2.1 = w.2.1) ∨ (okPl what n ∧ (w.2.1 qm km).toInt < 20 ∧ r = some (.int (w.2.1 qm km)) ∧ w'.2.1 qm km = w.2.1 qm km + 1 ∧ (w'.2.1 qs (w.2.1 qm km).toNatClampNeg).toInt = what.toInt % 10 ∧ (∀ k, ¬ k = (w.2.1 qm km).toNatClampNeg → w'.2.1 qs k = w.2.1 qs k) ∧ ∀ q k, inm md q k = false → w'.2.1 q k = w.2.1 q k))
theorem Qpl_int {qm km qs : Nat} {md : aM} {what n : Int32} {w w' : mW} {r : Option Value} (h : Qpl qm km qs md what n w r w') : ∃ y : Int32, r = some (.int y) := by
  rcases h.2.2 with ⟨-, h, -⟩ | ⟨-, -, h, -⟩ | ⟨-, -, h, -⟩
  · exact ⟨_, h⟩
  · exact ⟨_, h⟩
  · exact ⟨_, h⟩
theorem Qpl_keep {qm km qs : Nat} {md : aM} {what n : Int32} {w w' : mW} {r : Option Value} (h : Qpl qm km qs md what n w r w') : ∀ q k, inm md q k = false → w'.2.1 q k = w.2.1 q k := by
  intro q k hm
  rcases h.2.2 with ⟨-, -, h⟩ | ⟨-, -, -, h⟩ | ⟨-, -, -, -, -, -, h⟩
  · rw [h]
  · rw [h]
  · exact h q k hm
/-- the counts are alike: so are the answers, and the counts behind -/
theorem pl_cnt {what n : Int32} {w w1 w2 : mW} {r1 r2 : Option Value} (hR : w.2.1 1 1 = w.2.1 94 2) (h1 : Qpl 1 1 3 mdPC what n w r1 w1) (h2 : Qpl 94 2 96 mdPM what n w1 r2 w2) : r1 = r2 ∧ w2.2.1 1 1 = w2.2.1 94 2 := by
  have k1 : w1.2.1 94 2 = w.2.1 94 2 := Qpl_keep h1 94 2 rfl
  have k2 : w2.2.1 1 1 = w1.2.1 1 1 := Qpl_keep h2 1 1 rfl
  rcases h1.2.2 with ⟨n1, e1, f1⟩ | ⟨n1, m1, e1, f1⟩ | ⟨n1, m1, e1, f1, -⟩
  · rcases h2.2.2 with ⟨n2, e2, f2⟩ | ⟨n2, m2, e2, f2⟩ | ⟨n2, m2, e2, f2, -⟩
    · refine ⟨e1.trans e2.symm, ?_⟩
      rw [f2, f1]
      exact hR
    · exact absurd n2 n1
    · exact absurd n2 n1
  · rcases h2.2.2 with ⟨n2, e2, f2⟩ | ⟨n2, m2, e2, f2⟩ | ⟨n2, m2, e2, f2, -⟩
    · exact absurd n1 n2
    · refine ⟨e1.trans e2.symm, ?_⟩
      rw [f2, f1]
      exact hR
    · rw [k1, ← hR] at m2
      omega
  · rcases h2.2.2 with ⟨n2, e2, f2⟩ | ⟨n2, m2, e2, f2⟩ | ⟨n2, m2, e2, f2, -⟩
    · exact absurd n1 n2
    · rw [k1, ← hR] at m2
      omega
    · refine ⟨?_, ?_⟩
      · rw [e1, e2, k1, hR]
      · rw [k2, f1, f2, k1, hR]
/-- and the kinds -/
theorem pl_row {what n : Int32} {w w1 w2 : mW} {r1 r2 : Option Value} (hR : w.2.1 1 1 = w.2.1 94 2) (hK : ∀ k, w.2.1 3 k = w.2.1 96 k) (h1 : Qpl 1 1 3 mdPC what n w r1 w1) (h2 : Qpl 94 2 96 mdPM what n w1 r2 w2) : ∀ k, w2.2.1 3 k = w2.2.1 96 k := by
  intro k
  have k1 : w1.2.1 94 2 = w.2.1 94 2 := Qpl_keep h1 94 2 rfl
  have k3 : w1.2.1 96 k = w.2.1 96 k := Qpl_keep h1 96 k rfl
  have k2 : w2.2.1 3 k = w1.2.1 3 k := Qpl_keep h2 3 k rfl
  rcases h1.2.2 with ⟨n1, e1, f1⟩ | ⟨n1, m1, e1, f1⟩ | ⟨n1, m1, e1, f1, g1, i1, -⟩
  · rcases h2.2.2 with ⟨n2, e2, f2⟩ | ⟨n2, m2, e2, f2⟩ | ⟨n2, m2, e2, f2, -⟩
    · rw [f2, f1]
      exact hK k
    · exact absurd n2 n1
    · exact absurd n2 n1
  · rcases h2.2.2 with ⟨n2, e2, f2⟩ | ⟨n2, m2, e2, f2⟩ | ⟨n2, m2, e2, f2, -⟩
    · exact absurd n1 n2
    · rw [f2, f1]
      exact hK k
    · rw [k1, ← hR] at m2
      omega
  · rcases h2.2.2 with ⟨n2, e2, f2⟩ | ⟨n2, m2, e2, f2⟩ | ⟨n2, m2, e2, f2, g2, i2, -⟩
    · exact absurd n1 n2
    · rw [k1, ← hR] at m2
      omega
    · rw [k1, ← hR] at g2 i2
      by_cases c : k = (w.2.1 1 1).toNatClampNeg
      · rw [c] at k2 ⊢
        exact Int32.toInt_inj.mp (by rw [k2, g1, g2])
      · rw [k2, i1 k c, i2 k c, k3]
        exact hK k
theorem tc_spot {d : Nat} {w : mW} {a b : Int32} : Tc 16 d 0 0 [.int a, .int b] w (fun r w' => r = some (.int (a * 20 + b)) ∧ w' = w) := by
  refine Tc.of mr_16 rfl (show 2 ≤ mr_16.2.2.2.1 by decide) ?_
  refine XW.fam (S' := (1, [(0, .int a), (1, .int b)], [.int a], w)) (M := mr_16) rfl (show mcode 16 0 = some (0, .iload_n 0, 1, 0, 0, 0, _) from rfl) (Or.inl ⟨.int a, rfl, rfl⟩) ?_
  refine XW.fam (S' := (3, [(0, .int a), (1, .int b)], [.int 20, .int a], w)) (M := mr_16) rfl (show mcode 16 1 = some (1, .bipush 20, 2, 0, 0, 0, _) from rfl) (Or.inl ⟨.int 20, rfl, rfl⟩) ?_
  refine XW.fam (S' := (4, [(0, .int a), (1, .int b)], [.int (a * 20)], w)) (M := mr_16) rfl (show mcode 16 3 = some (3, .imul, 1, 0, 0, 0, _) from rfl) (Or.inr (Or.inr (Or.inr (Or.inr (Or.inr (Or.inl ⟨_, rfl, rfl⟩)))))) ?_
  refine XW.fam (S' := (5, [(0, .int a), (1, .int b)], [.int b, .int (a * 20)], w)) (M := mr_16) rfl (show mcode 16 4 = some (4, .iload_n 1, 1, 0, 0, 0, _) from rfl) (Or.inl ⟨.int b, rfl, rfl⟩) ?_
  refine XW.fam (S' := (6, [(0, .int a), (1, .int b)], [.int ((a * 20) + b)], w)) (M := mr_16) rfl (show mcode 16 5 = some (5, .iadd, 1, 0, 0, 0, _) from rfl) (Or.inr (Or.inr (Or.inr (Or.inr (Or.inr (Or.inl ⟨_, rfl, rfl⟩)))))) ?_
  refine XW.ret (r := some (.int ((a * 20) + b))) ⟨⟨.int, rfl, rfl⟩, by decide +kernel⟩ ?_
  exact ⟨rfl, rfl⟩
theorem found_loop {d : Nat} {sh : List mE} {L : Nat → Nat → Int64} {R : Nat → Nat → Option Nat} {what n m : Int32} (hm0 : 0 ≤ m.toInt) (hm1 : m.toInt < 20) {Q : Option Value → mW → Prop} : ∀ (z : Nat) {I : Nat → Nat → Int32} {t : Int32}, wOK (mkT vV []) (wE sh R) (sh, I, L, R) → fresh (sh, I, L, R) → I 1 1 = m → 0 ≤ t.toInt → m.toInt - t.toInt < z → (∀ I', wOK (mkT vV []) (wE sh R) (sh, I', L, R) → fresh (sh, I', L, R) → (∀ q k, ¬ q = 8 → I' q k = I q k) → ∀ t' : Int32, XW 14 mr_14 none (d + 1) 0 0 Q (125, [(3, .int t'), (0, .ref 1), (1, .int what), (2, .int n)], [], (sh, I', L, R))) → t.toInt ≤ 20 → XW 14 mr_14 none (d + 1) 0 0 Q (81, [(3, .int t), (0, .ref 1), (1, .int what), (2, .int n)], [], (sh, I, L, R)) := by
  intro z
  induction z with
  | zero =>
    intro I t hw hf em ht hz K ht2
    have c1 : sh[1]? = some (.inr 1) := hw.1 1 _ rfl
    have c8 : sh[8]? = some (.inl (.int, 400)) := hw.1 8 _ rfl
    have r1_8 : R 1 8 = some 8 := hw.2.1 1 8 _ rfl
    have z1000000 : (1000000 : Int32).toInt = 1000000 := rfl
    refine XW.fam (S' := (82, [(3, .int t), (0, .ref 1), (1, .int what), (2, .int n)], [.int t], (sh, I, L, R))) (M := mr_14) rfl (show mcode 14 81 = some (81, .iload_n 3, 1, 0, 0, 0, _) from rfl) (Or.inl ⟨.int t, rfl, rfl⟩) ?_
    refine XW.fam (S' := (83, [(3, .int t), (0, .ref 1), (1, .int what), (2, .int n)], [.ref 1, .int t], (sh, I, L, R))) (M := mr_14) rfl (show mcode 14 82 = some (82, .aload_n 0, 1, 0, 0, 0, _) from rfl) (Or.inl ⟨.ref 1, rfl, rfl⟩) ?_
    refine XW.fam (S' := (86, [(3, .int t), (0, .ref 1), (1, .int what), (2, .int n)], [.int (I 1 1), .int t], (sh, I, L, R))) (M := mr_14) rfl (show mcode 14 83 = some (83, .getfield 33, 3, 1, 1, 0, _) from rfl) (Or.inr (Or.inr (Or.inr (Or.inr (Or.inr (Or.inr (Or.inr (Or.inl ⟨_, _, rfl, fl_ldI c1 (by decide) (by decide), rfl⟩)))))))) ?_
    rw [em]
    have k1 : bcmp .ge t m = true := bcT (c := .ge) (a := (t).toInt) (b := (m).toInt) rfl rfl (by show (m).toInt ≤ (t).toInt; omega)
    refine XW.fam (S' := (125, [(3, .int t), (0, .ref 1), (1, .int what), (2, .int n)], [], (sh, I, L, R))) (M := mr_14) rfl (show mcode 14 86 = some (86, .if_icmp .ge 39, 3, 125, 0, 0, _) from rfl) (Or.inr (Or.inl ⟨125, [], by simp [brn, k1], rfl⟩)) ?_
    exact K _ hw hf (fun _ _ _ => rfl) _
  | succ z ih =>
    intro I t hw hf em ht hz K ht2
    have c1 : sh[1]? = some (.inr 1) := hw.1 1 _ rfl
    have c8 : sh[8]? = some (.inl (.int, 400)) := hw.1 8 _ rfl
    have r1_8 : R 1 8 = some 8 := hw.2.1 1 8 _ rfl
    have z1000000 : (1000000 : Int32).toInt = 1000000 := rfl
    refine XW.fam (S' := (82, [(3, .int t), (0, .ref 1), (1, .int what), (2, .int n)], [.int t], (sh, I, L, R))) (M := mr_14) rfl (show mcode 14 81 = some (81, .iload_n 3, 1, 0, 0, 0, _) from rfl) (Or.inl ⟨.int t, rfl, rfl⟩) ?_
    refine XW.fam (S' := (83, [(3, .int t), (0, .ref 1), (1, .int what), (2, .int n)], [.ref 1, .int t], (sh, I, L, R))) (M := mr_14) rfl (show mcode 14 82 = some (82, .aload_n 0, 1, 0, 0, 0, _) from rfl) (Or.inl ⟨.ref 1, rfl, rfl⟩) ?_
    refine XW.fam (S' := (86, [(3, .int t), (0, .ref 1), (1, .int what), (2, .int n)], [.int (I 1 1), .int t], (sh, I, L, R))) (M := mr_14) rfl (show mcode 14 83 = some (83, .getfield 33, 3, 1, 1, 0, _) from rfl) (Or.inr (Or.inr (Or.inr (Or.inr (Or.inr (Or.inr (Or.inr (Or.inl ⟨_, _, rfl, fl_ldI c1 (by decide) (by decide), rfl⟩)))))))) ?_
    rw [em]
    cases k1 : bcmp .ge t m with
    | true =>
      have gk1 : (m).toInt ≤ (t).toInt := icT (c := .ge) (a := (t).toInt) (b := (m).toInt) rfl rfl k1
      refine XW.fam (S' := (125, [(3, .int t), (0, .ref 1), (1, .int what), (2, .int n)], [], (sh, I, L, R))) (M := mr_14) rfl (show mcode 14 86 = some (86, .if_icmp .ge 39, 3, 125, 0, 0, _) from rfl) (Or.inr (Or.inl ⟨125, [], by simp [brn, k1], rfl⟩)) ?_
      exact K _ hw hf (fun _ _ _ => rfl) _
    | false =>
      have gk1 : ¬ ((m).toInt ≤ (t).toInt) := icF (c := .ge) (a := (t).toInt) (b := (m).toInt) rfl rfl k1
      refine XW.fam (S' := (89, [(3, .int t), (0, .ref 1), (1, .int what), (2, .int n)], [], (sh, I, L, R))) (M := mr_14) rfl (show mcode 14 86 = some (86, .if_icmp .ge 39, 3, 125, 0, 0, _) from rfl) (Or.inr (Or.inl ⟨89, [], by simp [brn, k1], rfl⟩)) ?_
      refine XW.fam (S' := (90, [(3, .int t), (0, .ref 1), (1, .int what), (2, .int n)], [.ref 1], (sh, I, L, R))) (M := mr_14) rfl (show mcode 14 89 = some (89, .aload_n 0, 1, 0, 0, 0, _) from rfl) (Or.inl ⟨.ref 1, rfl, rfl⟩) ?_
      refine XW.fam (S' := (93, [(3, .int t), (0, .ref 1), (1, .int what), (2, .int n)], [.ref 8], (sh, I, L, R))) (M := mr_14) rfl (show mcode 14 90 = some (90, .getfield 30, 3, 1, 8, 0, _) from rfl) (Or.inr (Or.inr (Or.inr (Or.inr (Or.inr (Or.inr (Or.inr (Or.inl ⟨_, _, rfl, fl_ld c1 r1_8 (by decide) (by decide), rfl⟩)))))))) ?_
      refine XW.fam (S' := (94, [(3, .int t), (0, .ref 1), (1, .int what), (2, .int n)], [.ref 1, .ref 8], (sh, I, L, R))) (M := mr_14) rfl (show mcode 14 93 = some (93, .aload_n 0, 1, 0, 0, 0, _) from rfl) (Or.inl ⟨.ref 1, rfl, rfl⟩) ?_
      refine XW.fam (S' := (97, [(3, .int t), (0, .ref 1), (1, .int what), (2, .int n)], [.int (I 1 1), .ref 8], (sh, I, L, R))) (M := mr_14) rfl (show mcode 14 94 = some (94, .getfield 33, 3, 1, 1, 0, _) from rfl) (Or.inr (Or.inr (Or.inr (Or.inr (Or.inr (Or.inr (Or.inr (Or.inl ⟨_, _, rfl, fl_ldI c1 (by decide) (by decide), rfl⟩)))))))) ?_
      rw [em]
      refine XW.fam (S' := (98, [(3, .int t), (0, .ref 1), (1, .int what), (2, .int n)], [.int t, .int m, .ref 8], (sh, I, L, R))) (M := mr_14) rfl (show mcode 14 97 = some (97, .iload_n 3, 1, 0, 0, 0, _) from rfl) (Or.inl ⟨.int t, rfl, rfl⟩) ?_
      refine XW.call (d' := d) (mc' := 0) (ms' := 0) (av := [.int m, .int t]) (rest := [.ref 8]) (M := mr_14) (Ma := mr_16) rfl (show mcode 14 98 = some (98, .invokestatic 45, 3, 16, 0, 0, _) from rfl) rfl (by decide) (by decide) rfl rfl rfl (show 1 ≤ 8 by decide) (tc_spot) (by omega) (Nat.zero_le _) (Nat.zero_le _) (fun rQ2 wQ2 Q2 => ?_)
      obtain ⟨rfl, rfl⟩ := Q2
      refine XW.fam (S' := (103, [(3, .int t), (0, .ref 1), (1, .int what), (2, .int n)], [.int 1000000, .int (m * 20 + t), .ref 8], (sh, I, L, R))) (M := mr_14) rfl (show mcode 14 101 = some (101, .ldc 49, 2, 0, 0, 1000000, _) from rfl) (Or.inr (Or.inr (Or.inr (Or.inr (Or.inl ⟨.int 1000000, rfl, rfl⟩))))) ?_
      have xhin3 : ((m * 20 + t)).toInt = 20 * m.toInt + t.toInt := ix20 (by omega) (by omega)
      have hin3 : inR (m * 20 + t) 400 = true := inR_of (by omega) (by omega)
      obtain ⟨I4, eI4⟩ : ∃ X, X = up2 I 8 ((m * 20 + t)).toNatClampNeg 1000000 := ⟨_, rfl⟩
      refine XW.fam (S' := (104, [(3, .int t), (0, .ref 1), (1, .int what), (2, .int n)], [], (sh, I4, L, R))) (M := mr_14) rfl (show mcode 14 103 = some (103, .iastore, 1, 0, 0, 0, _) from rfl) (Or.inr (Or.inr (Or.inr (Or.inl ⟨_, _, by rw [eI4]; exact sta_i c8 hin3, rfl⟩)))) ?_
      have hwI4 : wOK (mkT vV []) (wE sh R) (sh, I4, L, R) := by rw [eI4]; exact wOK_u2 (q := 8) (k := ((m * 20 + t)).toNatClampNeg) (x := 1000000) wE_put hw rfl (by show (0 : Int) ≤ _; omega) (by show _ ≤ (1000000 : Int); omega)
      have hfI4 : fresh (sh, I4, L, R) := by rw [eI4]; exact fresh_I hf c8
      have v5 : I4 1 1 = m := by rw [eI4, up2_ne (fun e => by cases e.1)]; exact em
      have v6 : I4 8 ((m * 20 + t)).toNatClampNeg = 1000000 := by rw [eI4]; exact up2_eq
      refine XW.fam (S' := (105, [(3, .int t), (0, .ref 1), (1, .int what), (2, .int n)], [.ref 1], (sh, I4, L, R))) (M := mr_14) rfl (show mcode 14 104 = some (104, .aload_n 0, 1, 0, 0, 0, _) from rfl) (Or.inl ⟨.ref 1, rfl, rfl⟩) ?_
      refine XW.fam (S' := (108, [(3, .int t), (0, .ref 1), (1, .int what), (2, .int n)], [.ref 8], (sh, I4, L, R))) (M := mr_14) rfl (show mcode 14 105 = some (105, .getfield 30, 3, 1, 8, 0, _) from rfl) (Or.inr (Or.inr (Or.inr (Or.inr (Or.inr (Or.inr (Or.inr (Or.inl ⟨_, _, rfl, fl_ld c1 r1_8 (by decide) (by decide), rfl⟩)))))))) ?_
      refine XW.fam (S' := (109, [(3, .int t), (0, .ref 1), (1, .int what), (2, .int n)], [.int t, .ref 8], (sh, I4, L, R))) (M := mr_14) rfl (show mcode 14 108 = some (108, .iload_n 3, 1, 0, 0, 0, _) from rfl) (Or.inl ⟨.int t, rfl, rfl⟩) ?_
      refine XW.fam (S' := (110, [(3, .int t), (0, .ref 1), (1, .int what), (2, .int n)], [.ref 1, .int t, .ref 8], (sh, I4, L, R))) (M := mr_14) rfl (show mcode 14 109 = some (109, .aload_n 0, 1, 0, 0, 0, _) from rfl) (Or.inl ⟨.ref 1, rfl, rfl⟩) ?_
      refine XW.fam (S' := (113, [(3, .int t), (0, .ref 1), (1, .int what), (2, .int n)], [.int (I4 1 1), .int t, .ref 8], (sh, I4, L, R))) (M := mr_14) rfl (show mcode 14 110 = some (110, .getfield 33, 3, 1, 1, 0, _) from rfl) (Or.inr (Or.inr (Or.inr (Or.inr (Or.inr (Or.inr (Or.inr (Or.inl ⟨_, _, rfl, fl_ldI c1 (by decide) (by decide), rfl⟩)))))))) ?_
      rw [v5]
      refine XW.call (d' := d) (mc' := 0) (ms' := 0) (av := [.int t, .int m]) (rest := [.ref 8]) (M := mr_14) (Ma := mr_16) rfl (show mcode 14 113 = some (113, .invokestatic 45, 3, 16, 0, 0, _) from rfl) rfl (by decide) (by decide) rfl rfl rfl (show 1 ≤ 8 by decide) (tc_spot) (by omega) (Nat.zero_le _) (Nat.zero_le _) (fun rQ7 wQ7 Q7 => ?_)
      obtain ⟨rfl, rfl⟩ := Q7
      refine XW.fam (S' := (118, [(3, .int t), (0, .ref 1), (1, .int what), (2, .int n)], [.int 1000000, .int (t * 20 + m), .ref 8], (sh, I4, L, R))) (M := mr_14) rfl (show mcode 14 116 = some (116, .ldc 49, 2, 0, 0, 1000000, _) from rfl) (Or.inr (Or.inr (Or.inr (Or.inr (Or.inl ⟨.int 1000000, rfl, rfl⟩))))) ?_
      have xhin8 : ((t * 20 + m)).toInt = 20 * t.toInt + m.toInt := ix20 (by omega) (by omega)
      have hin8 : inR (t * 20 + m) 400 = true := inR_of (by omega) (by omega)
      obtain ⟨I9, eI9⟩ : ∃ X, X = up2 I4 8 ((t * 20 + m)).toNatClampNeg 1000000 := ⟨_, rfl⟩
      refine XW.fam (S' := (119, [(3, .int t), (0, .ref 1), (1, .int what), (2, .int n)], [], (sh, I9, L, R))) (M := mr_14) rfl (show mcode 14 118 = some (118, .iastore, 1, 0, 0, 0, _) from rfl) (Or.inr (Or.inr (Or.inr (Or.inl ⟨_, _, by rw [eI9]; exact sta_i c8 hin8, rfl⟩)))) ?_
      have hwI9 : wOK (mkT vV []) (wE sh R) (sh, I9, L, R) := by rw [eI9]; exact wOK_u2 (q := 8) (k := ((t * 20 + m)).toNatClampNeg) (x := 1000000) wE_put hwI4 rfl (by show (0 : Int) ≤ _; omega) (by show _ ≤ (1000000 : Int); omega)
      have hfI9 : fresh (sh, I9, L, R) := by rw [eI9]; exact fresh_I hfI4 c8
      have v10 : I9 1 1 = m := by rw [eI9, up2_ne (fun e => by cases e.1)]; exact v5
      have v12 : I9 8 ((t * 20 + m)).toNatClampNeg = 1000000 := by rw [eI9]; exact up2_eq
      refine XW.fam (S' := (122, [(3, .int (t + Int32.ofInt 1)), (0, .ref 1), (1, .int what), (2, .int n)], [], (sh, I9, L, R))) (M := mr_14) rfl (show mcode 14 119 = some (119, .iinc 3 1, 3, 0, 0, 0, _) from rfl) (Or.inr (Or.inr (Or.inr (Or.inr (Or.inr (Or.inr (Or.inr (Or.inr (Or.inr ⟨3, 1, t, rfl, rfl, by decide, rfl⟩))))))))) ?_
      refine XW.fam (S' := (81, [(3, .int (t + Int32.ofInt 1)), (0, .ref 1), (1, .int what), (2, .int n)], [], (sh, I9, L, R))) (M := mr_14) rfl (show mcode 14 122 = some (122, .goto (-41), 3, 81, 0, 0, _) from rfl) (Or.inr (Or.inl ⟨81, [], rfl, rfl⟩)) ?_
      have eo := incO (m := t) (by omega) (by omega)
      exact ih hwI9 hfI9 v10 (by omega) (by omega) (fun I' hw' hf' hk' o' => K I' hw' hf' (fun q k hq => by rw [hk' q k hq, eI9, up2_ne (fun e => hq e.1), eI4, up2_ne (fun e => hq e.1)]) o') (by omega)
theorem tc_found {d : Nat} {sh : List mE} {I : Nat → Nat → Int32} {L : Nat → Nat → Int64} {R : Nat → Nat → Option Nat} {what n : Int32} (hw : wOK (mkT vV []) (wE sh R) (sh, I, L, R)) (hf : fresh (sh, I, L, R)) : Tc 14 (d + 1) 0 0 [.ref 1, .int what, .int n] (sh, I, L, R) (Qpl 1 1 3 mdPC what n (sh, I, L, R)) := by
  have c1 : sh[1]? = some (.inr 1) := hw.1 1 _ rfl
  have c2 : sh[2]? = some (.inl (.int, 20)) := hw.1 2 _ rfl
  have c3 : sh[3]? = some (.inl (.int, 20)) := hw.1 3 _ rfl
  have c4 : sh[4]? = some (.inl (.int, 20)) := hw.1 4 _ rfl
  have r1_2 : R 1 2 = some 2 := hw.2.1 1 2 _ rfl
  have r1_3 : R 1 3 = some 3 := hw.2.1 1 3 _ rfl
  have r1_4 : R 1 4 = some 4 := hw.2.1 1 4 _ rfl
  have zm3 : ((-3) : Int32).toInt = (-3) := rfl
  have zm1 : ((-1) : Int32).toInt = (-1) := rfl
  have z0 : (0 : Int32).toInt = 0 := rfl
  have z1 : (1 : Int32).toInt = 1 := rfl
  have z10 : (10 : Int32).toInt = 10 := rfl
  have z20 : (20 : Int32).toInt = 20 := rfl
  have z81 : (81 : Int32).toInt = 81 := rfl
  have z999 : (999 : Int32).toInt = 999 := rfl
  have hm : 0 ≤ (I 1 1).toInt ∧ (I 1 1).toInt ≤ 20 := hw.2.2.1 1 1
  obtain ⟨m, em⟩ : ∃ m, I 1 1 = m := ⟨_, rfl⟩
  rw [em] at hm
  refine Tc.of mr_14 rfl (show 3 ≤ mr_14.2.2.2.1 by decide) ?_
  refine XW.fam (S' := (1, [(0, .ref 1), (1, .int what), (2, .int n)], [.int what], (sh, I, L, R))) (M := mr_14) rfl (show mcode 14 0 = some (0, .iload_n 1, 1, 0, 0, 0, _) from rfl) (Or.inl ⟨.int what, rfl, rfl⟩) ?_
  refine XW.fam (S' := (2, [(0, .ref 1), (1, .int what), (2, .int n)], [.int 0, .int what], (sh, I, L, R))) (M := mr_14) rfl (show mcode 14 1 = some (1, .iconst 0, 1, 0, 0, 0, _) from rfl) (Or.inl ⟨.int 0, rfl, rfl⟩) ?_
  refine XW.fam (S' := (4, [(0, .ref 1), (1, .int what), (2, .int n)], [.int 81, .int 0, .int what], (sh, I, L, R))) (M := mr_14) rfl (show mcode 14 2 = some (2, .bipush 81, 2, 0, 0, 0, _) from rfl) (Or.inl ⟨.int 81, rfl, rfl⟩) ?_
  refine XW.call (d' := d) (mc' := 0) (ms' := 0) (av := [.int what, .int 0, .int 81]) (rest := []) (M := mr_14) (Ma := mr_15) rfl (show mcode 14 4 = some (4, .invokestatic 41, 3, 15, 1, 0, _) from rfl) rfl (by decide) (by decide) rfl rfl rfl (show 0 ≤ 8 by decide) (tc_inC) (by omega) (Nat.zero_le _) (Nat.zero_le _) (fun rQ1 wQ1 Q1 => ?_)
  obtain ⟨hQ1, rfl⟩ := Q1
  rcases hQ1 with ⟨rfl, gQ1⟩ | ⟨rfl, gQ1⟩
  · skip
    refine XW.fam (S' := (29, [(0, .ref 1), (1, .int what), (2, .int n)], [], (sh, I, L, R))) (M := mr_14) rfl (show mcode 14 7 = some (7, .ifCond .eq 22, 3, 29, 0, 0, _) from rfl) (Or.inr (Or.inl ⟨29, [], rfl, rfl⟩)) ?_
    refine XW.fam (S' := (30, [(0, .ref 1), (1, .int what), (2, .int n)], [.int (-1)], (sh, I, L, R))) (M := mr_14) rfl (show mcode 14 29 = some (29, .iconst (-1), 1, 0, 0, 0, _) from rfl) (Or.inl ⟨.int (-1), rfl, rfl⟩) ?_
    refine XW.ret (r := some (.int (-1))) ⟨⟨.int, rfl, rfl⟩, by decide +kernel⟩ ?_
    exact ⟨hf, ⟨sh, R, hw⟩, Or.inl ⟨fun q => by unfold okPl at q; omega, rfl, rfl⟩⟩
  · skip
    refine XW.fam (S' := (10, [(0, .ref 1), (1, .int what), (2, .int n)], [], (sh, I, L, R))) (M := mr_14) rfl (show mcode 14 7 = some (7, .ifCond .eq 22, 3, 29, 0, 0, _) from rfl) (Or.inr (Or.inl ⟨10, [], rfl, rfl⟩)) ?_
    refine XW.fam (S' := (11, [(0, .ref 1), (1, .int what), (2, .int n)], [.int what], (sh, I, L, R))) (M := mr_14) rfl (show mcode 14 10 = some (10, .iload_n 1, 1, 0, 0, 0, _) from rfl) (Or.inl ⟨.int what, rfl, rfl⟩) ?_
    refine XW.fam (S' := (13, [(0, .ref 1), (1, .int what), (2, .int n)], [.int 10, .int what], (sh, I, L, R))) (M := mr_14) rfl (show mcode 14 11 = some (11, .bipush 10, 2, 0, 0, 0, _) from rfl) (Or.inl ⟨.int 10, rfl, rfl⟩) ?_
    refine XW.fam (S' := (14, [(0, .ref 1), (1, .int what), (2, .int n)], [.int (what - what / 10 * 10)], (sh, I, L, R))) (M := mr_14) rfl (show mcode 14 13 = some (13, .irem, 1, 0, 0, 0, _) from rfl) (Or.inr (Or.inr (Or.inr (Or.inr (Or.inr (Or.inl ⟨_, stk_bin (by simp only [ibin]; rw [if_neg (by decide)]), rfl⟩)))))) ?_
    refine XW.fam (S' := (15, [(0, .ref 1), (1, .int what), (2, .int n)], [.int 1, .int (what - what / 10 * 10)], (sh, I, L, R))) (M := mr_14) rfl (show mcode 14 14 = some (14, .iconst 1, 1, 0, 0, 0, _) from rfl) (Or.inl ⟨.int 1, rfl, rfl⟩) ?_
    cases k2 : bcmp .gt (what - what / 10 * 10) 1 with
    | true =>
      have gk2 : 1 < ((what - what / 10 * 10)).toInt := icT (c := .gt) (a := ((what - what / 10 * 10)).toInt) (b := 1) rfl (by decide) k2
      refine XW.fam (S' := (29, [(0, .ref 1), (1, .int what), (2, .int n)], [], (sh, I, L, R))) (M := mr_14) rfl (show mcode 14 15 = some (15, .if_icmp .gt 14, 3, 29, 0, 0, _) from rfl) (Or.inr (Or.inl ⟨29, [], by simp [brn, k2], rfl⟩)) ?_
      refine XW.fam (S' := (30, [(0, .ref 1), (1, .int what), (2, .int n)], [.int (-1)], (sh, I, L, R))) (M := mr_14) rfl (show mcode 14 29 = some (29, .iconst (-1), 1, 0, 0, 0, _) from rfl) (Or.inl ⟨.int (-1), rfl, rfl⟩) ?_
      refine XW.ret (r := some (.int (-1))) ⟨⟨.int, rfl, rfl⟩, by decide +kernel⟩ ?_
      exact ⟨hf, ⟨sh, R, hw⟩, Or.inl ⟨fun q => by unfold okPl at q; omega, rfl, rfl⟩⟩
    | false =>
      have gk2 : ¬ (1 < ((what - what / 10 * 10)).toInt) := icF (c := .gt) (a := ((what - what / 10 * 10)).toInt) (b := 1) rfl (by decide) k2
      refine XW.fam (S' := (18, [(0, .ref 1), (1, .int what), (2, .int n)], [], (sh, I, L, R))) (M := mr_14) rfl (show mcode 14 15 = some (15, .if_icmp .gt 14, 3, 29, 0, 0, _) from rfl) (Or.inr (Or.inl ⟨18, [], by simp [brn, k2], rfl⟩)) ?_
      refine XW.fam (S' := (19, [(0, .ref 1), (1, .int what), (2, .int n)], [.int n], (sh, I, L, R))) (M := mr_14) rfl (show mcode 14 18 = some (18, .iload_n 2, 1, 0, 0, 0, _) from rfl) (Or.inl ⟨.int n, rfl, rfl⟩) ?_
      refine XW.fam (S' := (20, [(0, .ref 1), (1, .int what), (2, .int n)], [.int 1, .int n], (sh, I, L, R))) (M := mr_14) rfl (show mcode 14 19 = some (19, .iconst 1, 1, 0, 0, 0, _) from rfl) (Or.inl ⟨.int 1, rfl, rfl⟩) ?_
      refine XW.fam (S' := (23, [(0, .ref 1), (1, .int what), (2, .int n)], [.int 999, .int 1, .int n], (sh, I, L, R))) (M := mr_14) rfl (show mcode 14 20 = some (20, .sipush 999, 3, 0, 0, 0, _) from rfl) (Or.inl ⟨.int 999, rfl, rfl⟩) ?_
      refine XW.call (d' := d) (mc' := 0) (ms' := 0) (av := [.int n, .int 1, .int 999]) (rest := []) (M := mr_14) (Ma := mr_15) rfl (show mcode 14 23 = some (23, .invokestatic 41, 3, 15, 1, 0, _) from rfl) rfl (by decide) (by decide) rfl rfl rfl (show 0 ≤ 8 by decide) (tc_inC) (by omega) (Nat.zero_le _) (Nat.zero_le _) (fun rQ3 wQ3 Q3 => ?_)
      obtain ⟨hQ3, rfl⟩ := Q3
      rcases hQ3 with ⟨rfl, gQ3⟩ | ⟨rfl, gQ3⟩
      · skip
        refine XW.fam (S' := (29, [(0, .ref 1), (1, .int what), (2, .int n)], [], (sh, I, L, R))) (M := mr_14) rfl (show mcode 14 26 = some (26, .ifCond .ne 5, 3, 31, 0, 0, _) from rfl) (Or.inr (Or.inl ⟨29, [], rfl, rfl⟩)) ?_
        refine XW.fam (S' := (30, [(0, .ref 1), (1, .int what), (2, .int n)], [.int (-1)], (sh, I, L, R))) (M := mr_14) rfl (show mcode 14 29 = some (29, .iconst (-1), 1, 0, 0, 0, _) from rfl) (Or.inl ⟨.int (-1), rfl, rfl⟩) ?_
        refine XW.ret (r := some (.int (-1))) ⟨⟨.int, rfl, rfl⟩, by decide +kernel⟩ ?_
        exact ⟨hf, ⟨sh, R, hw⟩, Or.inl ⟨fun q => by unfold okPl at q; omega, rfl, rfl⟩⟩
      · skip
        refine XW.fam (S' := (31, [(0, .ref 1), (1, .int what), (2, .int n)], [], (sh, I, L, R))) (M := mr_14) rfl (show mcode 14 26 = some (26, .ifCond .ne 5, 3, 31, 0, 0, _) from rfl) (Or.inr (Or.inl ⟨31, [], rfl, rfl⟩)) ?_
        refine XW.fam (S' := (32, [(0, .ref 1), (1, .int what), (2, .int n)], [.ref 1], (sh, I, L, R))) (M := mr_14) rfl (show mcode 14 31 = some (31, .aload_n 0, 1, 0, 0, 0, _) from rfl) (Or.inl ⟨.ref 1, rfl, rfl⟩) ?_
        refine XW.fam (S' := (35, [(0, .ref 1), (1, .int what), (2, .int n)], [.int (I 1 1)], (sh, I, L, R))) (M := mr_14) rfl (show mcode 14 32 = some (32, .getfield 33, 3, 1, 1, 0, _) from rfl) (Or.inr (Or.inr (Or.inr (Or.inr (Or.inr (Or.inr (Or.inr (Or.inl ⟨_, _, rfl, fl_ldI c1 (by decide) (by decide), rfl⟩)))))))) ?_
        rw [em]
        refine XW.fam (S' := (37, [(0, .ref 1), (1, .int what), (2, .int n)], [.int 20, .int m], (sh, I, L, R))) (M := mr_14) rfl (show mcode 14 35 = some (35, .bipush 20, 2, 0, 0, 0, _) from rfl) (Or.inl ⟨.int 20, rfl, rfl⟩) ?_
        cases k4 : bcmp .lt m 20 with
        | true =>
          have gk4 : (m).toInt < 20 := icT (c := .lt) (a := (m).toInt) (b := 20) rfl (by decide) k4
          refine XW.fam (S' := (43, [(0, .ref 1), (1, .int what), (2, .int n)], [], (sh, I, L, R))) (M := mr_14) rfl (show mcode 14 37 = some (37, .if_icmp .lt 6, 3, 43, 0, 0, _) from rfl) (Or.inr (Or.inl ⟨43, [], by simp [brn, k4], rfl⟩)) ?_
          refine XW.fam (S' := (44, [(0, .ref 1), (1, .int what), (2, .int n)], [.ref 1], (sh, I, L, R))) (M := mr_14) rfl (show mcode 14 43 = some (43, .aload_n 0, 1, 0, 0, 0, _) from rfl) (Or.inl ⟨.ref 1, rfl, rfl⟩) ?_
          refine XW.fam (S' := (47, [(0, .ref 1), (1, .int what), (2, .int n)], [.ref 2], (sh, I, L, R))) (M := mr_14) rfl (show mcode 14 44 = some (44, .getfield 9, 3, 1, 2, 0, _) from rfl) (Or.inr (Or.inr (Or.inr (Or.inr (Or.inr (Or.inr (Or.inr (Or.inl ⟨_, _, rfl, fl_ld c1 r1_2 (by decide) (by decide), rfl⟩)))))))) ?_
          refine XW.fam (S' := (48, [(0, .ref 1), (1, .int what), (2, .int n)], [.ref 1, .ref 2], (sh, I, L, R))) (M := mr_14) rfl (show mcode 14 47 = some (47, .aload_n 0, 1, 0, 0, 0, _) from rfl) (Or.inl ⟨.ref 1, rfl, rfl⟩) ?_
          refine XW.fam (S' := (51, [(0, .ref 1), (1, .int what), (2, .int n)], [.int (I 1 1), .ref 2], (sh, I, L, R))) (M := mr_14) rfl (show mcode 14 48 = some (48, .getfield 33, 3, 1, 1, 0, _) from rfl) (Or.inr (Or.inr (Or.inr (Or.inr (Or.inr (Or.inr (Or.inr (Or.inl ⟨_, _, rfl, fl_ldI c1 (by decide) (by decide), rfl⟩)))))))) ?_
          rw [em]
          refine XW.fam (S' := (52, [(0, .ref 1), (1, .int what), (2, .int n)], [.int what, .int m, .ref 2], (sh, I, L, R))) (M := mr_14) rfl (show mcode 14 51 = some (51, .iload_n 1, 1, 0, 0, 0, _) from rfl) (Or.inl ⟨.int what, rfl, rfl⟩) ?_
          refine XW.fam (S' := (54, [(0, .ref 1), (1, .int what), (2, .int n)], [.int 10, .int what, .int m, .ref 2], (sh, I, L, R))) (M := mr_14) rfl (show mcode 14 52 = some (52, .bipush 10, 2, 0, 0, 0, _) from rfl) (Or.inl ⟨.int 10, rfl, rfl⟩) ?_
          refine XW.fam (S' := (55, [(0, .ref 1), (1, .int what), (2, .int n)], [.int (what / 10), .int m, .ref 2], (sh, I, L, R))) (M := mr_14) rfl (show mcode 14 54 = some (54, .idiv, 1, 0, 0, 0, _) from rfl) (Or.inr (Or.inr (Or.inr (Or.inr (Or.inr (Or.inl ⟨_, stk_bin (by simp only [ibin]; rw [if_neg (by decide)]), rfl⟩)))))) ?_
          have hin5 : inR m 20 = true := inR_of (by omega) (by omega)
          obtain ⟨I6, eI6⟩ : ∃ X, X = up2 I 2 (m).toNatClampNeg (what / 10) := ⟨_, rfl⟩
          refine XW.fam (S' := (56, [(0, .ref 1), (1, .int what), (2, .int n)], [], (sh, I6, L, R))) (M := mr_14) rfl (show mcode 14 55 = some (55, .iastore, 1, 0, 0, 0, _) from rfl) (Or.inr (Or.inr (Or.inr (Or.inl ⟨_, _, by rw [eI6]; exact sta_i c2 hin5, rfl⟩)))) ?_
          have xd := dv10 (x := what) (by omega)
          have hwI6 : wOK (mkT vV []) (wE sh R) (sh, I6, L, R) := by rw [eI6]; exact wOK_u2 (q := 2) (k := (m).toNatClampNeg) (x := (what / 10)) wE_put hw rfl (by show (0 : Int) ≤ _; omega) (by show _ ≤ (8 : Int); omega)
          have hfI6 : fresh (sh, I6, L, R) := by rw [eI6]; exact fresh_I hf c2
          have v7 : I6 1 1 = m := by rw [eI6, up2_ne (fun e => by cases e.1)]; exact em
          have v8 : I6 2 (m).toNatClampNeg = (what / 10) := by rw [eI6]; exact up2_eq
          refine XW.fam (S' := (57, [(0, .ref 1), (1, .int what), (2, .int n)], [.ref 1], (sh, I6, L, R))) (M := mr_14) rfl (show mcode 14 56 = some (56, .aload_n 0, 1, 0, 0, 0, _) from rfl) (Or.inl ⟨.ref 1, rfl, rfl⟩) ?_
          refine XW.fam (S' := (60, [(0, .ref 1), (1, .int what), (2, .int n)], [.ref 3], (sh, I6, L, R))) (M := mr_14) rfl (show mcode 14 57 = some (57, .getfield 15, 3, 1, 3, 0, _) from rfl) (Or.inr (Or.inr (Or.inr (Or.inr (Or.inr (Or.inr (Or.inr (Or.inl ⟨_, _, rfl, fl_ld c1 r1_3 (by decide) (by decide), rfl⟩)))))))) ?_
          refine XW.fam (S' := (61, [(0, .ref 1), (1, .int what), (2, .int n)], [.ref 1, .ref 3], (sh, I6, L, R))) (M := mr_14) rfl (show mcode 14 60 = some (60, .aload_n 0, 1, 0, 0, 0, _) from rfl) (Or.inl ⟨.ref 1, rfl, rfl⟩) ?_
          refine XW.fam (S' := (64, [(0, .ref 1), (1, .int what), (2, .int n)], [.int (I6 1 1), .ref 3], (sh, I6, L, R))) (M := mr_14) rfl (show mcode 14 61 = some (61, .getfield 33, 3, 1, 1, 0, _) from rfl) (Or.inr (Or.inr (Or.inr (Or.inr (Or.inr (Or.inr (Or.inr (Or.inl ⟨_, _, rfl, fl_ldI c1 (by decide) (by decide), rfl⟩)))))))) ?_
          rw [v7]
          refine XW.fam (S' := (65, [(0, .ref 1), (1, .int what), (2, .int n)], [.int what, .int m, .ref 3], (sh, I6, L, R))) (M := mr_14) rfl (show mcode 14 64 = some (64, .iload_n 1, 1, 0, 0, 0, _) from rfl) (Or.inl ⟨.int what, rfl, rfl⟩) ?_
          refine XW.fam (S' := (67, [(0, .ref 1), (1, .int what), (2, .int n)], [.int 10, .int what, .int m, .ref 3], (sh, I6, L, R))) (M := mr_14) rfl (show mcode 14 65 = some (65, .bipush 10, 2, 0, 0, 0, _) from rfl) (Or.inl ⟨.int 10, rfl, rfl⟩) ?_
          refine XW.fam (S' := (68, [(0, .ref 1), (1, .int what), (2, .int n)], [.int (what - what / 10 * 10), .int m, .ref 3], (sh, I6, L, R))) (M := mr_14) rfl (show mcode 14 67 = some (67, .irem, 1, 0, 0, 0, _) from rfl) (Or.inr (Or.inr (Or.inr (Or.inr (Or.inr (Or.inl ⟨_, stk_bin (by simp only [ibin]; rw [if_neg (by decide)]), rfl⟩)))))) ?_
          have hin9 : inR m 20 = true := inR_of (by omega) (by omega)
          obtain ⟨I10, eI10⟩ : ∃ X, X = up2 I6 3 (m).toNatClampNeg (what - what / 10 * 10) := ⟨_, rfl⟩
          refine XW.fam (S' := (69, [(0, .ref 1), (1, .int what), (2, .int n)], [], (sh, I10, L, R))) (M := mr_14) rfl (show mcode 14 68 = some (68, .iastore, 1, 0, 0, 0, _) from rfl) (Or.inr (Or.inr (Or.inr (Or.inl ⟨_, _, by rw [eI10]; exact sta_i c3 hin9, rfl⟩)))) ?_
          have xr := rm10 (x := what) (by omega)
          have hwI10 : wOK (mkT vV []) (wE sh R) (sh, I10, L, R) := by rw [eI10]; exact wOK_u2 (q := 3) (k := (m).toNatClampNeg) (x := (what - what / 10 * 10)) wE_put hwI6 rfl (by show (0 : Int) ≤ _; omega) (by show _ ≤ (9 : Int); omega)
          have hfI10 : fresh (sh, I10, L, R) := by rw [eI10]; exact fresh_I hfI6 c3
          have v11 : I10 1 1 = m := by rw [eI10, up2_ne (fun e => by cases e.1)]; exact v7
          have v12 : I10 2 (m).toNatClampNeg = (what / 10) := by rw [eI10, up2_ne (fun e => by cases e.1)]; exact v8
          have v13 : I10 3 (m).toNatClampNeg = (what - what / 10 * 10) := by rw [eI10]; exact up2_eq
          refine XW.fam (S' := (70, [(0, .ref 1), (1, .int what), (2, .int n)], [.ref 1], (sh, I10, L, R))) (M := mr_14) rfl (show mcode 14 69 = some (69, .aload_n 0, 1, 0, 0, 0, _) from rfl) (Or.inl ⟨.ref 1, rfl, rfl⟩) ?_
          refine XW.fam (S' := (73, [(0, .ref 1), (1, .int what), (2, .int n)], [.ref 4], (sh, I10, L, R))) (M := mr_14) rfl (show mcode 14 70 = some (70, .getfield 18, 3, 1, 4, 0, _) from rfl) (Or.inr (Or.inr (Or.inr (Or.inr (Or.inr (Or.inr (Or.inr (Or.inl ⟨_, _, rfl, fl_ld c1 r1_4 (by decide) (by decide), rfl⟩)))))))) ?_
          refine XW.fam (S' := (74, [(0, .ref 1), (1, .int what), (2, .int n)], [.ref 1, .ref 4], (sh, I10, L, R))) (M := mr_14) rfl (show mcode 14 73 = some (73, .aload_n 0, 1, 0, 0, 0, _) from rfl) (Or.inl ⟨.ref 1, rfl, rfl⟩) ?_
          refine XW.fam (S' := (77, [(0, .ref 1), (1, .int what), (2, .int n)], [.int (I10 1 1), .ref 4], (sh, I10, L, R))) (M := mr_14) rfl (show mcode 14 74 = some (74, .getfield 33, 3, 1, 1, 0, _) from rfl) (Or.inr (Or.inr (Or.inr (Or.inr (Or.inr (Or.inr (Or.inr (Or.inl ⟨_, _, rfl, fl_ldI c1 (by decide) (by decide), rfl⟩)))))))) ?_
          rw [v11]
          refine XW.fam (S' := (78, [(0, .ref 1), (1, .int what), (2, .int n)], [.int n, .int m, .ref 4], (sh, I10, L, R))) (M := mr_14) rfl (show mcode 14 77 = some (77, .iload_n 2, 1, 0, 0, 0, _) from rfl) (Or.inl ⟨.int n, rfl, rfl⟩) ?_
          have hin14 : inR m 20 = true := inR_of (by omega) (by omega)
          obtain ⟨I15, eI15⟩ : ∃ X, X = up2 I10 4 (m).toNatClampNeg n := ⟨_, rfl⟩
          refine XW.fam (S' := (79, [(0, .ref 1), (1, .int what), (2, .int n)], [], (sh, I15, L, R))) (M := mr_14) rfl (show mcode 14 78 = some (78, .iastore, 1, 0, 0, 0, _) from rfl) (Or.inr (Or.inr (Or.inr (Or.inl ⟨_, _, by rw [eI15]; exact sta_i c4 hin14, rfl⟩)))) ?_
          have hwI15 : wOK (mkT vV []) (wE sh R) (sh, I15, L, R) := by rw [eI15]; exact wOK_u2 (q := 4) (k := (m).toNatClampNeg) (x := n) wE_put hwI10 rfl (by show (0 : Int) ≤ _; omega) (by show _ ≤ (999 : Int); omega)
          have hfI15 : fresh (sh, I15, L, R) := by rw [eI15]; exact fresh_I hfI10 c4
          have v16 : I15 1 1 = m := by rw [eI15, up2_ne (fun e => by cases e.1)]; exact v11
          have v17 : I15 2 (m).toNatClampNeg = (what / 10) := by rw [eI15, up2_ne (fun e => by cases e.1)]; exact v12
          have v18 : I15 3 (m).toNatClampNeg = (what - what / 10 * 10) := by rw [eI15, up2_ne (fun e => by cases e.1)]; exact v13
          have v19 : I15 4 (m).toNatClampNeg = n := by rw [eI15]; exact up2_eq
          refine XW.fam (S' := (80, [(0, .ref 1), (1, .int what), (2, .int n)], [.int 0], (sh, I15, L, R))) (M := mr_14) rfl (show mcode 14 79 = some (79, .iconst 0, 1, 0, 0, 0, _) from rfl) (Or.inl ⟨.int 0, rfl, rfl⟩) ?_
          refine XW.fam (S' := (81, [(3, .int 0), (0, .ref 1), (1, .int what), (2, .int n)], [], (sh, I15, L, R))) (M := mr_14) rfl (show mcode 14 80 = some (80, .istore_n 3, 1, 0, 0, 0, _) from rfl) (Or.inr (Or.inr (Or.inr (Or.inr (Or.inr (Or.inr (Or.inl ⟨_, [], _, rfl, rfl, rfl⟩))))))) ?_
          refine found_loop (d := d) (what := what) (n := n) (m := m) (by omega) (by omega) 21 hwI15 hfI15 v16 (by decide) (by omega) (fun Iz hwz hfz hkz tz => ?_) (by decide)
          have vz : Iz 1 1 = m := (hkz 1 1 (by decide)).trans v16
          refine XW.fam (S' := (126, [(3, .int tz), (0, .ref 1), (1, .int what), (2, .int n)], [.ref 1], (sh, Iz, L, R))) (M := mr_14) rfl (show mcode 14 125 = some (125, .aload_n 0, 1, 0, 0, 0, _) from rfl) (Or.inl ⟨.ref 1, rfl, rfl⟩) ?_
          refine XW.fam (S' := (127, [(3, .int tz), (0, .ref 1), (1, .int what), (2, .int n)], [.ref 1, .ref 1], (sh, Iz, L, R))) (M := mr_14) rfl (show mcode 14 126 = some (126, .dup, 1, 0, 0, 0, _) from rfl) (Or.inr (Or.inr (Or.inr (Or.inr (Or.inr (Or.inl ⟨_, rfl, rfl⟩)))))) ?_
          refine XW.fam (S' := (130, [(3, .int tz), (0, .ref 1), (1, .int what), (2, .int n)], [.int (Iz 1 1), .ref 1], (sh, Iz, L, R))) (M := mr_14) rfl (show mcode 14 127 = some (127, .getfield 33, 3, 1, 1, 0, _) from rfl) (Or.inr (Or.inr (Or.inr (Or.inr (Or.inr (Or.inr (Or.inr (Or.inl ⟨_, _, rfl, fl_ldI c1 (by decide) (by decide), rfl⟩)))))))) ?_
          rw [vz]
          refine XW.fam (S' := (131, [(3, .int tz), (0, .ref 1), (1, .int what), (2, .int n)], [.int 1, .int m, .ref 1], (sh, Iz, L, R))) (M := mr_14) rfl (show mcode 14 130 = some (130, .iconst 1, 1, 0, 0, 0, _) from rfl) (Or.inl ⟨.int 1, rfl, rfl⟩) ?_
          refine XW.fam (S' := (132, [(3, .int tz), (0, .ref 1), (1, .int what), (2, .int n)], [.int (m + 1), .ref 1], (sh, Iz, L, R))) (M := mr_14) rfl (show mcode 14 131 = some (131, .iadd, 1, 0, 0, 0, _) from rfl) (Or.inr (Or.inr (Or.inr (Or.inr (Or.inr (Or.inl ⟨_, rfl, rfl⟩)))))) ?_
          obtain ⟨I20, eI20⟩ : ∃ X, X = up2 Iz 1 1 (m + 1) := ⟨_, rfl⟩
          refine XW.fam (S' := (135, [(3, .int tz), (0, .ref 1), (1, .int what), (2, .int n)], [], (sh, I20, L, R))) (M := mr_14) rfl (show mcode 14 132 = some (132, .putfield 33, 3, 1, 1, 0, _) from rfl) (Or.inr (Or.inr (Or.inr (Or.inr (Or.inr (Or.inr (Or.inr (Or.inr (Or.inl ⟨_, _, _, rfl, by rw [eI20]; exact stf_I c1 (by decide) (by decide) (by decide), rfl⟩))))))))) ?_
          have xi := inc32 (m := m) (by omega) (by omega)
          have hwI20 : wOK (mkT vV []) (wE sh R) (sh, I20, L, R) := by rw [eI20]; exact wOK_u2 (q := 1) (k := 1) (x := (m + 1)) wE_put hwz rfl (by show (0 : Int) ≤ _; omega) (by show _ ≤ (20 : Int); omega)
          have hfI20 : fresh (sh, I20, L, R) := by rw [eI20]; exact fresh_I hfz c1
          have v22 : I20 1 1 = (m + 1) := by rw [eI20]; exact up2_eq
          refine XW.fam (S' := (136, [(3, .int tz), (0, .ref 1), (1, .int what), (2, .int n)], [.ref 1], (sh, I20, L, R))) (M := mr_14) rfl (show mcode 14 135 = some (135, .aload_n 0, 1, 0, 0, 0, _) from rfl) (Or.inl ⟨.ref 1, rfl, rfl⟩) ?_
          refine XW.fam (S' := (139, [(3, .int tz), (0, .ref 1), (1, .int what), (2, .int n)], [.int (I20 1 1)], (sh, I20, L, R))) (M := mr_14) rfl (show mcode 14 136 = some (136, .getfield 33, 3, 1, 1, 0, _) from rfl) (Or.inr (Or.inr (Or.inr (Or.inr (Or.inr (Or.inr (Or.inr (Or.inl ⟨_, _, rfl, fl_ldI c1 (by decide) (by decide), rfl⟩)))))))) ?_
          rw [v22]
          refine XW.fam (S' := (140, [(3, .int tz), (0, .ref 1), (1, .int what), (2, .int n)], [.int 1, .int (m + 1)], (sh, I20, L, R))) (M := mr_14) rfl (show mcode 14 139 = some (139, .iconst 1, 1, 0, 0, 0, _) from rfl) (Or.inl ⟨.int 1, rfl, rfl⟩) ?_
          refine XW.fam (S' := (141, [(3, .int tz), (0, .ref 1), (1, .int what), (2, .int n)], [.int ((m + 1) - 1)], (sh, I20, L, R))) (M := mr_14) rfl (show mcode 14 140 = some (140, .isub, 1, 0, 0, 0, _) from rfl) (Or.inr (Or.inr (Or.inr (Or.inr (Or.inr (Or.inl ⟨_, rfl, rfl⟩)))))) ?_
          refine XW.ret (r := some (.int ((m + 1) - 1))) ⟨⟨.int, rfl, rfl⟩, by decide +kernel⟩ ?_
          have hkp : ∀ q k, inm mdPC q k = false → I20 q k = I q k := by
            intro q k h
            rw [eI20, up2_ne (fun e => by rw [e.1, e.2] at h; cases h), hkz q k (fun e => by rw [e] at h; cases h), eI15, up2_ne (fun e => by rw [e.1] at h; cases h), eI10, up2_ne (fun e => by rw [e.1] at h; cases h), eI6, up2_ne (fun e => by rw [e.1] at h; cases h)]
          have hrw : ∀ k, I20 3 k = I10 3 k := by
            intro k
            rw [eI20, up2_ne (fun e => by cases e.1), hkz 3 k (by decide), eI15, up2_ne (fun e => by cases e.1)]
          refine ⟨hfI20, ⟨sh, R, hwI20⟩, Or.inr (Or.inr ⟨by unfold okPl; omega, by show (I 1 1).toInt < 20; rw [em]; omega, ?_, ?_, ?_, fun k hk => ?_, hkp⟩)⟩
          · show some (Value.int _) = some (Value.int (I 1 1))
            rw [em, decr32]
          · show I20 1 1 = I 1 1 + 1
            rw [em]
            exact v22
          · show (I20 3 (I 1 1).toNatClampNeg).toInt = _
            rw [hrw, em, eI10, up2_eq]
            exact xr
          · have hk : ¬ k = (I 1 1).toNatClampNeg := hk
            rw [em] at hk
            show I20 3 k = I 3 k
            rw [hrw, eI10, up2_ne (fun e => hk e.2), eI6, up2_ne (fun e => by cases e.1)]
        | false =>
          have gk4 : ¬ ((m).toInt < 20) := icF (c := .lt) (a := (m).toInt) (b := 20) rfl (by decide) k4
          refine XW.fam (S' := (40, [(0, .ref 1), (1, .int what), (2, .int n)], [], (sh, I, L, R))) (M := mr_14) rfl (show mcode 14 37 = some (37, .if_icmp .lt 6, 3, 43, 0, 0, _) from rfl) (Or.inr (Or.inl ⟨40, [], by simp [brn, k4], rfl⟩)) ?_
          refine XW.fam (S' := (42, [(0, .ref 1), (1, .int what), (2, .int n)], [.int (-3)], (sh, I, L, R))) (M := mr_14) rfl (show mcode 14 40 = some (40, .bipush (-3), 2, 0, 0, 0, _) from rfl) (Or.inl ⟨.int (-3), rfl, rfl⟩) ?_
          refine XW.ret (r := some (.int (-3))) ⟨⟨.int, rfl, rfl⟩, by decide +kernel⟩ ?_
          exact ⟨hf, ⟨sh, R, hw⟩, Or.inr (Or.inl ⟨by unfold okPl; omega, by show 20 ≤ (I 1 1).toInt; rw [em]; omega, rfl, rfl⟩)⟩
theorem tc_placeC {d : Nat} {sh : List mE} {R : Nat → Nat → Option Nat} {w : mW} {what n : Int32} (hw : wOK (mkT vV []) (wE sh R) w) (hf : fresh w) : Tc 13 (d + 2) 0 0 [.ref 0, .int what, .int n] w (Qpl 1 1 3 mdPC what n w) := by
  obtain ⟨sh0, I, L, R0⟩ := w
  obtain rfl : sh = sh0 := hw.2.2.2.1.symm
  obtain rfl : R = R0 := hw.2.2.2.2.1.symm
  have c0 : sh[0]? = some (.inr 0) := hw.1 0 _ rfl
  have c1 : sh[1]? = some (.inr 1) := hw.1 1 _ rfl
  have r0_0 : R 0 0 = some 1 := hw.2.1 0 0 _ rfl
  refine Tc.of mr_13 rfl (show 3 ≤ mr_13.2.2.2.1 by decide) ?_
  refine XW.fam (S' := (1, [(0, .ref 0), (1, .int what), (2, .int n)], [.ref 0], (sh, I, L, R))) (M := mr_13) rfl (show mcode 13 0 = some (0, .aload_n 0, 1, 0, 0, 0, _) from rfl) (Or.inl ⟨.ref 0, rfl, rfl⟩) ?_
  refine XW.fam (S' := (4, [(0, .ref 0), (1, .int what), (2, .int n)], [.ref 1], (sh, I, L, R))) (M := mr_13) rfl (show mcode 13 1 = some (1, .getfield 10, 3, 0, 0, 0, _) from rfl) (Or.inr (Or.inr (Or.inr (Or.inr (Or.inr (Or.inr (Or.inr (Or.inl ⟨_, _, rfl, fl_ld c0 r0_0 (by decide) (by decide), rfl⟩)))))))) ?_
  refine XW.fam (S' := (5, [(0, .ref 0), (1, .int what), (2, .int n)], [.int what, .ref 1], (sh, I, L, R))) (M := mr_13) rfl (show mcode 13 4 = some (4, .iload_n 1, 1, 0, 0, 0, _) from rfl) (Or.inl ⟨.int what, rfl, rfl⟩) ?_
  refine XW.fam (S' := (6, [(0, .ref 0), (1, .int what), (2, .int n)], [.int n, .int what, .ref 1], (sh, I, L, R))) (M := mr_13) rfl (show mcode 13 5 = some (5, .iload_n 2, 1, 0, 0, 0, _) from rfl) (Or.inl ⟨.int n, rfl, rfl⟩) ?_
  refine XW.call (d' := d + 1) (mc' := 0) (ms' := 0) (av := [.ref 1, .int what, .int n]) (rest := []) (M := mr_13) (Ma := mr_14) rfl (show mcode 13 6 = some (6, .invokevirtual 96, 3, 14, 0, 0, _) from rfl) rfl (by decide) (by decide) ⟨rfl, 1, _, rfl, c1⟩ rfl rfl (show 0 ≤ 8 by decide) (tc_found (d := d) hw hf) (by omega) (Nat.zero_le _) (Nat.zero_le _) (fun rQ1 wQ1 Q1 => ?_)
  obtain ⟨yQ1, eyQ1⟩ := Qpl_int Q1
  subst eyQ1
  refine XW.ret (r := some (.int yQ1)) ⟨⟨.int, rfl, rfl⟩, by decide +kernel⟩ ?_
  exact Q1
theorem tc_placeM {d : Nat} {sh : List mE} {R : Nat → Nat → Option Nat} {w : mW} {what n : Int32} (hw : wOK (mkT vV []) (wE sh R) w) (hf : fresh w) : Tc 235 (d + 42) 0 0 [.ref 94, .int what, .int n] w (Qpl 94 2 96 mdPM what n w) := by
  obtain ⟨sh0, I, L, R0⟩ := w
  obtain rfl : sh = sh0 := hw.2.2.2.1.symm
  obtain rfl : R = R0 := hw.2.2.2.2.1.symm
  have c94 : sh[94]? = some (.inr 12) := hw.1 94 _ rfl
  have c95 : sh[95]? = some (.inl (.int, 20)) := hw.1 95 _ rfl
  have c96 : sh[96]? = some (.inl (.boolean, 20)) := hw.1 96 _ rfl
  have c97 : sh[97]? = some (.inl (.int, 20)) := hw.1 97 _ rfl
  have r94_3 : R 94 3 = some 95 := hw.2.1 94 3 _ rfl
  have r94_4 : R 94 4 = some 96 := hw.2.1 94 4 _ rfl
  have r94_5 : R 94 5 = some 97 := hw.2.1 94 5 _ rfl
  have zm3 : ((-3) : Int32).toInt = (-3) := rfl
  have zm1 : ((-1) : Int32).toInt = (-1) := rfl
  have z0 : (0 : Int32).toInt = 0 := rfl
  have z1 : (1 : Int32).toInt = 1 := rfl
  have z10 : (10 : Int32).toInt = 10 := rfl
  have z20 : (20 : Int32).toInt = 20 := rfl
  have z81 : (81 : Int32).toInt = 81 := rfl
  have z999 : (999 : Int32).toInt = 999 := rfl
  have hm : 0 ≤ (I 94 2).toInt ∧ (I 94 2).toInt ≤ 20 := hw.2.2.1 94 2
  obtain ⟨m, em⟩ : ∃ m, I 94 2 = m := ⟨_, rfl⟩
  rw [em] at hm
  refine Tc.of mr_235 rfl (show 3 ≤ mr_235.2.2.2.1 by decide) ?_
  refine XW.fam (S' := (1, [(0, .ref 94), (1, .int what), (2, .int n)], [.int what], (sh, I, L, R))) (M := mr_235) rfl (show mcode 235 0 = some (0, .iload_n 1, 1, 0, 0, 0, _) from rfl) (Or.inl ⟨.int what, rfl, rfl⟩) ?_
  refine XW.fam (S' := (2, [(0, .ref 94), (1, .int what), (2, .int n)], [.int 0, .int what], (sh, I, L, R))) (M := mr_235) rfl (show mcode 235 1 = some (1, .iconst 0, 1, 0, 0, 0, _) from rfl) (Or.inl ⟨.int 0, rfl, rfl⟩) ?_
  refine XW.fam (S' := (4, [(0, .ref 94), (1, .int what), (2, .int n)], [.int 81, .int 0, .int what], (sh, I, L, R))) (M := mr_235) rfl (show mcode 235 2 = some (2, .bipush 81, 2, 0, 0, 0, _) from rfl) (Or.inl ⟨.int 81, rfl, rfl⟩) ?_
  refine XW.call (d' := d) (mc' := 0) (ms' := 0) (av := [.int what, .int 0, .int 81]) (rest := []) (M := mr_235) (Ma := mr_236) rfl (show mcode 235 4 = some (4, .invokestatic 254, 3, 236, 0, 0, _) from rfl) rfl (by decide) (by decide) rfl rfl rfl (show 0 ≤ 8 by decide) (tc_inM) (by omega) (Nat.zero_le _) (Nat.zero_le _) (fun rQ1 wQ1 Q1 => ?_)
  obtain ⟨hQ1, rfl⟩ := Q1
  rcases hQ1 with ⟨rfl, gQ1⟩ | ⟨rfl, gQ1⟩
  · skip
    refine XW.fam (S' := (29, [(0, .ref 94), (1, .int what), (2, .int n)], [], (sh, I, L, R))) (M := mr_235) rfl (show mcode 235 7 = some (7, .ifCond .eq 22, 3, 29, 0, 0, _) from rfl) (Or.inr (Or.inl ⟨29, [], rfl, rfl⟩)) ?_
    refine XW.fam (S' := (30, [(0, .ref 94), (1, .int what), (2, .int n)], [.int (-1)], (sh, I, L, R))) (M := mr_235) rfl (show mcode 235 29 = some (29, .iconst (-1), 1, 0, 0, 0, _) from rfl) (Or.inl ⟨.int (-1), rfl, rfl⟩) ?_
    refine XW.ret (r := some (.int (-1))) ⟨⟨.int, rfl, rfl⟩, by decide +kernel⟩ ?_
    exact ⟨hf, ⟨sh, R, hw⟩, Or.inl ⟨fun q => by unfold okPl at q; omega, rfl, rfl⟩⟩
  · skip
    refine XW.fam (S' := (10, [(0, .ref 94), (1, .int what), (2, .int n)], [], (sh, I, L, R))) (M := mr_235) rfl (show mcode 235 7 = some (7, .ifCond .eq 22, 3, 29, 0, 0, _) from rfl) (Or.inr (Or.inl ⟨10, [], rfl, rfl⟩)) ?_
    refine XW.fam (S' := (11, [(0, .ref 94), (1, .int what), (2, .int n)], [.int what], (sh, I, L, R))) (M := mr_235) rfl (show mcode 235 10 = some (10, .iload_n 1, 1, 0, 0, 0, _) from rfl) (Or.inl ⟨.int what, rfl, rfl⟩) ?_
    refine XW.fam (S' := (13, [(0, .ref 94), (1, .int what), (2, .int n)], [.int 10, .int what], (sh, I, L, R))) (M := mr_235) rfl (show mcode 235 11 = some (11, .bipush 10, 2, 0, 0, 0, _) from rfl) (Or.inl ⟨.int 10, rfl, rfl⟩) ?_
    refine XW.fam (S' := (14, [(0, .ref 94), (1, .int what), (2, .int n)], [.int (what - what / 10 * 10)], (sh, I, L, R))) (M := mr_235) rfl (show mcode 235 13 = some (13, .irem, 1, 0, 0, 0, _) from rfl) (Or.inr (Or.inr (Or.inr (Or.inr (Or.inr (Or.inl ⟨_, stk_bin (by simp only [ibin]; rw [if_neg (by decide)]), rfl⟩)))))) ?_
    refine XW.fam (S' := (15, [(0, .ref 94), (1, .int what), (2, .int n)], [.int 1, .int (what - what / 10 * 10)], (sh, I, L, R))) (M := mr_235) rfl (show mcode 235 14 = some (14, .iconst 1, 1, 0, 0, 0, _) from rfl) (Or.inl ⟨.int 1, rfl, rfl⟩) ?_
    cases k2 : bcmp .gt (what - what / 10 * 10) 1 with
    | true =>
      have gk2 : 1 < ((what - what / 10 * 10)).toInt := icT (c := .gt) (a := ((what - what / 10 * 10)).toInt) (b := 1) rfl (by decide) k2
      refine XW.fam (S' := (29, [(0, .ref 94), (1, .int what), (2, .int n)], [], (sh, I, L, R))) (M := mr_235) rfl (show mcode 235 15 = some (15, .if_icmp .gt 14, 3, 29, 0, 0, _) from rfl) (Or.inr (Or.inl ⟨29, [], by simp [brn, k2], rfl⟩)) ?_
      refine XW.fam (S' := (30, [(0, .ref 94), (1, .int what), (2, .int n)], [.int (-1)], (sh, I, L, R))) (M := mr_235) rfl (show mcode 235 29 = some (29, .iconst (-1), 1, 0, 0, 0, _) from rfl) (Or.inl ⟨.int (-1), rfl, rfl⟩) ?_
      refine XW.ret (r := some (.int (-1))) ⟨⟨.int, rfl, rfl⟩, by decide +kernel⟩ ?_
      exact ⟨hf, ⟨sh, R, hw⟩, Or.inl ⟨fun q => by unfold okPl at q; omega, rfl, rfl⟩⟩
    | false =>
      have gk2 : ¬ (1 < ((what - what / 10 * 10)).toInt) := icF (c := .gt) (a := ((what - what / 10 * 10)).toInt) (b := 1) rfl (by decide) k2
      refine XW.fam (S' := (18, [(0, .ref 94), (1, .int what), (2, .int n)], [], (sh, I, L, R))) (M := mr_235) rfl (show mcode 235 15 = some (15, .if_icmp .gt 14, 3, 29, 0, 0, _) from rfl) (Or.inr (Or.inl ⟨18, [], by simp [brn, k2], rfl⟩)) ?_
      refine XW.fam (S' := (19, [(0, .ref 94), (1, .int what), (2, .int n)], [.int n], (sh, I, L, R))) (M := mr_235) rfl (show mcode 235 18 = some (18, .iload_n 2, 1, 0, 0, 0, _) from rfl) (Or.inl ⟨.int n, rfl, rfl⟩) ?_
      refine XW.fam (S' := (20, [(0, .ref 94), (1, .int what), (2, .int n)], [.int 1, .int n], (sh, I, L, R))) (M := mr_235) rfl (show mcode 235 19 = some (19, .iconst 1, 1, 0, 0, 0, _) from rfl) (Or.inl ⟨.int 1, rfl, rfl⟩) ?_
      refine XW.fam (S' := (23, [(0, .ref 94), (1, .int what), (2, .int n)], [.int 999, .int 1, .int n], (sh, I, L, R))) (M := mr_235) rfl (show mcode 235 20 = some (20, .sipush 999, 3, 0, 0, 0, _) from rfl) (Or.inl ⟨.int 999, rfl, rfl⟩) ?_
      refine XW.call (d' := d) (mc' := 0) (ms' := 0) (av := [.int n, .int 1, .int 999]) (rest := []) (M := mr_235) (Ma := mr_236) rfl (show mcode 235 23 = some (23, .invokestatic 254, 3, 236, 0, 0, _) from rfl) rfl (by decide) (by decide) rfl rfl rfl (show 0 ≤ 8 by decide) (tc_inM) (by omega) (Nat.zero_le _) (Nat.zero_le _) (fun rQ3 wQ3 Q3 => ?_)
      obtain ⟨hQ3, rfl⟩ := Q3
      rcases hQ3 with ⟨rfl, gQ3⟩ | ⟨rfl, gQ3⟩
      · skip
        refine XW.fam (S' := (29, [(0, .ref 94), (1, .int what), (2, .int n)], [], (sh, I, L, R))) (M := mr_235) rfl (show mcode 235 26 = some (26, .ifCond .ne 5, 3, 31, 0, 0, _) from rfl) (Or.inr (Or.inl ⟨29, [], rfl, rfl⟩)) ?_
        refine XW.fam (S' := (30, [(0, .ref 94), (1, .int what), (2, .int n)], [.int (-1)], (sh, I, L, R))) (M := mr_235) rfl (show mcode 235 29 = some (29, .iconst (-1), 1, 0, 0, 0, _) from rfl) (Or.inl ⟨.int (-1), rfl, rfl⟩) ?_
        refine XW.ret (r := some (.int (-1))) ⟨⟨.int, rfl, rfl⟩, by decide +kernel⟩ ?_
        exact ⟨hf, ⟨sh, R, hw⟩, Or.inl ⟨fun q => by unfold okPl at q; omega, rfl, rfl⟩⟩
      · skip
        refine XW.fam (S' := (31, [(0, .ref 94), (1, .int what), (2, .int n)], [], (sh, I, L, R))) (M := mr_235) rfl (show mcode 235 26 = some (26, .ifCond .ne 5, 3, 31, 0, 0, _) from rfl) (Or.inr (Or.inl ⟨31, [], rfl, rfl⟩)) ?_
        refine XW.fam (S' := (32, [(0, .ref 94), (1, .int what), (2, .int n)], [.ref 94], (sh, I, L, R))) (M := mr_235) rfl (show mcode 235 31 = some (31, .aload_n 0, 1, 0, 0, 0, _) from rfl) (Or.inl ⟨.ref 94, rfl, rfl⟩) ?_
        refine XW.fam (S' := (35, [(0, .ref 94), (1, .int what), (2, .int n)], [.int (I 94 2)], (sh, I, L, R))) (M := mr_235) rfl (show mcode 235 32 = some (32, .getfield 258, 3, 12, 2, 0, _) from rfl) (Or.inr (Or.inr (Or.inr (Or.inr (Or.inr (Or.inr (Or.inr (Or.inl ⟨_, _, rfl, fl_ldI c94 (by decide) (by decide), rfl⟩)))))))) ?_
        rw [em]
        refine XW.fam (S' := (37, [(0, .ref 94), (1, .int what), (2, .int n)], [.int 20, .int m], (sh, I, L, R))) (M := mr_235) rfl (show mcode 235 35 = some (35, .bipush 20, 2, 0, 0, 0, _) from rfl) (Or.inl ⟨.int 20, rfl, rfl⟩) ?_
        cases k4 : bcmp .ne m 20 with
        | true =>
          have gk4 : ¬ (m).toInt = 20 := icT (c := .ne) (a := (m).toInt) (b := 20) rfl (by decide) k4
          refine XW.fam (S' := (43, [(0, .ref 94), (1, .int what), (2, .int n)], [], (sh, I, L, R))) (M := mr_235) rfl (show mcode 235 37 = some (37, .if_icmp .ne 6, 3, 43, 0, 0, _) from rfl) (Or.inr (Or.inl ⟨43, [], by simp [brn, k4], rfl⟩)) ?_
          refine XW.fam (S' := (44, [(0, .ref 94), (1, .int what), (2, .int n)], [.ref 94], (sh, I, L, R))) (M := mr_235) rfl (show mcode 235 43 = some (43, .aload_n 0, 1, 0, 0, 0, _) from rfl) (Or.inl ⟨.ref 94, rfl, rfl⟩) ?_
          refine XW.fam (S' := (47, [(0, .ref 94), (1, .int what), (2, .int n)], [.ref 95], (sh, I, L, R))) (M := mr_235) rfl (show mcode 235 44 = some (44, .getfield 7, 3, 12, 3, 0, _) from rfl) (Or.inr (Or.inr (Or.inr (Or.inr (Or.inr (Or.inr (Or.inr (Or.inl ⟨_, _, rfl, fl_ld c94 r94_3 (by decide) (by decide), rfl⟩)))))))) ?_
          refine XW.fam (S' := (48, [(0, .ref 94), (1, .int what), (2, .int n)], [.ref 94, .ref 95], (sh, I, L, R))) (M := mr_235) rfl (show mcode 235 47 = some (47, .aload_n 0, 1, 0, 0, 0, _) from rfl) (Or.inl ⟨.ref 94, rfl, rfl⟩) ?_
          refine XW.fam (S' := (51, [(0, .ref 94), (1, .int what), (2, .int n)], [.int (I 94 2), .ref 95], (sh, I, L, R))) (M := mr_235) rfl (show mcode 235 48 = some (48, .getfield 258, 3, 12, 2, 0, _) from rfl) (Or.inr (Or.inr (Or.inr (Or.inr (Or.inr (Or.inr (Or.inr (Or.inl ⟨_, _, rfl, fl_ldI c94 (by decide) (by decide), rfl⟩)))))))) ?_
          rw [em]
          refine XW.fam (S' := (52, [(0, .ref 94), (1, .int what), (2, .int n)], [.int what, .int m, .ref 95], (sh, I, L, R))) (M := mr_235) rfl (show mcode 235 51 = some (51, .iload_n 1, 1, 0, 0, 0, _) from rfl) (Or.inl ⟨.int what, rfl, rfl⟩) ?_
          refine XW.fam (S' := (54, [(0, .ref 94), (1, .int what), (2, .int n)], [.int 10, .int what, .int m, .ref 95], (sh, I, L, R))) (M := mr_235) rfl (show mcode 235 52 = some (52, .bipush 10, 2, 0, 0, 0, _) from rfl) (Or.inl ⟨.int 10, rfl, rfl⟩) ?_
          refine XW.fam (S' := (55, [(0, .ref 94), (1, .int what), (2, .int n)], [.int (what / 10), .int m, .ref 95], (sh, I, L, R))) (M := mr_235) rfl (show mcode 235 54 = some (54, .idiv, 1, 0, 0, 0, _) from rfl) (Or.inr (Or.inr (Or.inr (Or.inr (Or.inr (Or.inl ⟨_, stk_bin (by simp only [ibin]; rw [if_neg (by decide)]), rfl⟩)))))) ?_
          have hin5 : inR m 20 = true := inR_of (by omega) (by omega)
          obtain ⟨I6, eI6⟩ : ∃ X, X = up2 I 95 (m).toNatClampNeg (what / 10) := ⟨_, rfl⟩
          refine XW.fam (S' := (56, [(0, .ref 94), (1, .int what), (2, .int n)], [], (sh, I6, L, R))) (M := mr_235) rfl (show mcode 235 55 = some (55, .iastore, 1, 0, 0, 0, _) from rfl) (Or.inr (Or.inr (Or.inr (Or.inl ⟨_, _, by rw [eI6]; exact sta_i c95 hin5, rfl⟩)))) ?_
          have xd := dv10 (x := what) (by omega)
          have hwI6 : wOK (mkT vV []) (wE sh R) (sh, I6, L, R) := by rw [eI6]; exact wOK_u2 (q := 95) (k := (m).toNatClampNeg) (x := (what / 10)) wE_put hw rfl (by show (0 : Int) ≤ _; omega) (by show _ ≤ (8 : Int); omega)
          have hfI6 : fresh (sh, I6, L, R) := by rw [eI6]; exact fresh_I hf c95
          have v7 : I6 94 2 = m := by rw [eI6, up2_ne (fun e => by cases e.1)]; exact em
          have v8 : I6 95 (m).toNatClampNeg = (what / 10) := by rw [eI6]; exact up2_eq
          refine XW.fam (S' := (57, [(0, .ref 94), (1, .int what), (2, .int n)], [.ref 94], (sh, I6, L, R))) (M := mr_235) rfl (show mcode 235 56 = some (56, .aload_n 0, 1, 0, 0, 0, _) from rfl) (Or.inl ⟨.ref 94, rfl, rfl⟩) ?_
          refine XW.fam (S' := (60, [(0, .ref 94), (1, .int what), (2, .int n)], [.ref 96], (sh, I6, L, R))) (M := mr_235) rfl (show mcode 235 57 = some (57, .getfield 13, 3, 12, 4, 0, _) from rfl) (Or.inr (Or.inr (Or.inr (Or.inr (Or.inr (Or.inr (Or.inr (Or.inl ⟨_, _, rfl, fl_ld c94 r94_4 (by decide) (by decide), rfl⟩)))))))) ?_
          refine XW.fam (S' := (61, [(0, .ref 94), (1, .int what), (2, .int n)], [.ref 94, .ref 96], (sh, I6, L, R))) (M := mr_235) rfl (show mcode 235 60 = some (60, .aload_n 0, 1, 0, 0, 0, _) from rfl) (Or.inl ⟨.ref 94, rfl, rfl⟩) ?_
          refine XW.fam (S' := (64, [(0, .ref 94), (1, .int what), (2, .int n)], [.int (I6 94 2), .ref 96], (sh, I6, L, R))) (M := mr_235) rfl (show mcode 235 61 = some (61, .getfield 258, 3, 12, 2, 0, _) from rfl) (Or.inr (Or.inr (Or.inr (Or.inr (Or.inr (Or.inr (Or.inr (Or.inl ⟨_, _, rfl, fl_ldI c94 (by decide) (by decide), rfl⟩)))))))) ?_
          rw [v7]
          refine XW.fam (S' := (65, [(0, .ref 94), (1, .int what), (2, .int n)], [.int what, .int m, .ref 96], (sh, I6, L, R))) (M := mr_235) rfl (show mcode 235 64 = some (64, .iload_n 1, 1, 0, 0, 0, _) from rfl) (Or.inl ⟨.int what, rfl, rfl⟩) ?_
          refine XW.fam (S' := (67, [(0, .ref 94), (1, .int what), (2, .int n)], [.int 10, .int what, .int m, .ref 96], (sh, I6, L, R))) (M := mr_235) rfl (show mcode 235 65 = some (65, .bipush 10, 2, 0, 0, 0, _) from rfl) (Or.inl ⟨.int 10, rfl, rfl⟩) ?_
          refine XW.fam (S' := (68, [(0, .ref 94), (1, .int what), (2, .int n)], [.int (what - what / 10 * 10), .int m, .ref 96], (sh, I6, L, R))) (M := mr_235) rfl (show mcode 235 67 = some (67, .irem, 1, 0, 0, 0, _) from rfl) (Or.inr (Or.inr (Or.inr (Or.inr (Or.inr (Or.inl ⟨_, stk_bin (by simp only [ibin]; rw [if_neg (by decide)]), rfl⟩)))))) ?_
          refine XW.fam (S' := (69, [(0, .ref 94), (1, .int what), (2, .int n)], [.int 1, .int (what - what / 10 * 10), .int m, .ref 96], (sh, I6, L, R))) (M := mr_235) rfl (show mcode 235 68 = some (68, .iconst 1, 1, 0, 0, 0, _) from rfl) (Or.inl ⟨.int 1, rfl, rfl⟩) ?_
          cases k9 : bcmp .ne (what - what / 10 * 10) 1 with
          | true =>
            have gk9 : ¬ ((what - what / 10 * 10)).toInt = 1 := icT (c := .ne) (a := ((what - what / 10 * 10)).toInt) (b := 1) rfl (by decide) k9
            refine XW.fam (S' := (76, [(0, .ref 94), (1, .int what), (2, .int n)], [.int m, .ref 96], (sh, I6, L, R))) (M := mr_235) rfl (show mcode 235 69 = some (69, .if_icmp .ne 7, 3, 76, 0, 0, _) from rfl) (Or.inr (Or.inl ⟨76, [.int m, .ref 96], by simp [brn, k9], rfl⟩)) ?_
            refine XW.fam (S' := (77, [(0, .ref 94), (1, .int what), (2, .int n)], [.int 0, .int m, .ref 96], (sh, I6, L, R))) (M := mr_235) rfl (show mcode 235 76 = some (76, .iconst 0, 1, 0, 0, 0, _) from rfl) (Or.inl ⟨.int 0, rfl, rfl⟩) ?_
            have hin10 : inR m 20 = true := inR_of (by omega) (by omega)
            have b12 : vp_nar .boolean (0 : Int32) = 0 := rfl
            obtain ⟨I11, eI11⟩ : ∃ X, X = up2 I6 96 (m).toNatClampNeg 0 := ⟨_, rfl⟩
            refine XW.fam (S' := (78, [(0, .ref 94), (1, .int what), (2, .int n)], [], (sh, I11, L, R))) (M := mr_235) rfl (show mcode 235 77 = some (77, .bastore, 1, 0, 0, 0, _) from rfl) (Or.inr (Or.inr (Or.inr (Or.inl ⟨_, _, by rw [eI11]; exact sta_z b12 c96 hin10, rfl⟩)))) ?_
            have xr := rm10 (x := what) (by omega)
            have hwI11 : wOK (mkT vV []) (wE sh R) (sh, I11, L, R) := by rw [eI11]; exact wOK_u2 (q := 96) (k := (m).toNatClampNeg) (x := 0) wE_put hwI6 rfl (by show (0 : Int) ≤ _; omega) (by show _ ≤ (1 : Int); omega)
            have hfI11 : fresh (sh, I11, L, R) := by rw [eI11]; exact fresh_I hfI6 c96
            have v13 : I11 94 2 = m := by rw [eI11, up2_ne (fun e => by cases e.1)]; exact v7
            have v14 : I11 95 (m).toNatClampNeg = (what / 10) := by rw [eI11, up2_ne (fun e => by cases e.1)]; exact v8
            have v15 : I11 96 (m).toNatClampNeg = 0 := by rw [eI11]; exact up2_eq
            refine XW.fam (S' := (79, [(0, .ref 94), (1, .int what), (2, .int n)], [.ref 94], (sh, I11, L, R))) (M := mr_235) rfl (show mcode 235 78 = some (78, .aload_n 0, 1, 0, 0, 0, _) from rfl) (Or.inl ⟨.ref 94, rfl, rfl⟩) ?_
            refine XW.fam (S' := (82, [(0, .ref 94), (1, .int what), (2, .int n)], [.ref 97], (sh, I11, L, R))) (M := mr_235) rfl (show mcode 235 79 = some (79, .getfield 17, 3, 12, 5, 0, _) from rfl) (Or.inr (Or.inr (Or.inr (Or.inr (Or.inr (Or.inr (Or.inr (Or.inl ⟨_, _, rfl, fl_ld c94 r94_5 (by decide) (by decide), rfl⟩)))))))) ?_
            refine XW.fam (S' := (83, [(0, .ref 94), (1, .int what), (2, .int n)], [.ref 94, .ref 97], (sh, I11, L, R))) (M := mr_235) rfl (show mcode 235 82 = some (82, .aload_n 0, 1, 0, 0, 0, _) from rfl) (Or.inl ⟨.ref 94, rfl, rfl⟩) ?_
            refine XW.fam (S' := (86, [(0, .ref 94), (1, .int what), (2, .int n)], [.int (I11 94 2), .ref 97], (sh, I11, L, R))) (M := mr_235) rfl (show mcode 235 83 = some (83, .getfield 258, 3, 12, 2, 0, _) from rfl) (Or.inr (Or.inr (Or.inr (Or.inr (Or.inr (Or.inr (Or.inr (Or.inl ⟨_, _, rfl, fl_ldI c94 (by decide) (by decide), rfl⟩)))))))) ?_
            rw [v13]
            refine XW.fam (S' := (87, [(0, .ref 94), (1, .int what), (2, .int n)], [.int n, .int m, .ref 97], (sh, I11, L, R))) (M := mr_235) rfl (show mcode 235 86 = some (86, .iload_n 2, 1, 0, 0, 0, _) from rfl) (Or.inl ⟨.int n, rfl, rfl⟩) ?_
            have hin16 : inR m 20 = true := inR_of (by omega) (by omega)
            obtain ⟨I17, eI17⟩ : ∃ X, X = up2 I11 97 (m).toNatClampNeg n := ⟨_, rfl⟩
            refine XW.fam (S' := (88, [(0, .ref 94), (1, .int what), (2, .int n)], [], (sh, I17, L, R))) (M := mr_235) rfl (show mcode 235 87 = some (87, .iastore, 1, 0, 0, 0, _) from rfl) (Or.inr (Or.inr (Or.inr (Or.inl ⟨_, _, by rw [eI17]; exact sta_i c97 hin16, rfl⟩)))) ?_
            have hwI17 : wOK (mkT vV []) (wE sh R) (sh, I17, L, R) := by rw [eI17]; exact wOK_u2 (q := 97) (k := (m).toNatClampNeg) (x := n) wE_put hwI11 rfl (by show (0 : Int) ≤ _; omega) (by show _ ≤ (999 : Int); omega)
            have hfI17 : fresh (sh, I17, L, R) := by rw [eI17]; exact fresh_I hfI11 c97
            have v18 : I17 94 2 = m := by rw [eI17, up2_ne (fun e => by cases e.1)]; exact v13
            have v19 : I17 95 (m).toNatClampNeg = (what / 10) := by rw [eI17, up2_ne (fun e => by cases e.1)]; exact v14
            have v20 : I17 96 (m).toNatClampNeg = 0 := by rw [eI17, up2_ne (fun e => by cases e.1)]; exact v15
            have v21 : I17 97 (m).toNatClampNeg = n := by rw [eI17]; exact up2_eq
            refine XW.fam (S' := (89, [(0, .ref 94), (1, .int what), (2, .int n)], [.ref 94], (sh, I17, L, R))) (M := mr_235) rfl (show mcode 235 88 = some (88, .aload_n 0, 1, 0, 0, 0, _) from rfl) (Or.inl ⟨.ref 94, rfl, rfl⟩) ?_
            refine XW.fam (S' := (90, [(0, .ref 94), (1, .int what), (2, .int n)], [.ref 94, .ref 94], (sh, I17, L, R))) (M := mr_235) rfl (show mcode 235 89 = some (89, .dup, 1, 0, 0, 0, _) from rfl) (Or.inr (Or.inr (Or.inr (Or.inr (Or.inr (Or.inl ⟨_, rfl, rfl⟩)))))) ?_
            refine XW.fam (S' := (93, [(0, .ref 94), (1, .int what), (2, .int n)], [.int (I17 94 2), .ref 94], (sh, I17, L, R))) (M := mr_235) rfl (show mcode 235 90 = some (90, .getfield 258, 3, 12, 2, 0, _) from rfl) (Or.inr (Or.inr (Or.inr (Or.inr (Or.inr (Or.inr (Or.inr (Or.inl ⟨_, _, rfl, fl_ldI c94 (by decide) (by decide), rfl⟩)))))))) ?_
            rw [v18]
            refine XW.fam (S' := (94, [(0, .ref 94), (1, .int what), (2, .int n)], [.int 1, .int m, .ref 94], (sh, I17, L, R))) (M := mr_235) rfl (show mcode 235 93 = some (93, .iconst 1, 1, 0, 0, 0, _) from rfl) (Or.inl ⟨.int 1, rfl, rfl⟩) ?_
            refine XW.fam (S' := (95, [(0, .ref 94), (1, .int what), (2, .int n)], [.int (m + 1), .ref 94], (sh, I17, L, R))) (M := mr_235) rfl (show mcode 235 94 = some (94, .iadd, 1, 0, 0, 0, _) from rfl) (Or.inr (Or.inr (Or.inr (Or.inr (Or.inr (Or.inl ⟨_, rfl, rfl⟩)))))) ?_
            obtain ⟨I22, eI22⟩ : ∃ X, X = up2 I17 94 2 (m + 1) := ⟨_, rfl⟩
            refine XW.fam (S' := (98, [(0, .ref 94), (1, .int what), (2, .int n)], [], (sh, I22, L, R))) (M := mr_235) rfl (show mcode 235 95 = some (95, .putfield 258, 3, 12, 2, 0, _) from rfl) (Or.inr (Or.inr (Or.inr (Or.inr (Or.inr (Or.inr (Or.inr (Or.inr (Or.inl ⟨_, _, _, rfl, by rw [eI22]; exact stf_I c94 (by decide) (by decide) (by decide), rfl⟩))))))))) ?_
            have xi := inc32 (m := m) (by omega) (by omega)
            have hwI22 : wOK (mkT vV []) (wE sh R) (sh, I22, L, R) := by rw [eI22]; exact wOK_u2 (q := 94) (k := 2) (x := (m + 1)) wE_put hwI17 rfl (by show (0 : Int) ≤ _; omega) (by show _ ≤ (20 : Int); omega)
            have hfI22 : fresh (sh, I22, L, R) := by rw [eI22]; exact fresh_I hfI17 c94
            have v24 : I22 95 (m).toNatClampNeg = (what / 10) := by rw [eI22, up2_ne (fun e => by cases e.1)]; exact v19
            have v25 : I22 96 (m).toNatClampNeg = 0 := by rw [eI22, up2_ne (fun e => by cases e.1)]; exact v20
            have v26 : I22 97 (m).toNatClampNeg = n := by rw [eI22, up2_ne (fun e => by cases e.1)]; exact v21
            have v27 : I22 94 2 = (m + 1) := by rw [eI22]; exact up2_eq
            refine XW.fam (S' := (99, [(0, .ref 94), (1, .int what), (2, .int n)], [.ref 94], (sh, I22, L, R))) (M := mr_235) rfl (show mcode 235 98 = some (98, .aload_n 0, 1, 0, 0, 0, _) from rfl) (Or.inl ⟨.ref 94, rfl, rfl⟩) ?_
            refine XW.call (d' := 41) (mc' := 0) (ms' := 0) (av := [.ref 94]) (rest := []) (M := mr_235) (Ma := mr_237) rfl (show mcode 235 99 = some (99, .invokevirtual 266, 3, 237, 0, 0, _) from rfl) rfl (by decide) (by decide) ⟨rfl, 94, _, rfl, c94⟩ rfl rfl (show 0 ≤ 8 by decide) (kk_228 [.ref 94] (sh, I22, L, R) hwI22 ⟨rfl, trivial⟩ (fun q hq => by cases hq) hfI22) (by omega) (Nat.zero_le _) (Nat.zero_le _) (fun rQ28 wQ28 Q28 => ?_)
            obtain ⟨hfQ28, hwQ28, hIQ28, hrQ28, -⟩ := Q28
            obtain rfl : rQ28 = none := hrQ28
            obtain ⟨shQ28, IQ28, LQ28, RQ28⟩ := wQ28
            obtain rfl : sh = shQ28 := hwQ28.2.2.2.1.symm
            obtain rfl : R = RQ28 := hwQ28.2.2.2.2.1.symm
            have vQ28 : IQ28 94 2 = m + 1 := (hIQ28 94 2 rfl).trans v27
            refine XW.fam (S' := (103, [(0, .ref 94), (1, .int what), (2, .int n)], [.ref 94], (sh, IQ28, LQ28, R))) (M := mr_235) rfl (show mcode 235 102 = some (102, .aload_n 0, 1, 0, 0, 0, _) from rfl) (Or.inl ⟨.ref 94, rfl, rfl⟩) ?_
            refine XW.fam (S' := (106, [(0, .ref 94), (1, .int what), (2, .int n)], [.int (IQ28 94 2)], (sh, IQ28, LQ28, R))) (M := mr_235) rfl (show mcode 235 103 = some (103, .getfield 258, 3, 12, 2, 0, _) from rfl) (Or.inr (Or.inr (Or.inr (Or.inr (Or.inr (Or.inr (Or.inr (Or.inl ⟨_, _, rfl, fl_ldI c94 (by decide) (by decide), rfl⟩)))))))) ?_
            rw [vQ28]
            refine XW.fam (S' := (107, [(0, .ref 94), (1, .int what), (2, .int n)], [.int 1, .int (m + 1)], (sh, IQ28, LQ28, R))) (M := mr_235) rfl (show mcode 235 106 = some (106, .iconst 1, 1, 0, 0, 0, _) from rfl) (Or.inl ⟨.int 1, rfl, rfl⟩) ?_
            refine XW.fam (S' := (108, [(0, .ref 94), (1, .int what), (2, .int n)], [.int ((m + 1) - 1)], (sh, IQ28, LQ28, R))) (M := mr_235) rfl (show mcode 235 107 = some (107, .isub, 1, 0, 0, 0, _) from rfl) (Or.inr (Or.inr (Or.inr (Or.inr (Or.inr (Or.inl ⟨_, rfl, rfl⟩)))))) ?_
            refine XW.ret (r := some (.int ((m + 1) - 1))) ⟨⟨.int, rfl, rfl⟩, by decide +kernel⟩ ?_
            have hkp : ∀ q k, inm mdPM q k = false → IQ28 q k = I q k := by
              intro q k h
              rw [(show IQ28 q k = I22 q k from hIQ28 q k (inm_one (fun e => by rw [e] at h; cases h))), eI22, up2_ne (fun e => by rw [e.1, e.2] at h; cases h), eI17, up2_ne (fun e => by rw [e.1] at h; cases h), eI11, up2_ne (fun e => by rw [e.1] at h; cases h), eI6, up2_ne (fun e => by rw [e.1] at h; cases h)]
            have hrw : ∀ k, IQ28 96 k = I11 96 k := by
              intro k
              rw [(show IQ28 96 k = I22 96 k from hIQ28 96 k rfl), eI22, up2_ne (fun e => by cases e.1), eI17, up2_ne (fun e => by cases e.1)]
            refine ⟨hfQ28, ⟨sh, R, hwQ28⟩, Or.inr (Or.inr ⟨by unfold okPl; omega, by show (I 94 2).toInt < 20; rw [em]; omega, ?_, ?_, ?_, fun k hk => ?_, hkp⟩)⟩
            · show some (Value.int _) = some (Value.int (I 94 2))
              rw [em, decr32]
            · show IQ28 94 2 = I 94 2 + 1
              rw [em]
              exact vQ28
            · show (IQ28 96 (I 94 2).toNatClampNeg).toInt = _
              rw [hrw, em, eI11, up2_eq]
              omega
            · have hk : ¬ k = (I 94 2).toNatClampNeg := hk
              rw [em] at hk
              show IQ28 96 k = I 96 k
              rw [hrw, eI11, up2_ne (fun e => hk e.2), eI6, up2_ne (fun e => by cases e.1)]
          | false =>
            have gk9 : ¬ (¬ ((what - what / 10 * 10)).toInt = 1) := icF (c := .ne) (a := ((what - what / 10 * 10)).toInt) (b := 1) rfl (by decide) k9
            refine XW.fam (S' := (72, [(0, .ref 94), (1, .int what), (2, .int n)], [.int m, .ref 96], (sh, I6, L, R))) (M := mr_235) rfl (show mcode 235 69 = some (69, .if_icmp .ne 7, 3, 76, 0, 0, _) from rfl) (Or.inr (Or.inl ⟨72, [.int m, .ref 96], by simp [brn, k9], rfl⟩)) ?_
            refine XW.fam (S' := (73, [(0, .ref 94), (1, .int what), (2, .int n)], [.int 1, .int m, .ref 96], (sh, I6, L, R))) (M := mr_235) rfl (show mcode 235 72 = some (72, .iconst 1, 1, 0, 0, 0, _) from rfl) (Or.inl ⟨.int 1, rfl, rfl⟩) ?_
            refine XW.fam (S' := (77, [(0, .ref 94), (1, .int what), (2, .int n)], [.int 1, .int m, .ref 96], (sh, I6, L, R))) (M := mr_235) rfl (show mcode 235 73 = some (73, .goto 4, 3, 77, 0, 0, _) from rfl) (Or.inr (Or.inl ⟨77, [.int 1, .int m, .ref 96], rfl, rfl⟩)) ?_
            have hin29 : inR m 20 = true := inR_of (by omega) (by omega)
            have b31 : vp_nar .boolean (1 : Int32) = 1 := rfl
            obtain ⟨I30, eI30⟩ : ∃ X, X = up2 I6 96 (m).toNatClampNeg 1 := ⟨_, rfl⟩
            refine XW.fam (S' := (78, [(0, .ref 94), (1, .int what), (2, .int n)], [], (sh, I30, L, R))) (M := mr_235) rfl (show mcode 235 77 = some (77, .bastore, 1, 0, 0, 0, _) from rfl) (Or.inr (Or.inr (Or.inr (Or.inl ⟨_, _, by rw [eI30]; exact sta_z b31 c96 hin29, rfl⟩)))) ?_
            have xr := rm10 (x := what) (by omega)
            have hwI30 : wOK (mkT vV []) (wE sh R) (sh, I30, L, R) := by rw [eI30]; exact wOK_u2 (q := 96) (k := (m).toNatClampNeg) (x := 1) wE_put hwI6 rfl (by show (0 : Int) ≤ _; omega) (by show _ ≤ (1 : Int); omega)
            have hfI30 : fresh (sh, I30, L, R) := by rw [eI30]; exact fresh_I hfI6 c96
            have v32 : I30 94 2 = m := by rw [eI30, up2_ne (fun e => by cases e.1)]; exact v7
            have v33 : I30 95 (m).toNatClampNeg = (what / 10) := by rw [eI30, up2_ne (fun e => by cases e.1)]; exact v8
            have v34 : I30 96 (m).toNatClampNeg = 1 := by rw [eI30]; exact up2_eq
            refine XW.fam (S' := (79, [(0, .ref 94), (1, .int what), (2, .int n)], [.ref 94], (sh, I30, L, R))) (M := mr_235) rfl (show mcode 235 78 = some (78, .aload_n 0, 1, 0, 0, 0, _) from rfl) (Or.inl ⟨.ref 94, rfl, rfl⟩) ?_
            refine XW.fam (S' := (82, [(0, .ref 94), (1, .int what), (2, .int n)], [.ref 97], (sh, I30, L, R))) (M := mr_235) rfl (show mcode 235 79 = some (79, .getfield 17, 3, 12, 5, 0, _) from rfl) (Or.inr (Or.inr (Or.inr (Or.inr (Or.inr (Or.inr (Or.inr (Or.inl ⟨_, _, rfl, fl_ld c94 r94_5 (by decide) (by decide), rfl⟩)))))))) ?_
            refine XW.fam (S' := (83, [(0, .ref 94), (1, .int what), (2, .int n)], [.ref 94, .ref 97], (sh, I30, L, R))) (M := mr_235) rfl (show mcode 235 82 = some (82, .aload_n 0, 1, 0, 0, 0, _) from rfl) (Or.inl ⟨.ref 94, rfl, rfl⟩) ?_
            refine XW.fam (S' := (86, [(0, .ref 94), (1, .int what), (2, .int n)], [.int (I30 94 2), .ref 97], (sh, I30, L, R))) (M := mr_235) rfl (show mcode 235 83 = some (83, .getfield 258, 3, 12, 2, 0, _) from rfl) (Or.inr (Or.inr (Or.inr (Or.inr (Or.inr (Or.inr (Or.inr (Or.inl ⟨_, _, rfl, fl_ldI c94 (by decide) (by decide), rfl⟩)))))))) ?_
            rw [v32]
            refine XW.fam (S' := (87, [(0, .ref 94), (1, .int what), (2, .int n)], [.int n, .int m, .ref 97], (sh, I30, L, R))) (M := mr_235) rfl (show mcode 235 86 = some (86, .iload_n 2, 1, 0, 0, 0, _) from rfl) (Or.inl ⟨.int n, rfl, rfl⟩) ?_
            have hin35 : inR m 20 = true := inR_of (by omega) (by omega)
            obtain ⟨I36, eI36⟩ : ∃ X, X = up2 I30 97 (m).toNatClampNeg n := ⟨_, rfl⟩
            refine XW.fam (S' := (88, [(0, .ref 94), (1, .int what), (2, .int n)], [], (sh, I36, L, R))) (M := mr_235) rfl (show mcode 235 87 = some (87, .iastore, 1, 0, 0, 0, _) from rfl) (Or.inr (Or.inr (Or.inr (Or.inl ⟨_, _, by rw [eI36]; exact sta_i c97 hin35, rfl⟩)))) ?_
            have hwI36 : wOK (mkT vV []) (wE sh R) (sh, I36, L, R) := by rw [eI36]; exact wOK_u2 (q := 97) (k := (m).toNatClampNeg) (x := n) wE_put hwI30 rfl (by show (0 : Int) ≤ _; omega) (by show _ ≤ (999 : Int); omega)
            have hfI36 : fresh (sh, I36, L, R) := by rw [eI36]; exact fresh_I hfI30 c97
            have v37 : I36 94 2 = m := by rw [eI36, up2_ne (fun e => by cases e.1)]; exact v32
            have v38 : I36 95 (m).toNatClampNeg = (what / 10) := by rw [eI36, up2_ne (fun e => by cases e.1)]; exact v33
            have v39 : I36 96 (m).toNatClampNeg = 1 := by rw [eI36, up2_ne (fun e => by cases e.1)]; exact v34
            have v40 : I36 97 (m).toNatClampNeg = n := by rw [eI36]; exact up2_eq
            refine XW.fam (S' := (89, [(0, .ref 94), (1, .int what), (2, .int n)], [.ref 94], (sh, I36, L, R))) (M := mr_235) rfl (show mcode 235 88 = some (88, .aload_n 0, 1, 0, 0, 0, _) from rfl) (Or.inl ⟨.ref 94, rfl, rfl⟩) ?_
            refine XW.fam (S' := (90, [(0, .ref 94), (1, .int what), (2, .int n)], [.ref 94, .ref 94], (sh, I36, L, R))) (M := mr_235) rfl (show mcode 235 89 = some (89, .dup, 1, 0, 0, 0, _) from rfl) (Or.inr (Or.inr (Or.inr (Or.inr (Or.inr (Or.inl ⟨_, rfl, rfl⟩)))))) ?_
            refine XW.fam (S' := (93, [(0, .ref 94), (1, .int what), (2, .int n)], [.int (I36 94 2), .ref 94], (sh, I36, L, R))) (M := mr_235) rfl (show mcode 235 90 = some (90, .getfield 258, 3, 12, 2, 0, _) from rfl) (Or.inr (Or.inr (Or.inr (Or.inr (Or.inr (Or.inr (Or.inr (Or.inl ⟨_, _, rfl, fl_ldI c94 (by decide) (by decide), rfl⟩)))))))) ?_
            rw [v37]
            refine XW.fam (S' := (94, [(0, .ref 94), (1, .int what), (2, .int n)], [.int 1, .int m, .ref 94], (sh, I36, L, R))) (M := mr_235) rfl (show mcode 235 93 = some (93, .iconst 1, 1, 0, 0, 0, _) from rfl) (Or.inl ⟨.int 1, rfl, rfl⟩) ?_
            refine XW.fam (S' := (95, [(0, .ref 94), (1, .int what), (2, .int n)], [.int (m + 1), .ref 94], (sh, I36, L, R))) (M := mr_235) rfl (show mcode 235 94 = some (94, .iadd, 1, 0, 0, 0, _) from rfl) (Or.inr (Or.inr (Or.inr (Or.inr (Or.inr (Or.inl ⟨_, rfl, rfl⟩)))))) ?_
            obtain ⟨I41, eI41⟩ : ∃ X, X = up2 I36 94 2 (m + 1) := ⟨_, rfl⟩
            refine XW.fam (S' := (98, [(0, .ref 94), (1, .int what), (2, .int n)], [], (sh, I41, L, R))) (M := mr_235) rfl (show mcode 235 95 = some (95, .putfield 258, 3, 12, 2, 0, _) from rfl) (Or.inr (Or.inr (Or.inr (Or.inr (Or.inr (Or.inr (Or.inr (Or.inr (Or.inl ⟨_, _, _, rfl, by rw [eI41]; exact stf_I c94 (by decide) (by decide) (by decide), rfl⟩))))))))) ?_
            have xi := inc32 (m := m) (by omega) (by omega)
            have hwI41 : wOK (mkT vV []) (wE sh R) (sh, I41, L, R) := by rw [eI41]; exact wOK_u2 (q := 94) (k := 2) (x := (m + 1)) wE_put hwI36 rfl (by show (0 : Int) ≤ _; omega) (by show _ ≤ (20 : Int); omega)
            have hfI41 : fresh (sh, I41, L, R) := by rw [eI41]; exact fresh_I hfI36 c94
            have v43 : I41 95 (m).toNatClampNeg = (what / 10) := by rw [eI41, up2_ne (fun e => by cases e.1)]; exact v38
            have v44 : I41 96 (m).toNatClampNeg = 1 := by rw [eI41, up2_ne (fun e => by cases e.1)]; exact v39
            have v45 : I41 97 (m).toNatClampNeg = n := by rw [eI41, up2_ne (fun e => by cases e.1)]; exact v40
            have v46 : I41 94 2 = (m + 1) := by rw [eI41]; exact up2_eq
            refine XW.fam (S' := (99, [(0, .ref 94), (1, .int what), (2, .int n)], [.ref 94], (sh, I41, L, R))) (M := mr_235) rfl (show mcode 235 98 = some (98, .aload_n 0, 1, 0, 0, 0, _) from rfl) (Or.inl ⟨.ref 94, rfl, rfl⟩) ?_
            refine XW.call (d' := 41) (mc' := 0) (ms' := 0) (av := [.ref 94]) (rest := []) (M := mr_235) (Ma := mr_237) rfl (show mcode 235 99 = some (99, .invokevirtual 266, 3, 237, 0, 0, _) from rfl) rfl (by decide) (by decide) ⟨rfl, 94, _, rfl, c94⟩ rfl rfl (show 0 ≤ 8 by decide) (kk_228 [.ref 94] (sh, I41, L, R) hwI41 ⟨rfl, trivial⟩ (fun q hq => by cases hq) hfI41) (by omega) (Nat.zero_le _) (Nat.zero_le _) (fun rQ47 wQ47 Q47 => ?_)
            obtain ⟨hfQ47, hwQ47, hIQ47, hrQ47, -⟩ := Q47
            obtain rfl : rQ47 = none := hrQ47
            obtain ⟨shQ47, IQ47, LQ47, RQ47⟩ := wQ47
            obtain rfl : sh = shQ47 := hwQ47.2.2.2.1.symm
            obtain rfl : R = RQ47 := hwQ47.2.2.2.2.1.symm
            have vQ47 : IQ47 94 2 = m + 1 := (hIQ47 94 2 rfl).trans v46
            refine XW.fam (S' := (103, [(0, .ref 94), (1, .int what), (2, .int n)], [.ref 94], (sh, IQ47, LQ47, R))) (M := mr_235) rfl (show mcode 235 102 = some (102, .aload_n 0, 1, 0, 0, 0, _) from rfl) (Or.inl ⟨.ref 94, rfl, rfl⟩) ?_
            refine XW.fam (S' := (106, [(0, .ref 94), (1, .int what), (2, .int n)], [.int (IQ47 94 2)], (sh, IQ47, LQ47, R))) (M := mr_235) rfl (show mcode 235 103 = some (103, .getfield 258, 3, 12, 2, 0, _) from rfl) (Or.inr (Or.inr (Or.inr (Or.inr (Or.inr (Or.inr (Or.inr (Or.inl ⟨_, _, rfl, fl_ldI c94 (by decide) (by decide), rfl⟩)))))))) ?_
            rw [vQ47]
            refine XW.fam (S' := (107, [(0, .ref 94), (1, .int what), (2, .int n)], [.int 1, .int (m + 1)], (sh, IQ47, LQ47, R))) (M := mr_235) rfl (show mcode 235 106 = some (106, .iconst 1, 1, 0, 0, 0, _) from rfl) (Or.inl ⟨.int 1, rfl, rfl⟩) ?_
            refine XW.fam (S' := (108, [(0, .ref 94), (1, .int what), (2, .int n)], [.int ((m + 1) - 1)], (sh, IQ47, LQ47, R))) (M := mr_235) rfl (show mcode 235 107 = some (107, .isub, 1, 0, 0, 0, _) from rfl) (Or.inr (Or.inr (Or.inr (Or.inr (Or.inr (Or.inl ⟨_, rfl, rfl⟩)))))) ?_
            refine XW.ret (r := some (.int ((m + 1) - 1))) ⟨⟨.int, rfl, rfl⟩, by decide +kernel⟩ ?_
            have hkp : ∀ q k, inm mdPM q k = false → IQ47 q k = I q k := by
              intro q k h
              rw [(show IQ47 q k = I41 q k from hIQ47 q k (inm_one (fun e => by rw [e] at h; cases h))), eI41, up2_ne (fun e => by rw [e.1, e.2] at h; cases h), eI36, up2_ne (fun e => by rw [e.1] at h; cases h), eI30, up2_ne (fun e => by rw [e.1] at h; cases h), eI6, up2_ne (fun e => by rw [e.1] at h; cases h)]
            have hrw : ∀ k, IQ47 96 k = I30 96 k := by
              intro k
              rw [(show IQ47 96 k = I41 96 k from hIQ47 96 k rfl), eI41, up2_ne (fun e => by cases e.1), eI36, up2_ne (fun e => by cases e.1)]
            refine ⟨hfQ47, ⟨sh, R, hwQ47⟩, Or.inr (Or.inr ⟨by unfold okPl; omega, by show (I 94 2).toInt < 20; rw [em]; omega, ?_, ?_, ?_, fun k hk => ?_, hkp⟩)⟩
            · show some (Value.int _) = some (Value.int (I 94 2))
              rw [em, decr32]
            · show IQ47 94 2 = I 94 2 + 1
              rw [em]
              exact vQ47
            · show (IQ47 96 (I 94 2).toNatClampNeg).toInt = _
              rw [hrw, em, eI30, up2_eq]
              omega
            · have hk : ¬ k = (I 94 2).toNatClampNeg := hk
              rw [em] at hk
              show IQ47 96 k = I 96 k
              rw [hrw, eI30, up2_ne (fun e => hk e.2), eI6, up2_ne (fun e => by cases e.1)]
        | false =>
          have gk4 : ¬ (¬ (m).toInt = 20) := icF (c := .ne) (a := (m).toInt) (b := 20) rfl (by decide) k4
          refine XW.fam (S' := (40, [(0, .ref 94), (1, .int what), (2, .int n)], [], (sh, I, L, R))) (M := mr_235) rfl (show mcode 235 37 = some (37, .if_icmp .ne 6, 3, 43, 0, 0, _) from rfl) (Or.inr (Or.inl ⟨40, [], by simp [brn, k4], rfl⟩)) ?_
          refine XW.fam (S' := (42, [(0, .ref 94), (1, .int what), (2, .int n)], [.int (-3)], (sh, I, L, R))) (M := mr_235) rfl (show mcode 235 40 = some (40, .bipush (-3), 2, 0, 0, 0, _) from rfl) (Or.inl ⟨.int (-3), rfl, rfl⟩) ?_
          refine XW.ret (r := some (.int (-3))) ⟨⟨.int, rfl, rfl⟩, by decide +kernel⟩ ?_
          exact ⟨hf, ⟨sh, R, hw⟩, Or.inr (Or.inl ⟨by unfold okPl; omega, by show 20 ≤ (I 94 2).toInt; rw [em]; omega, rfl, rfl⟩)⟩
