/-! ===== ship, post: a list grows (wip/genapp.py) ===== -/
theorem wOK_u3 {T : aT} {E : mW → Prop} {sh : List mE} {I : Nat → Nat → Int32} {L : Nat → Nat → Int64} {R : Nat → Nat → Option Nat} {q k : Nat} {x : Int32} (hw : wOK T E (sh, I, L, R)) (hE : E (sh, up2 I q k x, L, R)) (h1 : (rg T q k).1 ≤ x.toInt) (h2 : x.toInt ≤ (rg T q k).2) : wOK T E (sh, up2 I q k x, L, R) := by
  refine ⟨hw.1, hw.2.1, fun q' k' => ?_, hE⟩
  by_cases c : q' = q ∧ k' = k
  · obtain ⟨rfl, rfl⟩ := c
    have e : up2 I q' k' x q' k' = x := up2_eq
    dsimp only
    rw [e]
    exact ⟨h1, h2⟩
  · have e : up2 I q k x q' k' = I q' k' := up2_ne c
    dsimp only
    rw [e]
    exact hw.2.2.1 q' k'
/-- refused, no room, or the list is longer by one -/
def Qapp (qn kn : Nat) (cap : Int) (ok : Prop) (up : Int32) (md : aM) (w : mW) (r : Option Value) (w' : mW) : Prop := fresh w' ∧ (∃ sh R, wOK (mkT vV []) (wE sh R) w') ∧ ((¬ ok ∧ r = some (.int (-1)) ∧ w'.2.1 = w.2.1) ∨ (ok ∧ cap ≤ (w.2.1 qn kn).toInt ∧ r = some (.int (-3)) ∧ w'.2.1 = w.2.1) ∨ (ok ∧ (w.2.1 qn kn).toInt < cap ∧ r = some (.int (w.2.1 qn kn + up)) ∧ w'.2.1 qn kn = w.2.1 qn kn + 1 ∧ ∀ q k, inm md q k = false → w'.2.1 q k = w.2.1 q k))
theorem Qapp_int {qn kn : Nat} {cap : Int} {ok : Prop} {up : Int32} {md : aM} {w w' : mW} {r : Option Value} (h : Qapp qn kn cap ok up md w r w') : ∃ y : Int32, r = some (.int y) := by
  rcases h.2.2 with ⟨-, h, -⟩ | ⟨-, -, h, -⟩ | ⟨-, -, h, -⟩
  · exact ⟨_, h⟩
  · exact ⟨_, h⟩
  · exact ⟨_, h⟩
theorem Qapp_keep {qn kn : Nat} {cap : Int} {ok : Prop} {up : Int32} {md : aM} {w w' : mW} {r : Option Value} (h : Qapp qn kn cap ok up md w r w') : ∀ q k, inm md q k = false → w'.2.1 q k = w.2.1 q k := by
  intro q k hm
  rcases h.2.2 with ⟨-, -, h⟩ | ⟨-, -, -, h⟩ | ⟨-, -, -, -, h⟩
  · rw [h]
  · rw [h]
  · exact h q k hm
theorem app_like {qc kc qm km : Nat} {cap : Int} {okC okM : Prop} {up : Int32} {mdC mdM : aM} {w w1 w2 : mW} {r1 r2 : Option Value} (hn : w.2.1 qc kc = w.2.1 qm km) (ic : inm mdC qm km = false) (im : inm mdM qc kc = false) (h1 : Qapp qc kc cap okC up mdC w r1 w1) (h2 : Qapp qm km cap okM up mdM w1 r2 w2) (hok : okC ↔ okM) : r1 = r2 ∧ w2.2.1 qc kc = w2.2.1 qm km := by
  have k1 := Qapp_keep h1 qm km ic
  have k2 := Qapp_keep h2 qc kc im
  rcases h1.2.2 with ⟨n1, e1, f1⟩ | ⟨n1, m1, e1, f1⟩ | ⟨n1, m1, e1, f1, -⟩
  · rcases h2.2.2 with ⟨n2, e2, f2⟩ | ⟨n2, m2, e2, f2⟩ | ⟨n2, m2, e2, f2, -⟩
    · refine ⟨e1.trans e2.symm, ?_⟩
      rw [f2, f1]
      exact hn
    · exact absurd (hok.mpr n2) n1
    · exact absurd (hok.mpr n2) n1
  · rcases h2.2.2 with ⟨n2, e2, f2⟩ | ⟨n2, m2, e2, f2⟩ | ⟨n2, m2, e2, f2, -⟩
    · exact absurd (hok.mp n1) n2
    · refine ⟨e1.trans e2.symm, ?_⟩
      rw [f2, f1]
      exact hn
    · rw [k1, ← hn] at m2
      omega
  · rcases h2.2.2 with ⟨n2, e2, f2⟩ | ⟨n2, m2, e2, f2⟩ | ⟨n2, m2, e2, f2, -⟩
    · exact absurd (hok.mp n1) n2
    · rw [k1, ← hn] at m2
      omega
    · refine ⟨?_, ?_⟩
      · rw [e1, e2, k1, hn]
      · rw [k2, f1, f2, k1, hn]
def mdSC : aM := [(53, some 3), (54, none), (55, none), (56, none), (58, none)]
def mdSM : aM := [(94, some 60), (135, none), (136, none), (138, none), (139, none), (140, none)]
def mdTC : aM := [(66, some 3), (67, none), (68, none)]
def mdTM : aM := [(94, some 68), (142, none), (143, none)]
def okSC (I : Nat → Nat → Int32) (p n e : Int32) : Prop := ((0 ≤ p.toInt ∧ p.toInt < (I 1 1).toInt) ∧ (I 3 p.toNatClampNeg).toInt = 1) ∧ (1 ≤ n.toInt ∧ n.toInt ≤ 60) ∧ (2 ≤ e.toInt ∧ e.toInt ≤ 30)
def okSM (I : Nat → Nat → Int32) (p n e : Int32) : Prop := ((0 ≤ p.toInt ∧ p.toInt ≤ (I 94 2).toInt - 1) ∧ ¬ (I 96 p.toNatClampNeg).toInt = 0) ∧ (1 ≤ n.toInt ∧ n.toInt ≤ 60) ∧ (2 ≤ e.toInt ∧ e.toInt ≤ 30)
def okTC (I : Nat → Nat → Int32) (p n : Int32) : Prop := (0 ≤ p.toInt ∧ p.toInt < (I 1 1).toInt) ∧ (0 ≤ n.toInt ∧ n.toInt ≤ 999) ∧ (1 ≤ (n / 10 - n / 10 / 10 * 10).toInt ∧ (n / 10 - n / 10 / 10 * 10).toInt ≤ 3)
def okTM (I : Nat → Nat → Int32) (p n : Int32) : Prop := (0 ≤ p.toInt ∧ p.toInt ≤ (I 94 2).toInt - 1) ∧ (10 ≤ n.toInt ∧ n.toInt ≤ 939) ∧ (1 ≤ (n / 10 - n / 10 / 10 * 10).toInt ∧ (n / 10 - n / 10 / 10 * 10).toInt ≤ 3)
theorem ship_ok {w w1 : mW} {p n e : Int32} (h1 : w1.2.1 94 2 = w.2.1 94 2) (h2 : ∀ k, w1.2.1 96 k = w.2.1 96 k) (hn : w.2.1 1 1 = w.2.1 94 2) (hK : ∀ k, w.2.1 3 k = w.2.1 96 k) (hb : ∀ k, 0 ≤ (w1.2.1 96 k).toInt ∧ (w1.2.1 96 k).toInt ≤ 1) : okSC w.2.1 p n e ↔ okSM w1.2.1 p n e := by
  have hb' := hb p.toNatClampNeg
  unfold okSC okSM
  rw [h2] at hb' ⊢
  rw [h1, hn, hK]
  constructor
  · intro h
    omega
  · intro h
    omega
theorem men_of {n : Int32} (h : 0 ≤ n.toInt) : (n / 10 - n / 10 / 10 * 10).toInt = n.toInt / 10 % 10 := by
  have e1 := dv10 h
  have e2 := rm10 (x := n / 10) (by omega)
  rw [e2, e1]
theorem post_ok {w w1 : mW} {p n : Int32} (h1 : w1.2.1 94 2 = w.2.1 94 2) (hn : w.2.1 1 1 = w.2.1 94 2) : okTC w.2.1 p n ↔ okTM w1.2.1 p n := by
  unfold okTC okTM
  rw [h1, hn]
  constructor
  · intro h
    have e := men_of (n := n) (by omega)
    omega
  · intro h
    omega
theorem tc_isPlC {d : Nat} {sh : List mE} {I : Nat → Nat → Int32} {L : Nat → Nat → Int64} {R : Nat → Nat → Option Nat} {p : Int32} (hw : wOK (mkT vV []) (wE sh R) (sh, I, L, R)) : Tc 19 (d) 0 0 [.ref 1, .int p] (sh, I, L, R) (fun r w' => ((r = some (.int 0) ∧ ¬ (0 ≤ p.toInt ∧ p.toInt < (I 1 1).toInt)) ∨ (r = some (.int 1) ∧ 0 ≤ p.toInt ∧ p.toInt < (I 1 1).toInt)) ∧ w' = (sh, I, L, R)) := by
  have c1 : sh[1]? = some (.inr 1) := hw.1 1 _ rfl
  have z0 : (0 : Int32).toInt = 0 := rfl
  have z1 : (1 : Int32).toInt = 1 := rfl
  have hm : 0 ≤ (I 1 1).toInt ∧ (I 1 1).toInt ≤ 20 := hw.2.2.1 1 1
  refine Tc.of mr_19 rfl (show 2 ≤ mr_19.2.2.2.1 by decide) ?_
  refine XW.fam (S' := (1, [(0, .ref 1), (1, .int p)], [.int p], (sh, I, L, R))) (M := mr_19) rfl (show mcode 19 0 = some (0, .iload_n 1, 1, 0, 0, 0, _) from rfl) (Or.inl ⟨.int p, rfl, rfl⟩) ?_
  cases k1 : bcmp .lt p 0 with
  | true =>
    have gk1 : (p).toInt < 0 := icT (c := .lt) (a := (p).toInt) (b := 0) rfl (by decide) k1
    refine XW.fam (S' := (16, [(0, .ref 1), (1, .int p)], [], (sh, I, L, R))) (M := mr_19) rfl (show mcode 19 1 = some (1, .ifCond .lt 15, 3, 16, 0, 0, _) from rfl) (Or.inr (Or.inl ⟨16, [], by simp [brn, k1], rfl⟩)) ?_
    refine XW.fam (S' := (17, [(0, .ref 1), (1, .int p)], [.int 0], (sh, I, L, R))) (M := mr_19) rfl (show mcode 19 16 = some (16, .iconst 0, 1, 0, 0, 0, _) from rfl) (Or.inl ⟨.int 0, rfl, rfl⟩) ?_
    refine XW.ret (r := some (.int 0)) ⟨⟨.boolean, rfl, rfl⟩, by decide +kernel⟩ ?_
    exact ⟨Or.inl ⟨rfl, fun q => by omega⟩, rfl⟩
  | false =>
    have gk1 : ¬ ((p).toInt < 0) := icF (c := .lt) (a := (p).toInt) (b := 0) rfl (by decide) k1
    refine XW.fam (S' := (4, [(0, .ref 1), (1, .int p)], [], (sh, I, L, R))) (M := mr_19) rfl (show mcode 19 1 = some (1, .ifCond .lt 15, 3, 16, 0, 0, _) from rfl) (Or.inr (Or.inl ⟨4, [], by simp [brn, k1], rfl⟩)) ?_
    refine XW.fam (S' := (5, [(0, .ref 1), (1, .int p)], [.int p], (sh, I, L, R))) (M := mr_19) rfl (show mcode 19 4 = some (4, .iload_n 1, 1, 0, 0, 0, _) from rfl) (Or.inl ⟨.int p, rfl, rfl⟩) ?_
    refine XW.fam (S' := (6, [(0, .ref 1), (1, .int p)], [.ref 1, .int p], (sh, I, L, R))) (M := mr_19) rfl (show mcode 19 5 = some (5, .aload_n 0, 1, 0, 0, 0, _) from rfl) (Or.inl ⟨.ref 1, rfl, rfl⟩) ?_
    refine XW.fam (S' := (9, [(0, .ref 1), (1, .int p)], [.int (I 1 1), .int p], (sh, I, L, R))) (M := mr_19) rfl (show mcode 19 6 = some (6, .getfield 33, 3, 1, 1, 0, _) from rfl) (Or.inr (Or.inr (Or.inr (Or.inr (Or.inr (Or.inr (Or.inr (Or.inl ⟨_, _, rfl, fl_ldI c1 (by decide) (by decide), rfl⟩)))))))) ?_
    cases k2 : bcmp .ge p (I 1 1) with
    | true =>
      have gk2 : ((I 1 1)).toInt ≤ (p).toInt := icT (c := .ge) (a := (p).toInt) (b := ((I 1 1)).toInt) rfl rfl k2
      refine XW.fam (S' := (16, [(0, .ref 1), (1, .int p)], [], (sh, I, L, R))) (M := mr_19) rfl (show mcode 19 9 = some (9, .if_icmp .ge 7, 3, 16, 0, 0, _) from rfl) (Or.inr (Or.inl ⟨16, [], by simp [brn, k2], rfl⟩)) ?_
      refine XW.fam (S' := (17, [(0, .ref 1), (1, .int p)], [.int 0], (sh, I, L, R))) (M := mr_19) rfl (show mcode 19 16 = some (16, .iconst 0, 1, 0, 0, 0, _) from rfl) (Or.inl ⟨.int 0, rfl, rfl⟩) ?_
      refine XW.ret (r := some (.int 0)) ⟨⟨.boolean, rfl, rfl⟩, by decide +kernel⟩ ?_
      exact ⟨Or.inl ⟨rfl, fun q => by omega⟩, rfl⟩
    | false =>
      have gk2 : ¬ (((I 1 1)).toInt ≤ (p).toInt) := icF (c := .ge) (a := (p).toInt) (b := ((I 1 1)).toInt) rfl rfl k2
      refine XW.fam (S' := (12, [(0, .ref 1), (1, .int p)], [], (sh, I, L, R))) (M := mr_19) rfl (show mcode 19 9 = some (9, .if_icmp .ge 7, 3, 16, 0, 0, _) from rfl) (Or.inr (Or.inl ⟨12, [], by simp [brn, k2], rfl⟩)) ?_
      refine XW.fam (S' := (13, [(0, .ref 1), (1, .int p)], [.int 1], (sh, I, L, R))) (M := mr_19) rfl (show mcode 19 12 = some (12, .iconst 1, 1, 0, 0, 0, _) from rfl) (Or.inl ⟨.int 1, rfl, rfl⟩) ?_
      refine XW.fam (S' := (17, [(0, .ref 1), (1, .int p)], [.int 1], (sh, I, L, R))) (M := mr_19) rfl (show mcode 19 13 = some (13, .goto 4, 3, 17, 0, 0, _) from rfl) (Or.inr (Or.inl ⟨17, [.int 1], rfl, rfl⟩)) ?_
      refine XW.ret (r := some (.int 1)) ⟨⟨.boolean, rfl, rfl⟩, by decide +kernel⟩ ?_
      exact ⟨Or.inr ⟨rfl, by omega⟩, rfl⟩
theorem tc_isPoC {d : Nat} {sh : List mE} {I : Nat → Nat → Int32} {L : Nat → Nat → Int64} {R : Nat → Nat → Option Nat} {p : Int32} (hw : wOK (mkT vV []) (wE sh R) (sh, I, L, R)) : Tc 128 (d + 1) 0 0 [.ref 1, .int p] (sh, I, L, R) (fun r w' => ((r = some (.int 0) ∧ ¬ ((0 ≤ p.toInt ∧ p.toInt < (I 1 1).toInt) ∧ (I 3 p.toNatClampNeg).toInt = 1)) ∨ (r = some (.int 1) ∧ (0 ≤ p.toInt ∧ p.toInt < (I 1 1).toInt) ∧ (I 3 p.toNatClampNeg).toInt = 1)) ∧ w' = (sh, I, L, R)) := by
  have c1 : sh[1]? = some (.inr 1) := hw.1 1 _ rfl
  have c3 : sh[3]? = some (.inl (.int, 20)) := hw.1 3 _ rfl
  have r1_3 : R 1 3 = some 3 := hw.2.1 1 3 _ rfl
  have z0 : (0 : Int32).toInt = 0 := rfl
  have z1 : (1 : Int32).toInt = 1 := rfl
  have hm : 0 ≤ (I 1 1).toInt ∧ (I 1 1).toInt ≤ 20 := hw.2.2.1 1 1
  refine Tc.of mr_128 rfl (show 2 ≤ mr_128.2.2.2.1 by decide) ?_
  refine XW.fam (S' := (1, [(0, .ref 1), (1, .int p)], [.ref 1], (sh, I, L, R))) (M := mr_128) rfl (show mcode 128 0 = some (0, .aload_n 0, 1, 0, 0, 0, _) from rfl) (Or.inl ⟨.ref 1, rfl, rfl⟩) ?_
  refine XW.fam (S' := (2, [(0, .ref 1), (1, .int p)], [.int p, .ref 1], (sh, I, L, R))) (M := mr_128) rfl (show mcode 128 1 = some (1, .iload_n 1, 1, 0, 0, 0, _) from rfl) (Or.inl ⟨.int p, rfl, rfl⟩) ?_
  refine XW.call (d' := d) (mc' := 0) (ms' := 0) (av := [.ref 1, .int p]) (rest := []) (M := mr_128) (Ma := mr_19) rfl (show mcode 128 2 = some (2, .invokevirtual 37, 3, 19, 0, 0, _) from rfl) rfl (by decide) (by decide) ⟨rfl, 1, _, rfl, c1⟩ rfl rfl (show 0 ≤ 8 by decide) (tc_isPlC (d := d) hw) (by omega) (Nat.zero_le _) (Nat.zero_le _) (fun rQ1 wQ1 Q1 => ?_)
  obtain ⟨hQ1, rfl⟩ := Q1
  rcases hQ1 with ⟨rfl, gQ1⟩ | ⟨rfl, gQ1⟩
  · skip
    refine XW.fam (S' := (22, [(0, .ref 1), (1, .int p)], [], (sh, I, L, R))) (M := mr_128) rfl (show mcode 128 5 = some (5, .ifCond .eq 17, 3, 22, 0, 0, _) from rfl) (Or.inr (Or.inl ⟨22, [], rfl, rfl⟩)) ?_
    refine XW.fam (S' := (23, [(0, .ref 1), (1, .int p)], [.int 0], (sh, I, L, R))) (M := mr_128) rfl (show mcode 128 22 = some (22, .iconst 0, 1, 0, 0, 0, _) from rfl) (Or.inl ⟨.int 0, rfl, rfl⟩) ?_
    refine XW.ret (r := some (.int 0)) ⟨⟨.boolean, rfl, rfl⟩, by decide +kernel⟩ ?_
    exact ⟨Or.inl ⟨rfl, fun q => by omega⟩, rfl⟩
  · skip
    refine XW.fam (S' := (8, [(0, .ref 1), (1, .int p)], [], (sh, I, L, R))) (M := mr_128) rfl (show mcode 128 5 = some (5, .ifCond .eq 17, 3, 22, 0, 0, _) from rfl) (Or.inr (Or.inl ⟨8, [], rfl, rfl⟩)) ?_
    refine XW.fam (S' := (9, [(0, .ref 1), (1, .int p)], [.ref 1], (sh, I, L, R))) (M := mr_128) rfl (show mcode 128 8 = some (8, .aload_n 0, 1, 0, 0, 0, _) from rfl) (Or.inl ⟨.ref 1, rfl, rfl⟩) ?_
    refine XW.fam (S' := (12, [(0, .ref 1), (1, .int p)], [.ref 3], (sh, I, L, R))) (M := mr_128) rfl (show mcode 128 9 = some (9, .getfield 15, 3, 1, 3, 0, _) from rfl) (Or.inr (Or.inr (Or.inr (Or.inr (Or.inr (Or.inr (Or.inr (Or.inl ⟨_, _, rfl, fl_ld c1 r1_3 (by decide) (by decide), rfl⟩)))))))) ?_
    refine XW.fam (S' := (13, [(0, .ref 1), (1, .int p)], [.int p, .ref 3], (sh, I, L, R))) (M := mr_128) rfl (show mcode 128 12 = some (12, .iload_n 1, 1, 0, 0, 0, _) from rfl) (Or.inl ⟨.int p, rfl, rfl⟩) ?_
    have hin2 : inR p 20 = true := inR_of (by omega) (by omega)
    refine XW.fam (S' := (14, [(0, .ref 1), (1, .int p)], [.int (I 3 (p).toNatClampNeg)], (sh, I, L, R))) (M := mr_128) rfl (show mcode 128 13 = some (13, .iaload, 1, 0, 0, 0, _) from rfl) (Or.inr (Or.inr (Or.inl ⟨_, lda_i c3 hin2, rfl⟩))) ?_
    refine XW.fam (S' := (15, [(0, .ref 1), (1, .int p)], [.int 1, .int (I 3 (p).toNatClampNeg)], (sh, I, L, R))) (M := mr_128) rfl (show mcode 128 14 = some (14, .iconst 1, 1, 0, 0, 0, _) from rfl) (Or.inl ⟨.int 1, rfl, rfl⟩) ?_
    cases k3 : bcmp .ne (I 3 (p).toNatClampNeg) 1 with
    | true =>
      have gk3 : ¬ ((I 3 (p).toNatClampNeg)).toInt = 1 := icT (c := .ne) (a := ((I 3 (p).toNatClampNeg)).toInt) (b := 1) rfl (by decide) k3
      refine XW.fam (S' := (22, [(0, .ref 1), (1, .int p)], [], (sh, I, L, R))) (M := mr_128) rfl (show mcode 128 15 = some (15, .if_icmp .ne 7, 3, 22, 0, 0, _) from rfl) (Or.inr (Or.inl ⟨22, [], by simp [brn, k3], rfl⟩)) ?_
      refine XW.fam (S' := (23, [(0, .ref 1), (1, .int p)], [.int 0], (sh, I, L, R))) (M := mr_128) rfl (show mcode 128 22 = some (22, .iconst 0, 1, 0, 0, 0, _) from rfl) (Or.inl ⟨.int 0, rfl, rfl⟩) ?_
      refine XW.ret (r := some (.int 0)) ⟨⟨.boolean, rfl, rfl⟩, by decide +kernel⟩ ?_
      exact ⟨Or.inl ⟨rfl, fun q => by omega⟩, rfl⟩
    | false =>
      have gk3 : ¬ (¬ ((I 3 (p).toNatClampNeg)).toInt = 1) := icF (c := .ne) (a := ((I 3 (p).toNatClampNeg)).toInt) (b := 1) rfl (by decide) k3
      refine XW.fam (S' := (18, [(0, .ref 1), (1, .int p)], [], (sh, I, L, R))) (M := mr_128) rfl (show mcode 128 15 = some (15, .if_icmp .ne 7, 3, 22, 0, 0, _) from rfl) (Or.inr (Or.inl ⟨18, [], by simp [brn, k3], rfl⟩)) ?_
      refine XW.fam (S' := (19, [(0, .ref 1), (1, .int p)], [.int 1], (sh, I, L, R))) (M := mr_128) rfl (show mcode 128 18 = some (18, .iconst 1, 1, 0, 0, 0, _) from rfl) (Or.inl ⟨.int 1, rfl, rfl⟩) ?_
      refine XW.fam (S' := (23, [(0, .ref 1), (1, .int p)], [.int 1], (sh, I, L, R))) (M := mr_128) rfl (show mcode 128 19 = some (19, .goto 4, 3, 23, 0, 0, _) from rfl) (Or.inr (Or.inl ⟨23, [.int 1], rfl, rfl⟩)) ?_
      refine XW.ret (r := some (.int 1)) ⟨⟨.boolean, rfl, rfl⟩, by decide +kernel⟩ ?_
      exact ⟨Or.inr ⟨rfl, by omega⟩, rfl⟩
theorem tc_isPlM {d : Nat} {sh : List mE} {I : Nat → Nat → Int32} {L : Nat → Nat → Int64} {R : Nat → Nat → Option Nat} {p : Int32} (hw : wOK (mkT vV []) (wE sh R) (sh, I, L, R)) : Tc 240 (d + 1) 0 0 [.ref 94, .int p] (sh, I, L, R) (fun r w' => ((r = some (.int 0) ∧ ¬ (0 ≤ p.toInt ∧ p.toInt ≤ (I 94 2).toInt - 1)) ∨ (r = some (.int 1) ∧ 0 ≤ p.toInt ∧ p.toInt ≤ (I 94 2).toInt - 1)) ∧ w' = (sh, I, L, R)) := by
  have c94 : sh[94]? = some (.inr 12) := hw.1 94 _ rfl
  have z0 : (0 : Int32).toInt = 0 := rfl
  have z1 : (1 : Int32).toInt = 1 := rfl
  have hm : 0 ≤ (I 94 2).toInt ∧ (I 94 2).toInt ≤ 20 := hw.2.2.1 94 2
  have xs := sub1I (m := I 94 2) (by omega) (by omega)
  refine Tc.of mr_240 rfl (show 2 ≤ mr_240.2.2.2.1 by decide) ?_
  refine XW.fam (S' := (1, [(0, .ref 94), (1, .int p)], [.int p], (sh, I, L, R))) (M := mr_240) rfl (show mcode 240 0 = some (0, .iload_n 1, 1, 0, 0, 0, _) from rfl) (Or.inl ⟨.int p, rfl, rfl⟩) ?_
  refine XW.fam (S' := (2, [(0, .ref 94), (1, .int p)], [.int 0, .int p], (sh, I, L, R))) (M := mr_240) rfl (show mcode 240 1 = some (1, .iconst 0, 1, 0, 0, 0, _) from rfl) (Or.inl ⟨.int 0, rfl, rfl⟩) ?_
  refine XW.fam (S' := (3, [(0, .ref 94), (1, .int p)], [.ref 94, .int 0, .int p], (sh, I, L, R))) (M := mr_240) rfl (show mcode 240 2 = some (2, .aload_n 0, 1, 0, 0, 0, _) from rfl) (Or.inl ⟨.ref 94, rfl, rfl⟩) ?_
  refine XW.fam (S' := (6, [(0, .ref 94), (1, .int p)], [.int (I 94 2), .int 0, .int p], (sh, I, L, R))) (M := mr_240) rfl (show mcode 240 3 = some (3, .getfield 258, 3, 12, 2, 0, _) from rfl) (Or.inr (Or.inr (Or.inr (Or.inr (Or.inr (Or.inr (Or.inr (Or.inl ⟨_, _, rfl, fl_ldI c94 (by decide) (by decide), rfl⟩)))))))) ?_
  refine XW.fam (S' := (7, [(0, .ref 94), (1, .int p)], [.int 1, .int (I 94 2), .int 0, .int p], (sh, I, L, R))) (M := mr_240) rfl (show mcode 240 6 = some (6, .iconst 1, 1, 0, 0, 0, _) from rfl) (Or.inl ⟨.int 1, rfl, rfl⟩) ?_
  refine XW.fam (S' := (8, [(0, .ref 94), (1, .int p)], [.int ((I 94 2) - 1), .int 0, .int p], (sh, I, L, R))) (M := mr_240) rfl (show mcode 240 7 = some (7, .isub, 1, 0, 0, 0, _) from rfl) (Or.inr (Or.inr (Or.inr (Or.inr (Or.inr (Or.inl ⟨_, rfl, rfl⟩)))))) ?_
  refine XW.call (d' := d) (mc' := 0) (ms' := 0) (av := [.int p, .int 0, .int ((I 94 2) - 1)]) (rest := []) (M := mr_240) (Ma := mr_236) rfl (show mcode 240 8 = some (8, .invokestatic 254, 3, 236, 0, 0, _) from rfl) rfl (by decide) (by decide) rfl rfl rfl (show 0 ≤ 8 by decide) (tc_inM) (by omega) (Nat.zero_le _) (Nat.zero_le _) (fun rQ1 wQ1 Q1 => ?_)
  obtain ⟨hQ1, rfl⟩ := Q1
  rcases hQ1 with ⟨rfl, gQ1⟩ | ⟨rfl, gQ1⟩
  · skip
    refine XW.ret (r := some (.int 0)) ⟨⟨.boolean, rfl, rfl⟩, by decide +kernel⟩ ?_
    exact ⟨Or.inl ⟨rfl, fun q => by omega⟩, rfl⟩
  · skip
    refine XW.ret (r := some (.int 1)) ⟨⟨.boolean, rfl, rfl⟩, by decide +kernel⟩ ?_
    exact ⟨Or.inr ⟨rfl, by omega⟩, rfl⟩
theorem tc_isPoM {d : Nat} {sh : List mE} {I : Nat → Nat → Int32} {L : Nat → Nat → Int64} {R : Nat → Nat → Option Nat} {p : Int32} (hw : wOK (mkT vV []) (wE sh R) (sh, I, L, R)) : Tc 309 (d + 2) 0 0 [.ref 94, .int p] (sh, I, L, R) (fun r w' => ((r = some (.int 0) ∧ ¬ ((0 ≤ p.toInt ∧ p.toInt ≤ (I 94 2).toInt - 1) ∧ ¬ (I 96 p.toNatClampNeg).toInt = 0)) ∨ (r = some (.int 1) ∧ (0 ≤ p.toInt ∧ p.toInt ≤ (I 94 2).toInt - 1) ∧ ¬ (I 96 p.toNatClampNeg).toInt = 0)) ∧ w' = (sh, I, L, R)) := by
  have c94 : sh[94]? = some (.inr 12) := hw.1 94 _ rfl
  have c96 : sh[96]? = some (.inl (.boolean, 20)) := hw.1 96 _ rfl
  have r94_4 : R 94 4 = some 96 := hw.2.1 94 4 _ rfl
  have z0 : (0 : Int32).toInt = 0 := rfl
  have z1 : (1 : Int32).toInt = 1 := rfl
  have hm : 0 ≤ (I 94 2).toInt ∧ (I 94 2).toInt ≤ 20 := hw.2.2.1 94 2
  refine Tc.of mr_309 rfl (show 2 ≤ mr_309.2.2.2.1 by decide) ?_
  refine XW.fam (S' := (1, [(0, .ref 94), (1, .int p)], [.ref 94], (sh, I, L, R))) (M := mr_309) rfl (show mcode 309 0 = some (0, .aload_n 0, 1, 0, 0, 0, _) from rfl) (Or.inl ⟨.ref 94, rfl, rfl⟩) ?_
  refine XW.fam (S' := (2, [(0, .ref 94), (1, .int p)], [.int p, .ref 94], (sh, I, L, R))) (M := mr_309) rfl (show mcode 309 1 = some (1, .iload_n 1, 1, 0, 0, 0, _) from rfl) (Or.inl ⟨.int p, rfl, rfl⟩) ?_
  refine XW.call (d' := d + 1) (mc' := 0) (ms' := 0) (av := [.ref 94, .int p]) (rest := []) (M := mr_309) (Ma := mr_240) rfl (show mcode 309 2 = some (2, .invokevirtual 269, 3, 240, 0, 0, _) from rfl) rfl (by decide) (by decide) ⟨rfl, 94, _, rfl, c94⟩ rfl rfl (show 0 ≤ 8 by decide) (tc_isPlM (d := d) hw) (by omega) (Nat.zero_le _) (Nat.zero_le _) (fun rQ1 wQ1 Q1 => ?_)
  obtain ⟨hQ1, rfl⟩ := Q1
  rcases hQ1 with ⟨rfl, gQ1⟩ | ⟨rfl, gQ1⟩
  · skip
    refine XW.fam (S' := (21, [(0, .ref 94), (1, .int p)], [], (sh, I, L, R))) (M := mr_309) rfl (show mcode 309 5 = some (5, .ifCond .eq 16, 3, 21, 0, 0, _) from rfl) (Or.inr (Or.inl ⟨21, [], rfl, rfl⟩)) ?_
    refine XW.fam (S' := (22, [(0, .ref 94), (1, .int p)], [.int 0], (sh, I, L, R))) (M := mr_309) rfl (show mcode 309 21 = some (21, .iconst 0, 1, 0, 0, 0, _) from rfl) (Or.inl ⟨.int 0, rfl, rfl⟩) ?_
    refine XW.ret (r := some (.int 0)) ⟨⟨.boolean, rfl, rfl⟩, by decide +kernel⟩ ?_
    exact ⟨Or.inl ⟨rfl, fun q => by omega⟩, rfl⟩
  · skip
    refine XW.fam (S' := (8, [(0, .ref 94), (1, .int p)], [], (sh, I, L, R))) (M := mr_309) rfl (show mcode 309 5 = some (5, .ifCond .eq 16, 3, 21, 0, 0, _) from rfl) (Or.inr (Or.inl ⟨8, [], rfl, rfl⟩)) ?_
    refine XW.fam (S' := (9, [(0, .ref 94), (1, .int p)], [.ref 94], (sh, I, L, R))) (M := mr_309) rfl (show mcode 309 8 = some (8, .aload_n 0, 1, 0, 0, 0, _) from rfl) (Or.inl ⟨.ref 94, rfl, rfl⟩) ?_
    refine XW.fam (S' := (12, [(0, .ref 94), (1, .int p)], [.ref 96], (sh, I, L, R))) (M := mr_309) rfl (show mcode 309 9 = some (9, .getfield 13, 3, 12, 4, 0, _) from rfl) (Or.inr (Or.inr (Or.inr (Or.inr (Or.inr (Or.inr (Or.inr (Or.inl ⟨_, _, rfl, fl_ld c94 r94_4 (by decide) (by decide), rfl⟩)))))))) ?_
    refine XW.fam (S' := (13, [(0, .ref 94), (1, .int p)], [.int p, .ref 96], (sh, I, L, R))) (M := mr_309) rfl (show mcode 309 12 = some (12, .iload_n 1, 1, 0, 0, 0, _) from rfl) (Or.inl ⟨.int p, rfl, rfl⟩) ?_
    have hin2 : inR p 20 = true := inR_of (by omega) (by omega)
    refine XW.fam (S' := (14, [(0, .ref 94), (1, .int p)], [.int (I 96 (p).toNatClampNeg)], (sh, I, L, R))) (M := mr_309) rfl (show mcode 309 13 = some (13, .baload, 1, 0, 0, 0, _) from rfl) (Or.inr (Or.inr (Or.inl ⟨_, lda_z c96 hin2, rfl⟩))) ?_
    cases k3 : bcmp .eq (I 96 (p).toNatClampNeg) 0 with
    | true =>
      have gk3 : ((I 96 (p).toNatClampNeg)).toInt = 0 := icT (c := .eq) (a := ((I 96 (p).toNatClampNeg)).toInt) (b := 0) rfl (by decide) k3
      refine XW.fam (S' := (21, [(0, .ref 94), (1, .int p)], [], (sh, I, L, R))) (M := mr_309) rfl (show mcode 309 14 = some (14, .ifCond .eq 7, 3, 21, 0, 0, _) from rfl) (Or.inr (Or.inl ⟨21, [], by simp [brn, k3], rfl⟩)) ?_
      refine XW.fam (S' := (22, [(0, .ref 94), (1, .int p)], [.int 0], (sh, I, L, R))) (M := mr_309) rfl (show mcode 309 21 = some (21, .iconst 0, 1, 0, 0, 0, _) from rfl) (Or.inl ⟨.int 0, rfl, rfl⟩) ?_
      refine XW.ret (r := some (.int 0)) ⟨⟨.boolean, rfl, rfl⟩, by decide +kernel⟩ ?_
      exact ⟨Or.inl ⟨rfl, fun q => by omega⟩, rfl⟩
    | false =>
      have gk3 : ¬ (((I 96 (p).toNatClampNeg)).toInt = 0) := icF (c := .eq) (a := ((I 96 (p).toNatClampNeg)).toInt) (b := 0) rfl (by decide) k3
      refine XW.fam (S' := (17, [(0, .ref 94), (1, .int p)], [], (sh, I, L, R))) (M := mr_309) rfl (show mcode 309 14 = some (14, .ifCond .eq 7, 3, 21, 0, 0, _) from rfl) (Or.inr (Or.inl ⟨17, [], by simp [brn, k3], rfl⟩)) ?_
      refine XW.fam (S' := (18, [(0, .ref 94), (1, .int p)], [.int 1], (sh, I, L, R))) (M := mr_309) rfl (show mcode 309 17 = some (17, .iconst 1, 1, 0, 0, 0, _) from rfl) (Or.inl ⟨.int 1, rfl, rfl⟩) ?_
      refine XW.fam (S' := (22, [(0, .ref 94), (1, .int p)], [.int 1], (sh, I, L, R))) (M := mr_309) rfl (show mcode 309 18 = some (18, .goto 4, 3, 22, 0, 0, _) from rfl) (Or.inr (Or.inl ⟨22, [.int 1], rfl, rfl⟩)) ?_
      refine XW.ret (r := some (.int 1)) ⟨⟨.boolean, rfl, rfl⟩, by decide +kernel⟩ ?_
      exact ⟨Or.inr ⟨rfl, by omega⟩, rfl⟩
theorem tc_menOf {d : Nat} {w : mW} {a : Int32} : Tc 165 d 0 0 [.int a] w (fun r w' => r = some (.int (a / 10 - a / 10 / 10 * 10)) ∧ w' = w) := by
  refine Tc.of mr_165 rfl (show 1 ≤ mr_165.2.2.2.1 by decide) ?_
  refine XW.fam (S' := (1, [(0, .int a)], [.int a], w)) (M := mr_165) rfl (show mcode 165 0 = some (0, .iload_n 0, 1, 0, 0, 0, _) from rfl) (Or.inl ⟨.int a, rfl, rfl⟩) ?_
  refine XW.fam (S' := (3, [(0, .int a)], [.int 10, .int a], w)) (M := mr_165) rfl (show mcode 165 1 = some (1, .bipush 10, 2, 0, 0, 0, _) from rfl) (Or.inl ⟨.int 10, rfl, rfl⟩) ?_
  refine XW.fam (S' := (4, [(0, .int a)], [.int (a / 10)], w)) (M := mr_165) rfl (show mcode 165 3 = some (3, .idiv, 1, 0, 0, 0, _) from rfl) (Or.inr (Or.inr (Or.inr (Or.inr (Or.inr (Or.inl ⟨_, stk_bin (by simp only [ibin]; rw [if_neg (by decide)]), rfl⟩)))))) ?_
  refine XW.fam (S' := (6, [(0, .int a)], [.int 10, .int (a / 10)], w)) (M := mr_165) rfl (show mcode 165 4 = some (4, .bipush 10, 2, 0, 0, 0, _) from rfl) (Or.inl ⟨.int 10, rfl, rfl⟩) ?_
  refine XW.fam (S' := (7, [(0, .int a)], [.int ((a / 10) - (a / 10) / 10 * 10)], w)) (M := mr_165) rfl (show mcode 165 6 = some (6, .irem, 1, 0, 0, 0, _) from rfl) (Or.inr (Or.inr (Or.inr (Or.inr (Or.inr (Or.inl ⟨_, stk_bin (by simp only [ibin]; rw [if_neg (by decide)]), rfl⟩)))))) ?_
  refine XW.ret (r := some (.int ((a / 10) - (a / 10) / 10 * 10))) ⟨⟨.int, rfl, rfl⟩, by decide +kernel⟩ ?_
  exact ⟨rfl, rfl⟩
theorem tc_addC {d : Nat} {sh : List mE} {I : Nat → Nat → Int32} {L : Nat → Nat → Int64} {R : Nat → Nat → Option Nat} {p n e : Int32} (hw : wOK (mkT vV []) (wE sh R) (sh, I, L, R)) (hf : fresh (sh, I, L, R)) : Tc 141 (d + 2) 0 0 [.ref 53, .int p, .int n, .int e] (sh, I, L, R) (Qapp 53 3 16 (okSC I p n e) 0 mdSC (sh, I, L, R)) := by
  have c1 : sh[1]? = some (.inr 1) := hw.1 1 _ rfl
  have c53 : sh[53]? = some (.inr 7) := hw.1 53 _ rfl
  have c54 : sh[54]? = some (.inl (.int, 16)) := hw.1 54 _ rfl
  have c55 : sh[55]? = some (.inl (.int, 16)) := hw.1 55 _ rfl
  have c56 : sh[56]? = some (.inl (.int, 16)) := hw.1 56 _ rfl
  have c58 : sh[58]? = some (.inl (.int, 16)) := hw.1 58 _ rfl
  have r53_0 : R 53 0 = some 1 := hw.2.1 53 0 _ rfl
  have r53_4 : R 53 4 = some 54 := hw.2.1 53 4 _ rfl
  have r53_5 : R 53 5 = some 55 := hw.2.1 53 5 _ rfl
  have r53_6 : R 53 6 = some 56 := hw.2.1 53 6 _ rfl
  have r53_8 : R 53 8 = some 58 := hw.2.1 53 8 _ rfl
  have zm3 : ((-3) : Int32).toInt = (-3) := rfl
  have zm1 : ((-1) : Int32).toInt = (-1) := rfl
  have z1 : (1 : Int32).toInt = 1 := rfl
  have z2 : (2 : Int32).toInt = 2 := rfl
  have z16 : (16 : Int32).toInt = 16 := rfl
  have z30 : (30 : Int32).toInt = 30 := rfl
  have z60 : (60 : Int32).toInt = 60 := rfl
  have hm : 0 ≤ (I 1 1).toInt ∧ (I 1 1).toInt ≤ 20 := hw.2.2.1 1 1
  have hmc : 0 ≤ (I 53 3).toInt ∧ (I 53 3).toInt ≤ 16 := hw.2.2.1 53 3
  obtain ⟨m, em⟩ : ∃ m, I 53 3 = m := ⟨_, rfl⟩
  rw [em] at hmc
  refine Tc.of mr_141 rfl (show 4 ≤ mr_141.2.2.2.1 by decide) ?_
  refine XW.fam (S' := (1, [(0, .ref 53), (1, .int p), (2, .int n), (3, .int e)], [.ref 53], (sh, I, L, R))) (M := mr_141) rfl (show mcode 141 0 = some (0, .aload_n 0, 1, 0, 0, 0, _) from rfl) (Or.inl ⟨.ref 53, rfl, rfl⟩) ?_
  refine XW.fam (S' := (4, [(0, .ref 53), (1, .int p), (2, .int n), (3, .int e)], [.ref 1], (sh, I, L, R))) (M := mr_141) rfl (show mcode 141 1 = some (1, .getfield 49, 3, 7, 0, 0, _) from rfl) (Or.inr (Or.inr (Or.inr (Or.inr (Or.inr (Or.inr (Or.inr (Or.inl ⟨_, _, rfl, fl_ld c53 r53_0 (by decide) (by decide), rfl⟩)))))))) ?_
  refine XW.fam (S' := (5, [(0, .ref 53), (1, .int p), (2, .int n), (3, .int e)], [.int p, .ref 1], (sh, I, L, R))) (M := mr_141) rfl (show mcode 141 4 = some (4, .iload_n 1, 1, 0, 0, 0, _) from rfl) (Or.inl ⟨.int p, rfl, rfl⟩) ?_
  refine XW.call (d' := d + 1) (mc' := 0) (ms' := 0) (av := [.ref 1, .int p]) (rest := []) (M := mr_141) (Ma := mr_128) rfl (show mcode 141 5 = some (5, .invokevirtual 69, 3, 128, 0, 0, _) from rfl) rfl (by decide) (by decide) ⟨rfl, 1, _, rfl, c1⟩ rfl rfl (show 0 ≤ 8 by decide) (tc_isPoC (d := d) hw) (by omega) (Nat.zero_le _) (Nat.zero_le _) (fun rQ1 wQ1 Q1 => ?_)
  obtain ⟨hQ1, rfl⟩ := Q1
  rcases hQ1 with ⟨rfl, gQ1⟩ | ⟨rfl, gQ1⟩
  · skip
    refine XW.fam (S' := (31, [(0, .ref 53), (1, .int p), (2, .int n), (3, .int e)], [], (sh, I, L, R))) (M := mr_141) rfl (show mcode 141 8 = some (8, .ifCond .eq 23, 3, 31, 0, 0, _) from rfl) (Or.inr (Or.inl ⟨31, [], rfl, rfl⟩)) ?_
    refine XW.fam (S' := (32, [(0, .ref 53), (1, .int p), (2, .int n), (3, .int e)], [.int (-1)], (sh, I, L, R))) (M := mr_141) rfl (show mcode 141 31 = some (31, .iconst (-1), 1, 0, 0, 0, _) from rfl) (Or.inl ⟨.int (-1), rfl, rfl⟩) ?_
    refine XW.ret (r := some (.int (-1))) ⟨⟨.int, rfl, rfl⟩, by decide +kernel⟩ ?_
    exact ⟨hf, ⟨sh, R, hw⟩, Or.inl ⟨fun q => by have q1 : okSC I p n e := q; unfold okSC at q1; omega, rfl, rfl⟩⟩
  · skip
    refine XW.fam (S' := (11, [(0, .ref 53), (1, .int p), (2, .int n), (3, .int e)], [], (sh, I, L, R))) (M := mr_141) rfl (show mcode 141 8 = some (8, .ifCond .eq 23, 3, 31, 0, 0, _) from rfl) (Or.inr (Or.inl ⟨11, [], rfl, rfl⟩)) ?_
    refine XW.fam (S' := (12, [(0, .ref 53), (1, .int p), (2, .int n), (3, .int e)], [.int n], (sh, I, L, R))) (M := mr_141) rfl (show mcode 141 11 = some (11, .iload_n 2, 1, 0, 0, 0, _) from rfl) (Or.inl ⟨.int n, rfl, rfl⟩) ?_
    refine XW.fam (S' := (13, [(0, .ref 53), (1, .int p), (2, .int n), (3, .int e)], [.int 1, .int n], (sh, I, L, R))) (M := mr_141) rfl (show mcode 141 12 = some (12, .iconst 1, 1, 0, 0, 0, _) from rfl) (Or.inl ⟨.int 1, rfl, rfl⟩) ?_
    refine XW.fam (S' := (15, [(0, .ref 53), (1, .int p), (2, .int n), (3, .int e)], [.int 60, .int 1, .int n], (sh, I, L, R))) (M := mr_141) rfl (show mcode 141 13 = some (13, .bipush 60, 2, 0, 0, 0, _) from rfl) (Or.inl ⟨.int 60, rfl, rfl⟩) ?_
    refine XW.call (d' := d) (mc' := 0) (ms' := 0) (av := [.int n, .int 1, .int 60]) (rest := []) (M := mr_141) (Ma := mr_15) rfl (show mcode 141 15 = some (15, .invokestatic 74, 3, 15, 1, 0, _) from rfl) rfl (by decide) (by decide) rfl rfl rfl (show 0 ≤ 8 by decide) (tc_inC) (by omega) (Nat.zero_le _) (Nat.zero_le _) (fun rQ2 wQ2 Q2 => ?_)
    obtain ⟨hQ2, rfl⟩ := Q2
    rcases hQ2 with ⟨rfl, gQ2⟩ | ⟨rfl, gQ2⟩
    · skip
      refine XW.fam (S' := (31, [(0, .ref 53), (1, .int p), (2, .int n), (3, .int e)], [], (sh, I, L, R))) (M := mr_141) rfl (show mcode 141 18 = some (18, .ifCond .eq 13, 3, 31, 0, 0, _) from rfl) (Or.inr (Or.inl ⟨31, [], rfl, rfl⟩)) ?_
      refine XW.fam (S' := (32, [(0, .ref 53), (1, .int p), (2, .int n), (3, .int e)], [.int (-1)], (sh, I, L, R))) (M := mr_141) rfl (show mcode 141 31 = some (31, .iconst (-1), 1, 0, 0, 0, _) from rfl) (Or.inl ⟨.int (-1), rfl, rfl⟩) ?_
      refine XW.ret (r := some (.int (-1))) ⟨⟨.int, rfl, rfl⟩, by decide +kernel⟩ ?_
      exact ⟨hf, ⟨sh, R, hw⟩, Or.inl ⟨fun q => by have q1 : okSC I p n e := q; unfold okSC at q1; omega, rfl, rfl⟩⟩
    · skip
      refine XW.fam (S' := (21, [(0, .ref 53), (1, .int p), (2, .int n), (3, .int e)], [], (sh, I, L, R))) (M := mr_141) rfl (show mcode 141 18 = some (18, .ifCond .eq 13, 3, 31, 0, 0, _) from rfl) (Or.inr (Or.inl ⟨21, [], rfl, rfl⟩)) ?_
      refine XW.fam (S' := (22, [(0, .ref 53), (1, .int p), (2, .int n), (3, .int e)], [.int e], (sh, I, L, R))) (M := mr_141) rfl (show mcode 141 21 = some (21, .iload_n 3, 1, 0, 0, 0, _) from rfl) (Or.inl ⟨.int e, rfl, rfl⟩) ?_
      refine XW.fam (S' := (23, [(0, .ref 53), (1, .int p), (2, .int n), (3, .int e)], [.int 2, .int e], (sh, I, L, R))) (M := mr_141) rfl (show mcode 141 22 = some (22, .iconst 2, 1, 0, 0, 0, _) from rfl) (Or.inl ⟨.int 2, rfl, rfl⟩) ?_
      refine XW.fam (S' := (25, [(0, .ref 53), (1, .int p), (2, .int n), (3, .int e)], [.int 30, .int 2, .int e], (sh, I, L, R))) (M := mr_141) rfl (show mcode 141 23 = some (23, .bipush 30, 2, 0, 0, 0, _) from rfl) (Or.inl ⟨.int 30, rfl, rfl⟩) ?_
      refine XW.call (d' := d) (mc' := 0) (ms' := 0) (av := [.int e, .int 2, .int 30]) (rest := []) (M := mr_141) (Ma := mr_15) rfl (show mcode 141 25 = some (25, .invokestatic 74, 3, 15, 1, 0, _) from rfl) rfl (by decide) (by decide) rfl rfl rfl (show 0 ≤ 8 by decide) (tc_inC) (by omega) (Nat.zero_le _) (Nat.zero_le _) (fun rQ3 wQ3 Q3 => ?_)
      obtain ⟨hQ3, rfl⟩ := Q3
      rcases hQ3 with ⟨rfl, gQ3⟩ | ⟨rfl, gQ3⟩
      · skip
        refine XW.fam (S' := (31, [(0, .ref 53), (1, .int p), (2, .int n), (3, .int e)], [], (sh, I, L, R))) (M := mr_141) rfl (show mcode 141 28 = some (28, .ifCond .ne 5, 3, 33, 0, 0, _) from rfl) (Or.inr (Or.inl ⟨31, [], rfl, rfl⟩)) ?_
        refine XW.fam (S' := (32, [(0, .ref 53), (1, .int p), (2, .int n), (3, .int e)], [.int (-1)], (sh, I, L, R))) (M := mr_141) rfl (show mcode 141 31 = some (31, .iconst (-1), 1, 0, 0, 0, _) from rfl) (Or.inl ⟨.int (-1), rfl, rfl⟩) ?_
        refine XW.ret (r := some (.int (-1))) ⟨⟨.int, rfl, rfl⟩, by decide +kernel⟩ ?_
        exact ⟨hf, ⟨sh, R, hw⟩, Or.inl ⟨fun q => by have q1 : okSC I p n e := q; unfold okSC at q1; omega, rfl, rfl⟩⟩
      · skip
        refine XW.fam (S' := (33, [(0, .ref 53), (1, .int p), (2, .int n), (3, .int e)], [], (sh, I, L, R))) (M := mr_141) rfl (show mcode 141 28 = some (28, .ifCond .ne 5, 3, 33, 0, 0, _) from rfl) (Or.inr (Or.inl ⟨33, [], rfl, rfl⟩)) ?_
        refine XW.fam (S' := (34, [(0, .ref 53), (1, .int p), (2, .int n), (3, .int e)], [.ref 53], (sh, I, L, R))) (M := mr_141) rfl (show mcode 141 33 = some (33, .aload_n 0, 1, 0, 0, 0, _) from rfl) (Or.inl ⟨.ref 53, rfl, rfl⟩) ?_
        refine XW.fam (S' := (37, [(0, .ref 53), (1, .int p), (2, .int n), (3, .int e)], [.int (I 53 3)], (sh, I, L, R))) (M := mr_141) rfl (show mcode 141 34 = some (34, .getfield 61, 3, 7, 3, 0, _) from rfl) (Or.inr (Or.inr (Or.inr (Or.inr (Or.inr (Or.inr (Or.inr (Or.inl ⟨_, _, rfl, fl_ldI c53 (by decide) (by decide), rfl⟩)))))))) ?_
        rw [em]
        refine XW.fam (S' := (39, [(0, .ref 53), (1, .int p), (2, .int n), (3, .int e)], [.int 16, .int m], (sh, I, L, R))) (M := mr_141) rfl (show mcode 141 37 = some (37, .bipush 16, 2, 0, 0, 0, _) from rfl) (Or.inl ⟨.int 16, rfl, rfl⟩) ?_
        cases k4 : bcmp .lt m 16 with
        | true =>
          have gk4 : (m).toInt < 16 := icT (c := .lt) (a := (m).toInt) (b := 16) rfl (by decide) k4
          refine XW.fam (S' := (45, [(0, .ref 53), (1, .int p), (2, .int n), (3, .int e)], [], (sh, I, L, R))) (M := mr_141) rfl (show mcode 141 39 = some (39, .if_icmp .lt 6, 3, 45, 0, 0, _) from rfl) (Or.inr (Or.inl ⟨45, [], by simp [brn, k4], rfl⟩)) ?_
          refine XW.fam (S' := (46, [(0, .ref 53), (1, .int p), (2, .int n), (3, .int e)], [.ref 53], (sh, I, L, R))) (M := mr_141) rfl (show mcode 141 45 = some (45, .aload_n 0, 1, 0, 0, 0, _) from rfl) (Or.inl ⟨.ref 53, rfl, rfl⟩) ?_
          refine XW.fam (S' := (49, [(0, .ref 53), (1, .int p), (2, .int n), (3, .int e)], [.ref 54], (sh, I, L, R))) (M := mr_141) rfl (show mcode 141 46 = some (46, .getfield 9, 3, 7, 4, 0, _) from rfl) (Or.inr (Or.inr (Or.inr (Or.inr (Or.inr (Or.inr (Or.inr (Or.inl ⟨_, _, rfl, fl_ld c53 r53_4 (by decide) (by decide), rfl⟩)))))))) ?_
          refine XW.fam (S' := (50, [(0, .ref 53), (1, .int p), (2, .int n), (3, .int e)], [.ref 53, .ref 54], (sh, I, L, R))) (M := mr_141) rfl (show mcode 141 49 = some (49, .aload_n 0, 1, 0, 0, 0, _) from rfl) (Or.inl ⟨.ref 53, rfl, rfl⟩) ?_
          refine XW.fam (S' := (53, [(0, .ref 53), (1, .int p), (2, .int n), (3, .int e)], [.int (I 53 3), .ref 54], (sh, I, L, R))) (M := mr_141) rfl (show mcode 141 50 = some (50, .getfield 61, 3, 7, 3, 0, _) from rfl) (Or.inr (Or.inr (Or.inr (Or.inr (Or.inr (Or.inr (Or.inr (Or.inl ⟨_, _, rfl, fl_ldI c53 (by decide) (by decide), rfl⟩)))))))) ?_
          rw [em]
          refine XW.fam (S' := (54, [(0, .ref 53), (1, .int p), (2, .int n), (3, .int e)], [.int p, .int m, .ref 54], (sh, I, L, R))) (M := mr_141) rfl (show mcode 141 53 = some (53, .iload_n 1, 1, 0, 0, 0, _) from rfl) (Or.inl ⟨.int p, rfl, rfl⟩) ?_
          have hin5 : inR m 16 = true := inR_of (by omega) (by omega)
          obtain ⟨I6, eI6⟩ : ∃ X, X = up2 I 54 (m).toNatClampNeg p := ⟨_, rfl⟩
          refine XW.fam (S' := (55, [(0, .ref 53), (1, .int p), (2, .int n), (3, .int e)], [], (sh, I6, L, R))) (M := mr_141) rfl (show mcode 141 54 = some (54, .iastore, 1, 0, 0, 0, _) from rfl) (Or.inr (Or.inr (Or.inr (Or.inl ⟨_, _, by rw [eI6]; exact sta_i c54 hin5, rfl⟩)))) ?_
          have hwI6 : wOK (mkT vV []) (wE sh R) (sh, I6, L, R) := by rw [eI6]; exact wOK_u2 (q := 54) (k := (m).toNatClampNeg) (x := p) wE_put hw rfl (by show (0 : Int) ≤ _; omega) (by show _ ≤ (19 : Int); omega)
          have hfI6 : fresh (sh, I6, L, R) := by rw [eI6]; exact fresh_I hf c54
          have v7 : I6 53 3 = m := by rw [eI6, up2_ne (fun e => by cases e.1)]; exact em
          have v8 : I6 54 (m).toNatClampNeg = p := by rw [eI6]; exact up2_eq
          refine XW.fam (S' := (56, [(0, .ref 53), (1, .int p), (2, .int n), (3, .int e)], [.ref 53], (sh, I6, L, R))) (M := mr_141) rfl (show mcode 141 55 = some (55, .aload_n 0, 1, 0, 0, 0, _) from rfl) (Or.inl ⟨.ref 53, rfl, rfl⟩) ?_
          refine XW.fam (S' := (59, [(0, .ref 53), (1, .int p), (2, .int n), (3, .int e)], [.ref 55], (sh, I6, L, R))) (M := mr_141) rfl (show mcode 141 56 = some (56, .getfield 15, 3, 7, 5, 0, _) from rfl) (Or.inr (Or.inr (Or.inr (Or.inr (Or.inr (Or.inr (Or.inr (Or.inl ⟨_, _, rfl, fl_ld c53 r53_5 (by decide) (by decide), rfl⟩)))))))) ?_
          refine XW.fam (S' := (60, [(0, .ref 53), (1, .int p), (2, .int n), (3, .int e)], [.ref 53, .ref 55], (sh, I6, L, R))) (M := mr_141) rfl (show mcode 141 59 = some (59, .aload_n 0, 1, 0, 0, 0, _) from rfl) (Or.inl ⟨.ref 53, rfl, rfl⟩) ?_
          refine XW.fam (S' := (63, [(0, .ref 53), (1, .int p), (2, .int n), (3, .int e)], [.int (I6 53 3), .ref 55], (sh, I6, L, R))) (M := mr_141) rfl (show mcode 141 60 = some (60, .getfield 61, 3, 7, 3, 0, _) from rfl) (Or.inr (Or.inr (Or.inr (Or.inr (Or.inr (Or.inr (Or.inr (Or.inl ⟨_, _, rfl, fl_ldI c53 (by decide) (by decide), rfl⟩)))))))) ?_
          rw [v7]
          refine XW.fam (S' := (64, [(0, .ref 53), (1, .int p), (2, .int n), (3, .int e)], [.int n, .int m, .ref 55], (sh, I6, L, R))) (M := mr_141) rfl (show mcode 141 63 = some (63, .iload_n 2, 1, 0, 0, 0, _) from rfl) (Or.inl ⟨.int n, rfl, rfl⟩) ?_
          have hin9 : inR m 16 = true := inR_of (by omega) (by omega)
          obtain ⟨I10, eI10⟩ : ∃ X, X = up2 I6 55 (m).toNatClampNeg n := ⟨_, rfl⟩
          refine XW.fam (S' := (65, [(0, .ref 53), (1, .int p), (2, .int n), (3, .int e)], [], (sh, I10, L, R))) (M := mr_141) rfl (show mcode 141 64 = some (64, .iastore, 1, 0, 0, 0, _) from rfl) (Or.inr (Or.inr (Or.inr (Or.inl ⟨_, _, by rw [eI10]; exact sta_i c55 hin9, rfl⟩)))) ?_
          have hwI10 : wOK (mkT vV []) (wE sh R) (sh, I10, L, R) := by rw [eI10]; exact wOK_u2 (q := 55) (k := (m).toNatClampNeg) (x := n) wE_put hwI6 rfl (by show (0 : Int) ≤ _; omega) (by show _ ≤ (60 : Int); omega)
          have hfI10 : fresh (sh, I10, L, R) := by rw [eI10]; exact fresh_I hfI6 c55
          have v11 : I10 53 3 = m := by rw [eI10, up2_ne (fun e => by cases e.1)]; exact v7
          have v12 : I10 54 (m).toNatClampNeg = p := by rw [eI10, up2_ne (fun e => by cases e.1)]; exact v8
          have v13 : I10 55 (m).toNatClampNeg = n := by rw [eI10]; exact up2_eq
          refine XW.fam (S' := (66, [(0, .ref 53), (1, .int p), (2, .int n), (3, .int e)], [.ref 53], (sh, I10, L, R))) (M := mr_141) rfl (show mcode 141 65 = some (65, .aload_n 0, 1, 0, 0, 0, _) from rfl) (Or.inl ⟨.ref 53, rfl, rfl⟩) ?_
          refine XW.fam (S' := (69, [(0, .ref 53), (1, .int p), (2, .int n), (3, .int e)], [.ref 56], (sh, I10, L, R))) (M := mr_141) rfl (show mcode 141 66 = some (66, .getfield 18, 3, 7, 6, 0, _) from rfl) (Or.inr (Or.inr (Or.inr (Or.inr (Or.inr (Or.inr (Or.inr (Or.inl ⟨_, _, rfl, fl_ld c53 r53_6 (by decide) (by decide), rfl⟩)))))))) ?_
          refine XW.fam (S' := (70, [(0, .ref 53), (1, .int p), (2, .int n), (3, .int e)], [.ref 53, .ref 56], (sh, I10, L, R))) (M := mr_141) rfl (show mcode 141 69 = some (69, .aload_n 0, 1, 0, 0, 0, _) from rfl) (Or.inl ⟨.ref 53, rfl, rfl⟩) ?_
          refine XW.fam (S' := (73, [(0, .ref 53), (1, .int p), (2, .int n), (3, .int e)], [.int (I10 53 3), .ref 56], (sh, I10, L, R))) (M := mr_141) rfl (show mcode 141 70 = some (70, .getfield 61, 3, 7, 3, 0, _) from rfl) (Or.inr (Or.inr (Or.inr (Or.inr (Or.inr (Or.inr (Or.inr (Or.inl ⟨_, _, rfl, fl_ldI c53 (by decide) (by decide), rfl⟩)))))))) ?_
          rw [v11]
          refine XW.fam (S' := (74, [(0, .ref 53), (1, .int p), (2, .int n), (3, .int e)], [.int e, .int m, .ref 56], (sh, I10, L, R))) (M := mr_141) rfl (show mcode 141 73 = some (73, .iload_n 3, 1, 0, 0, 0, _) from rfl) (Or.inl ⟨.int e, rfl, rfl⟩) ?_
          have hin14 : inR m 16 = true := inR_of (by omega) (by omega)
          obtain ⟨I15, eI15⟩ : ∃ X, X = up2 I10 56 (m).toNatClampNeg e := ⟨_, rfl⟩
          refine XW.fam (S' := (75, [(0, .ref 53), (1, .int p), (2, .int n), (3, .int e)], [], (sh, I15, L, R))) (M := mr_141) rfl (show mcode 141 74 = some (74, .iastore, 1, 0, 0, 0, _) from rfl) (Or.inr (Or.inr (Or.inr (Or.inl ⟨_, _, by rw [eI15]; exact sta_i c56 hin14, rfl⟩)))) ?_
          have hwI15 : wOK (mkT vV []) (wE sh R) (sh, I15, L, R) := by rw [eI15]; exact wOK_u2 (q := 56) (k := (m).toNatClampNeg) (x := e) wE_put hwI10 rfl (by show (0 : Int) ≤ _; omega) (by show _ ≤ (30 : Int); omega)
          have hfI15 : fresh (sh, I15, L, R) := by rw [eI15]; exact fresh_I hfI10 c56
          have v16 : I15 53 3 = m := by rw [eI15, up2_ne (fun e => by cases e.1)]; exact v11
          have v17 : I15 54 (m).toNatClampNeg = p := by rw [eI15, up2_ne (fun e => by cases e.1)]; exact v12
          have v18 : I15 55 (m).toNatClampNeg = n := by rw [eI15, up2_ne (fun e => by cases e.1)]; exact v13
          have v19 : I15 56 (m).toNatClampNeg = e := by rw [eI15]; exact up2_eq
          refine XW.fam (S' := (76, [(0, .ref 53), (1, .int p), (2, .int n), (3, .int e)], [.ref 53], (sh, I15, L, R))) (M := mr_141) rfl (show mcode 141 75 = some (75, .aload_n 0, 1, 0, 0, 0, _) from rfl) (Or.inl ⟨.ref 53, rfl, rfl⟩) ?_
          refine XW.fam (S' := (79, [(0, .ref 53), (1, .int p), (2, .int n), (3, .int e)], [.ref 58], (sh, I15, L, R))) (M := mr_141) rfl (show mcode 141 76 = some (76, .getfield 24, 3, 7, 8, 0, _) from rfl) (Or.inr (Or.inr (Or.inr (Or.inr (Or.inr (Or.inr (Or.inr (Or.inl ⟨_, _, rfl, fl_ld c53 r53_8 (by decide) (by decide), rfl⟩)))))))) ?_
          refine XW.fam (S' := (80, [(0, .ref 53), (1, .int p), (2, .int n), (3, .int e)], [.ref 53, .ref 58], (sh, I15, L, R))) (M := mr_141) rfl (show mcode 141 79 = some (79, .aload_n 0, 1, 0, 0, 0, _) from rfl) (Or.inl ⟨.ref 53, rfl, rfl⟩) ?_
          refine XW.fam (S' := (83, [(0, .ref 53), (1, .int p), (2, .int n), (3, .int e)], [.int (I15 53 3), .ref 58], (sh, I15, L, R))) (M := mr_141) rfl (show mcode 141 80 = some (80, .getfield 61, 3, 7, 3, 0, _) from rfl) (Or.inr (Or.inr (Or.inr (Or.inr (Or.inr (Or.inr (Or.inr (Or.inl ⟨_, _, rfl, fl_ldI c53 (by decide) (by decide), rfl⟩)))))))) ?_
          rw [v16]
          refine XW.fam (S' := (84, [(0, .ref 53), (1, .int p), (2, .int n), (3, .int e)], [.int (-1), .int m, .ref 58], (sh, I15, L, R))) (M := mr_141) rfl (show mcode 141 83 = some (83, .iconst (-1), 1, 0, 0, 0, _) from rfl) (Or.inl ⟨.int (-1), rfl, rfl⟩) ?_
          have hin20 : inR m 16 = true := inR_of (by omega) (by omega)
          obtain ⟨I21, eI21⟩ : ∃ X, X = up2 I15 58 (m).toNatClampNeg (-1) := ⟨_, rfl⟩
          refine XW.fam (S' := (85, [(0, .ref 53), (1, .int p), (2, .int n), (3, .int e)], [], (sh, I21, L, R))) (M := mr_141) rfl (show mcode 141 84 = some (84, .iastore, 1, 0, 0, 0, _) from rfl) (Or.inr (Or.inr (Or.inr (Or.inl ⟨_, _, by rw [eI21]; exact sta_i c58 hin20, rfl⟩)))) ?_
          have hwI21 : wOK (mkT vV []) (wE sh R) (sh, I21, L, R) := by rw [eI21]; exact wOK_u2 (q := 58) (k := (m).toNatClampNeg) (x := (-1)) wE_put hwI15 rfl (by show ((-1) : Int) ≤ _; omega) (by show _ ≤ (730 : Int); omega)
          have hfI21 : fresh (sh, I21, L, R) := by rw [eI21]; exact fresh_I hfI15 c58
          have v22 : I21 53 3 = m := by rw [eI21, up2_ne (fun e => by cases e.1)]; exact v16
          have v23 : I21 54 (m).toNatClampNeg = p := by rw [eI21, up2_ne (fun e => by cases e.1)]; exact v17
          have v24 : I21 55 (m).toNatClampNeg = n := by rw [eI21, up2_ne (fun e => by cases e.1)]; exact v18
          have v25 : I21 56 (m).toNatClampNeg = e := by rw [eI21, up2_ne (fun e => by cases e.1)]; exact v19
          have v26 : I21 58 (m).toNatClampNeg = (-1) := by rw [eI21]; exact up2_eq
          refine XW.fam (S' := (86, [(0, .ref 53), (1, .int p), (2, .int n), (3, .int e)], [.ref 53], (sh, I21, L, R))) (M := mr_141) rfl (show mcode 141 85 = some (85, .aload_n 0, 1, 0, 0, 0, _) from rfl) (Or.inl ⟨.ref 53, rfl, rfl⟩) ?_
          refine XW.fam (S' := (87, [(0, .ref 53), (1, .int p), (2, .int n), (3, .int e)], [.ref 53, .ref 53], (sh, I21, L, R))) (M := mr_141) rfl (show mcode 141 86 = some (86, .dup, 1, 0, 0, 0, _) from rfl) (Or.inr (Or.inr (Or.inr (Or.inr (Or.inr (Or.inl ⟨_, rfl, rfl⟩)))))) ?_
          refine XW.fam (S' := (90, [(0, .ref 53), (1, .int p), (2, .int n), (3, .int e)], [.int (I21 53 3), .ref 53], (sh, I21, L, R))) (M := mr_141) rfl (show mcode 141 87 = some (87, .getfield 61, 3, 7, 3, 0, _) from rfl) (Or.inr (Or.inr (Or.inr (Or.inr (Or.inr (Or.inr (Or.inr (Or.inl ⟨_, _, rfl, fl_ldI c53 (by decide) (by decide), rfl⟩)))))))) ?_
          rw [v22]
          refine XW.fam (S' := (91, [(0, .ref 53), (1, .int p), (2, .int n), (3, .int e)], [.int 1, .int m, .ref 53], (sh, I21, L, R))) (M := mr_141) rfl (show mcode 141 90 = some (90, .iconst 1, 1, 0, 0, 0, _) from rfl) (Or.inl ⟨.int 1, rfl, rfl⟩) ?_
          refine XW.fam (S' := (92, [(0, .ref 53), (1, .int p), (2, .int n), (3, .int e)], [.int (m + 1), .ref 53], (sh, I21, L, R))) (M := mr_141) rfl (show mcode 141 91 = some (91, .iadd, 1, 0, 0, 0, _) from rfl) (Or.inr (Or.inr (Or.inr (Or.inr (Or.inr (Or.inl ⟨_, rfl, rfl⟩)))))) ?_
          obtain ⟨I27, eI27⟩ : ∃ X, X = up2 I21 53 3 (m + 1) := ⟨_, rfl⟩
          refine XW.fam (S' := (95, [(0, .ref 53), (1, .int p), (2, .int n), (3, .int e)], [], (sh, I27, L, R))) (M := mr_141) rfl (show mcode 141 92 = some (92, .putfield 61, 3, 7, 3, 0, _) from rfl) (Or.inr (Or.inr (Or.inr (Or.inr (Or.inr (Or.inr (Or.inr (Or.inr (Or.inl ⟨_, _, _, rfl, by rw [eI27]; exact stf_I c53 (by decide) (by decide) (by decide), rfl⟩))))))))) ?_
          have xi := inc32 (m := m) (by omega) (by omega)
          have hwI27 : wOK (mkT vV []) (wE sh R) (sh, I27, L, R) := by rw [eI27]; exact wOK_u2 (q := 53) (k := 3) (x := (m + 1)) wE_put hwI21 rfl (by show (0 : Int) ≤ _; omega) (by show _ ≤ (16 : Int); omega)
          have hfI27 : fresh (sh, I27, L, R) := by rw [eI27]; exact fresh_I hfI21 c53
          have v29 : I27 54 (m).toNatClampNeg = p := by rw [eI27, up2_ne (fun e => by cases e.1)]; exact v23
          have v30 : I27 55 (m).toNatClampNeg = n := by rw [eI27, up2_ne (fun e => by cases e.1)]; exact v24
          have v31 : I27 56 (m).toNatClampNeg = e := by rw [eI27, up2_ne (fun e => by cases e.1)]; exact v25
          have v32 : I27 58 (m).toNatClampNeg = (-1) := by rw [eI27, up2_ne (fun e => by cases e.1)]; exact v26
          have v33 : I27 53 3 = (m + 1) := by rw [eI27]; exact up2_eq
          refine XW.fam (S' := (96, [(0, .ref 53), (1, .int p), (2, .int n), (3, .int e)], [.ref 53], (sh, I27, L, R))) (M := mr_141) rfl (show mcode 141 95 = some (95, .aload_n 0, 1, 0, 0, 0, _) from rfl) (Or.inl ⟨.ref 53, rfl, rfl⟩) ?_
          refine XW.fam (S' := (99, [(0, .ref 53), (1, .int p), (2, .int n), (3, .int e)], [.int (I27 53 3)], (sh, I27, L, R))) (M := mr_141) rfl (show mcode 141 96 = some (96, .getfield 61, 3, 7, 3, 0, _) from rfl) (Or.inr (Or.inr (Or.inr (Or.inr (Or.inr (Or.inr (Or.inr (Or.inl ⟨_, _, rfl, fl_ldI c53 (by decide) (by decide), rfl⟩)))))))) ?_
          rw [v33]
          refine XW.fam (S' := (100, [(0, .ref 53), (1, .int p), (2, .int n), (3, .int e)], [.int 1, .int (m + 1)], (sh, I27, L, R))) (M := mr_141) rfl (show mcode 141 99 = some (99, .iconst 1, 1, 0, 0, 0, _) from rfl) (Or.inl ⟨.int 1, rfl, rfl⟩) ?_
          refine XW.fam (S' := (101, [(0, .ref 53), (1, .int p), (2, .int n), (3, .int e)], [.int ((m + 1) - 1)], (sh, I27, L, R))) (M := mr_141) rfl (show mcode 141 100 = some (100, .isub, 1, 0, 0, 0, _) from rfl) (Or.inr (Or.inr (Or.inr (Or.inr (Or.inr (Or.inl ⟨_, rfl, rfl⟩)))))) ?_
          refine XW.ret (r := some (.int ((m + 1) - 1))) ⟨⟨.int, rfl, rfl⟩, by decide +kernel⟩ ?_
          have hkp : ∀ q k, inm mdSC q k = false → I27 q k = I q k := by
            intro q k h
            rw [eI27, up2_ne (fun e => by rw [e.1, e.2] at h; cases h), eI21, up2_ne (fun e => by rw [e.1] at h; cases h), eI15, up2_ne (fun e => by rw [e.1] at h; cases h), eI10, up2_ne (fun e => by rw [e.1] at h; cases h), eI6, up2_ne (fun e => by rw [e.1] at h; cases h)]
          refine ⟨hfI27, ⟨sh, R, hwI27⟩, Or.inr (Or.inr ⟨show okSC I p n e by unfold okSC; omega, by show (I 53 3).toInt < (16 : Int); rw [em]; omega, ?_, ?_, hkp⟩)⟩
          · show some (Value.int _) = some (Value.int (I 53 3 + 0))
            rw [em, decr32, Int32.add_zero]
          · show I27 53 3 = I 53 3 + 1
            rw [em]
            exact v33
        | false =>
          have gk4 : ¬ ((m).toInt < 16) := icF (c := .lt) (a := (m).toInt) (b := 16) rfl (by decide) k4
          refine XW.fam (S' := (42, [(0, .ref 53), (1, .int p), (2, .int n), (3, .int e)], [], (sh, I, L, R))) (M := mr_141) rfl (show mcode 141 39 = some (39, .if_icmp .lt 6, 3, 45, 0, 0, _) from rfl) (Or.inr (Or.inl ⟨42, [], by simp [brn, k4], rfl⟩)) ?_
          refine XW.fam (S' := (44, [(0, .ref 53), (1, .int p), (2, .int n), (3, .int e)], [.int (-3)], (sh, I, L, R))) (M := mr_141) rfl (show mcode 141 42 = some (42, .bipush (-3), 2, 0, 0, 0, _) from rfl) (Or.inl ⟨.int (-3), rfl, rfl⟩) ?_
          refine XW.ret (r := some (.int (-3))) ⟨⟨.int, rfl, rfl⟩, by decide +kernel⟩ ?_
          exact ⟨hf, ⟨sh, R, hw⟩, Or.inr (Or.inl ⟨show okSC I p n e by unfold okSC; omega, by show (16 : Int) ≤ (I 53 3).toInt; rw [em]; omega, rfl, rfl⟩)⟩
theorem tc_shipC {d : Nat} {sh : List mE} {R : Nat → Nat → Option Nat} {w : mW} {p n e : Int32} (hw : wOK (mkT vV []) (wE sh R) w) (hf : fresh w) : Tc 140 (d + 3) 0 0 [.ref 0, .int p, .int n, .int e] w (Qapp 53 3 16 (okSC w.2.1 p n e) 0 mdSC w) := by
  obtain ⟨sh0, I, L, R0⟩ := w
  obtain rfl : sh = sh0 := hw.2.2.2.1.symm
  obtain rfl : R = R0 := hw.2.2.2.2.1.symm
  have c0 : sh[0]? = some (.inr 0) := hw.1 0 _ rfl
  have c53 : sh[53]? = some (.inr 7) := hw.1 53 _ rfl
  have r0_6 : R 0 6 = some 53 := hw.2.1 0 6 _ rfl
  refine Tc.of mr_140 rfl (show 4 ≤ mr_140.2.2.2.1 by decide) ?_
  refine XW.fam (S' := (1, [(0, .ref 0), (1, .int p), (2, .int n), (3, .int e)], [.ref 0], (sh, I, L, R))) (M := mr_140) rfl (show mcode 140 0 = some (0, .aload_n 0, 1, 0, 0, 0, _) from rfl) (Or.inl ⟨.ref 0, rfl, rfl⟩) ?_
  refine XW.fam (S' := (4, [(0, .ref 0), (1, .int p), (2, .int n), (3, .int e)], [.ref 53], (sh, I, L, R))) (M := mr_140) rfl (show mcode 140 1 = some (1, .getfield 62, 3, 0, 6, 0, _) from rfl) (Or.inr (Or.inr (Or.inr (Or.inr (Or.inr (Or.inr (Or.inr (Or.inl ⟨_, _, rfl, fl_ld c0 r0_6 (by decide) (by decide), rfl⟩)))))))) ?_
  refine XW.fam (S' := (5, [(0, .ref 0), (1, .int p), (2, .int n), (3, .int e)], [.int p, .ref 53], (sh, I, L, R))) (M := mr_140) rfl (show mcode 140 4 = some (4, .iload_n 1, 1, 0, 0, 0, _) from rfl) (Or.inl ⟨.int p, rfl, rfl⟩) ?_
  refine XW.fam (S' := (6, [(0, .ref 0), (1, .int p), (2, .int n), (3, .int e)], [.int n, .int p, .ref 53], (sh, I, L, R))) (M := mr_140) rfl (show mcode 140 5 = some (5, .iload_n 2, 1, 0, 0, 0, _) from rfl) (Or.inl ⟨.int n, rfl, rfl⟩) ?_
  refine XW.fam (S' := (7, [(0, .ref 0), (1, .int p), (2, .int n), (3, .int e)], [.int e, .int n, .int p, .ref 53], (sh, I, L, R))) (M := mr_140) rfl (show mcode 140 6 = some (6, .iload_n 3, 1, 0, 0, 0, _) from rfl) (Or.inl ⟨.int e, rfl, rfl⟩) ?_
  refine XW.call (d' := d + 2) (mc' := 0) (ms' := 0) (av := [.ref 53, .int p, .int n, .int e]) (rest := []) (M := mr_140) (Ma := mr_141) rfl (show mcode 140 7 = some (7, .invokevirtual 253, 3, 141, 0, 0, _) from rfl) rfl (by decide) (by decide) ⟨rfl, 53, _, rfl, c53⟩ rfl rfl (show 0 ≤ 8 by decide) (tc_addC (d := d) hw hf) (by omega) (Nat.zero_le _) (Nat.zero_le _) (fun rQ1 wQ1 Q1 => ?_)
  obtain ⟨yQ1, eyQ1⟩ := Qapp_int Q1
  subst eyQ1
  refine XW.ret (r := some (.int yQ1)) ⟨⟨.int, rfl, rfl⟩, by decide +kernel⟩ ?_
  exact Q1
theorem tc_shipM {d : Nat} {sh : List mE} {R : Nat → Nat → Option Nat} {w : mW} {p n e : Int32} (hw : wOK (mkT vV []) (wE sh R) w) (hf : fresh w) : Tc 308 (d + 3) 0 0 [.ref 94, .int p, .int n, .int e] w (Qapp 94 60 16 (okSM w.2.1 p n e) 0 mdSM w) := by
  obtain ⟨sh0, I, L, R0⟩ := w
  obtain rfl : sh = sh0 := hw.2.2.2.1.symm
  obtain rfl : R = R0 := hw.2.2.2.2.1.symm
  have c94 : sh[94]? = some (.inr 12) := hw.1 94 _ rfl
  have c135 : sh[135]? = some (.inl (.int, 16)) := hw.1 135 _ rfl
  have c136 : sh[136]? = some (.inl (.int, 16)) := hw.1 136 _ rfl
  have c138 : sh[138]? = some (.inl (.int, 16)) := hw.1 138 _ rfl
  have c139 : sh[139]? = some (.inl (.int, 16)) := hw.1 139 _ rfl
  have c140 : sh[140]? = some (.inl (.int, 16)) := hw.1 140 _ rfl
  have r94_61 : R 94 61 = some 135 := hw.2.1 94 61 _ rfl
  have r94_62 : R 94 62 = some 136 := hw.2.1 94 62 _ rfl
  have r94_64 : R 94 64 = some 138 := hw.2.1 94 64 _ rfl
  have r94_65 : R 94 65 = some 139 := hw.2.1 94 65 _ rfl
  have r94_66 : R 94 66 = some 140 := hw.2.1 94 66 _ rfl
  have zm3 : ((-3) : Int32).toInt = (-3) := rfl
  have zm1 : ((-1) : Int32).toInt = (-1) := rfl
  have z1 : (1 : Int32).toInt = 1 := rfl
  have z2 : (2 : Int32).toInt = 2 := rfl
  have z16 : (16 : Int32).toInt = 16 := rfl
  have z30 : (30 : Int32).toInt = 30 := rfl
  have z60 : (60 : Int32).toInt = 60 := rfl
  have hm : 0 ≤ (I 94 2).toInt ∧ (I 94 2).toInt ≤ 20 := hw.2.2.1 94 2
  have hmc : 0 ≤ (I 94 60).toInt ∧ (I 94 60).toInt ≤ 16 := hw.2.2.1 94 60
  obtain ⟨m, em⟩ : ∃ m, I 94 60 = m := ⟨_, rfl⟩
  rw [em] at hmc
  refine Tc.of mr_308 rfl (show 4 ≤ mr_308.2.2.2.1 by decide) ?_
  refine XW.fam (S' := (1, [(0, .ref 94), (1, .int p), (2, .int n), (3, .int e)], [.ref 94], (sh, I, L, R))) (M := mr_308) rfl (show mcode 308 0 = some (0, .aload_n 0, 1, 0, 0, 0, _) from rfl) (Or.inl ⟨.ref 94, rfl, rfl⟩) ?_
  refine XW.fam (S' := (2, [(0, .ref 94), (1, .int p), (2, .int n), (3, .int e)], [.int p, .ref 94], (sh, I, L, R))) (M := mr_308) rfl (show mcode 308 1 = some (1, .iload_n 1, 1, 0, 0, 0, _) from rfl) (Or.inl ⟨.int p, rfl, rfl⟩) ?_
  refine XW.call (d' := d + 2) (mc' := 0) (ms' := 0) (av := [.ref 94, .int p]) (rest := []) (M := mr_308) (Ma := mr_309) rfl (show mcode 308 2 = some (2, .invokevirtual 496, 3, 309, 0, 0, _) from rfl) rfl (by decide) (by decide) ⟨rfl, 94, _, rfl, c94⟩ rfl rfl (show 0 ≤ 8 by decide) (tc_isPoM (d := d) hw) (by omega) (Nat.zero_le _) (Nat.zero_le _) (fun rQ1 wQ1 Q1 => ?_)
  obtain ⟨hQ1, rfl⟩ := Q1
  rcases hQ1 with ⟨rfl, gQ1⟩ | ⟨rfl, gQ1⟩
  · skip
    refine XW.fam (S' := (28, [(0, .ref 94), (1, .int p), (2, .int n), (3, .int e)], [], (sh, I, L, R))) (M := mr_308) rfl (show mcode 308 5 = some (5, .ifCond .eq 23, 3, 28, 0, 0, _) from rfl) (Or.inr (Or.inl ⟨28, [], rfl, rfl⟩)) ?_
    refine XW.fam (S' := (29, [(0, .ref 94), (1, .int p), (2, .int n), (3, .int e)], [.int (-1)], (sh, I, L, R))) (M := mr_308) rfl (show mcode 308 28 = some (28, .iconst (-1), 1, 0, 0, 0, _) from rfl) (Or.inl ⟨.int (-1), rfl, rfl⟩) ?_
    refine XW.ret (r := some (.int (-1))) ⟨⟨.int, rfl, rfl⟩, by decide +kernel⟩ ?_
    exact ⟨hf, ⟨sh, R, hw⟩, Or.inl ⟨fun q => by have q1 : okSM I p n e := q; unfold okSM at q1; omega, rfl, rfl⟩⟩
  · skip
    refine XW.fam (S' := (8, [(0, .ref 94), (1, .int p), (2, .int n), (3, .int e)], [], (sh, I, L, R))) (M := mr_308) rfl (show mcode 308 5 = some (5, .ifCond .eq 23, 3, 28, 0, 0, _) from rfl) (Or.inr (Or.inl ⟨8, [], rfl, rfl⟩)) ?_
    refine XW.fam (S' := (9, [(0, .ref 94), (1, .int p), (2, .int n), (3, .int e)], [.int n], (sh, I, L, R))) (M := mr_308) rfl (show mcode 308 8 = some (8, .iload_n 2, 1, 0, 0, 0, _) from rfl) (Or.inl ⟨.int n, rfl, rfl⟩) ?_
    refine XW.fam (S' := (10, [(0, .ref 94), (1, .int p), (2, .int n), (3, .int e)], [.int 1, .int n], (sh, I, L, R))) (M := mr_308) rfl (show mcode 308 9 = some (9, .iconst 1, 1, 0, 0, 0, _) from rfl) (Or.inl ⟨.int 1, rfl, rfl⟩) ?_
    refine XW.fam (S' := (12, [(0, .ref 94), (1, .int p), (2, .int n), (3, .int e)], [.int 60, .int 1, .int n], (sh, I, L, R))) (M := mr_308) rfl (show mcode 308 10 = some (10, .bipush 60, 2, 0, 0, 0, _) from rfl) (Or.inl ⟨.int 60, rfl, rfl⟩) ?_
    refine XW.call (d' := d) (mc' := 0) (ms' := 0) (av := [.int n, .int 1, .int 60]) (rest := []) (M := mr_308) (Ma := mr_236) rfl (show mcode 308 12 = some (12, .invokestatic 254, 3, 236, 0, 0, _) from rfl) rfl (by decide) (by decide) rfl rfl rfl (show 0 ≤ 8 by decide) (tc_inM) (by omega) (Nat.zero_le _) (Nat.zero_le _) (fun rQ2 wQ2 Q2 => ?_)
    obtain ⟨hQ2, rfl⟩ := Q2
    rcases hQ2 with ⟨rfl, gQ2⟩ | ⟨rfl, gQ2⟩
    · skip
      refine XW.fam (S' := (28, [(0, .ref 94), (1, .int p), (2, .int n), (3, .int e)], [], (sh, I, L, R))) (M := mr_308) rfl (show mcode 308 15 = some (15, .ifCond .eq 13, 3, 28, 0, 0, _) from rfl) (Or.inr (Or.inl ⟨28, [], rfl, rfl⟩)) ?_
      refine XW.fam (S' := (29, [(0, .ref 94), (1, .int p), (2, .int n), (3, .int e)], [.int (-1)], (sh, I, L, R))) (M := mr_308) rfl (show mcode 308 28 = some (28, .iconst (-1), 1, 0, 0, 0, _) from rfl) (Or.inl ⟨.int (-1), rfl, rfl⟩) ?_
      refine XW.ret (r := some (.int (-1))) ⟨⟨.int, rfl, rfl⟩, by decide +kernel⟩ ?_
      exact ⟨hf, ⟨sh, R, hw⟩, Or.inl ⟨fun q => by have q1 : okSM I p n e := q; unfold okSM at q1; omega, rfl, rfl⟩⟩
    · skip
      refine XW.fam (S' := (18, [(0, .ref 94), (1, .int p), (2, .int n), (3, .int e)], [], (sh, I, L, R))) (M := mr_308) rfl (show mcode 308 15 = some (15, .ifCond .eq 13, 3, 28, 0, 0, _) from rfl) (Or.inr (Or.inl ⟨18, [], rfl, rfl⟩)) ?_
      refine XW.fam (S' := (19, [(0, .ref 94), (1, .int p), (2, .int n), (3, .int e)], [.int e], (sh, I, L, R))) (M := mr_308) rfl (show mcode 308 18 = some (18, .iload_n 3, 1, 0, 0, 0, _) from rfl) (Or.inl ⟨.int e, rfl, rfl⟩) ?_
      refine XW.fam (S' := (20, [(0, .ref 94), (1, .int p), (2, .int n), (3, .int e)], [.int 2, .int e], (sh, I, L, R))) (M := mr_308) rfl (show mcode 308 19 = some (19, .iconst 2, 1, 0, 0, 0, _) from rfl) (Or.inl ⟨.int 2, rfl, rfl⟩) ?_
      refine XW.fam (S' := (22, [(0, .ref 94), (1, .int p), (2, .int n), (3, .int e)], [.int 30, .int 2, .int e], (sh, I, L, R))) (M := mr_308) rfl (show mcode 308 20 = some (20, .bipush 30, 2, 0, 0, 0, _) from rfl) (Or.inl ⟨.int 30, rfl, rfl⟩) ?_
      refine XW.call (d' := d) (mc' := 0) (ms' := 0) (av := [.int e, .int 2, .int 30]) (rest := []) (M := mr_308) (Ma := mr_236) rfl (show mcode 308 22 = some (22, .invokestatic 254, 3, 236, 0, 0, _) from rfl) rfl (by decide) (by decide) rfl rfl rfl (show 0 ≤ 8 by decide) (tc_inM) (by omega) (Nat.zero_le _) (Nat.zero_le _) (fun rQ3 wQ3 Q3 => ?_)
      obtain ⟨hQ3, rfl⟩ := Q3
      rcases hQ3 with ⟨rfl, gQ3⟩ | ⟨rfl, gQ3⟩
      · skip
        refine XW.fam (S' := (28, [(0, .ref 94), (1, .int p), (2, .int n), (3, .int e)], [], (sh, I, L, R))) (M := mr_308) rfl (show mcode 308 25 = some (25, .ifCond .ne 5, 3, 30, 0, 0, _) from rfl) (Or.inr (Or.inl ⟨28, [], rfl, rfl⟩)) ?_
        refine XW.fam (S' := (29, [(0, .ref 94), (1, .int p), (2, .int n), (3, .int e)], [.int (-1)], (sh, I, L, R))) (M := mr_308) rfl (show mcode 308 28 = some (28, .iconst (-1), 1, 0, 0, 0, _) from rfl) (Or.inl ⟨.int (-1), rfl, rfl⟩) ?_
        refine XW.ret (r := some (.int (-1))) ⟨⟨.int, rfl, rfl⟩, by decide +kernel⟩ ?_
        exact ⟨hf, ⟨sh, R, hw⟩, Or.inl ⟨fun q => by have q1 : okSM I p n e := q; unfold okSM at q1; omega, rfl, rfl⟩⟩
      · skip
        refine XW.fam (S' := (30, [(0, .ref 94), (1, .int p), (2, .int n), (3, .int e)], [], (sh, I, L, R))) (M := mr_308) rfl (show mcode 308 25 = some (25, .ifCond .ne 5, 3, 30, 0, 0, _) from rfl) (Or.inr (Or.inl ⟨30, [], rfl, rfl⟩)) ?_
        refine XW.fam (S' := (31, [(0, .ref 94), (1, .int p), (2, .int n), (3, .int e)], [.ref 94], (sh, I, L, R))) (M := mr_308) rfl (show mcode 308 30 = some (30, .aload_n 0, 1, 0, 0, 0, _) from rfl) (Or.inl ⟨.ref 94, rfl, rfl⟩) ?_
        refine XW.fam (S' := (34, [(0, .ref 94), (1, .int p), (2, .int n), (3, .int e)], [.int (I 94 60)], (sh, I, L, R))) (M := mr_308) rfl (show mcode 308 31 = some (31, .getfield 493, 3, 12, 60, 0, _) from rfl) (Or.inr (Or.inr (Or.inr (Or.inr (Or.inr (Or.inr (Or.inr (Or.inl ⟨_, _, rfl, fl_ldI c94 (by decide) (by decide), rfl⟩)))))))) ?_
        rw [em]
        refine XW.fam (S' := (36, [(0, .ref 94), (1, .int p), (2, .int n), (3, .int e)], [.int 16, .int m], (sh, I, L, R))) (M := mr_308) rfl (show mcode 308 34 = some (34, .bipush 16, 2, 0, 0, 0, _) from rfl) (Or.inl ⟨.int 16, rfl, rfl⟩) ?_
        cases k4 : bcmp .ne m 16 with
        | true =>
          have gk4 : ¬ (m).toInt = 16 := icT (c := .ne) (a := (m).toInt) (b := 16) rfl (by decide) k4
          refine XW.fam (S' := (42, [(0, .ref 94), (1, .int p), (2, .int n), (3, .int e)], [], (sh, I, L, R))) (M := mr_308) rfl (show mcode 308 36 = some (36, .if_icmp .ne 6, 3, 42, 0, 0, _) from rfl) (Or.inr (Or.inl ⟨42, [], by simp [brn, k4], rfl⟩)) ?_
          refine XW.fam (S' := (43, [(0, .ref 94), (1, .int p), (2, .int n), (3, .int e)], [.ref 94], (sh, I, L, R))) (M := mr_308) rfl (show mcode 308 42 = some (42, .aload_n 0, 1, 0, 0, 0, _) from rfl) (Or.inl ⟨.ref 94, rfl, rfl⟩) ?_
          refine XW.fam (S' := (46, [(0, .ref 94), (1, .int p), (2, .int n), (3, .int e)], [.ref 135], (sh, I, L, R))) (M := mr_308) rfl (show mcode 308 43 = some (43, .getfield 136, 3, 12, 61, 0, _) from rfl) (Or.inr (Or.inr (Or.inr (Or.inr (Or.inr (Or.inr (Or.inr (Or.inl ⟨_, _, rfl, fl_ld c94 r94_61 (by decide) (by decide), rfl⟩)))))))) ?_
          refine XW.fam (S' := (47, [(0, .ref 94), (1, .int p), (2, .int n), (3, .int e)], [.ref 94, .ref 135], (sh, I, L, R))) (M := mr_308) rfl (show mcode 308 46 = some (46, .aload_n 0, 1, 0, 0, 0, _) from rfl) (Or.inl ⟨.ref 94, rfl, rfl⟩) ?_
          refine XW.fam (S' := (50, [(0, .ref 94), (1, .int p), (2, .int n), (3, .int e)], [.int (I 94 60), .ref 135], (sh, I, L, R))) (M := mr_308) rfl (show mcode 308 47 = some (47, .getfield 493, 3, 12, 60, 0, _) from rfl) (Or.inr (Or.inr (Or.inr (Or.inr (Or.inr (Or.inr (Or.inr (Or.inl ⟨_, _, rfl, fl_ldI c94 (by decide) (by decide), rfl⟩)))))))) ?_
          rw [em]
          refine XW.fam (S' := (51, [(0, .ref 94), (1, .int p), (2, .int n), (3, .int e)], [.int n, .int m, .ref 135], (sh, I, L, R))) (M := mr_308) rfl (show mcode 308 50 = some (50, .iload_n 2, 1, 0, 0, 0, _) from rfl) (Or.inl ⟨.int n, rfl, rfl⟩) ?_
          have hin5 : inR m 16 = true := inR_of (by omega) (by omega)
          obtain ⟨I6, eI6⟩ : ∃ X, X = up2 I 135 (m).toNatClampNeg n := ⟨_, rfl⟩
          refine XW.fam (S' := (52, [(0, .ref 94), (1, .int p), (2, .int n), (3, .int e)], [], (sh, I6, L, R))) (M := mr_308) rfl (show mcode 308 51 = some (51, .iastore, 1, 0, 0, 0, _) from rfl) (Or.inr (Or.inr (Or.inr (Or.inl ⟨_, _, by rw [eI6]; exact sta_i c135 hin5, rfl⟩)))) ?_
          have hwI6 : wOK (mkT vV []) (wE sh R) (sh, I6, L, R) := by rw [eI6]; exact wOK_u3 (q := 135) (k := (m).toNatClampNeg) (x := n) hw (wE_b _ _ _ _ _ _ (by omega) hw.2.2.2) (by show (0 : Int) ≤ _; omega) (by show _ ≤ (60 : Int); omega)
          have hfI6 : fresh (sh, I6, L, R) := by rw [eI6]; exact fresh_I hf c135
          have v7 : I6 94 60 = m := by rw [eI6, up2_ne (fun e => by cases e.1)]; exact em
          refine XW.fam (S' := (53, [(0, .ref 94), (1, .int p), (2, .int n), (3, .int e)], [.ref 94], (sh, I6, L, R))) (M := mr_308) rfl (show mcode 308 52 = some (52, .aload_n 0, 1, 0, 0, 0, _) from rfl) (Or.inl ⟨.ref 94, rfl, rfl⟩) ?_
          refine XW.fam (S' := (56, [(0, .ref 94), (1, .int p), (2, .int n), (3, .int e)], [.ref 136], (sh, I6, L, R))) (M := mr_308) rfl (show mcode 308 53 = some (53, .getfield 139, 3, 12, 62, 0, _) from rfl) (Or.inr (Or.inr (Or.inr (Or.inr (Or.inr (Or.inr (Or.inr (Or.inl ⟨_, _, rfl, fl_ld c94 r94_62 (by decide) (by decide), rfl⟩)))))))) ?_
          refine XW.fam (S' := (57, [(0, .ref 94), (1, .int p), (2, .int n), (3, .int e)], [.ref 94, .ref 136], (sh, I6, L, R))) (M := mr_308) rfl (show mcode 308 56 = some (56, .aload_n 0, 1, 0, 0, 0, _) from rfl) (Or.inl ⟨.ref 94, rfl, rfl⟩) ?_
          refine XW.fam (S' := (60, [(0, .ref 94), (1, .int p), (2, .int n), (3, .int e)], [.int (I6 94 60), .ref 136], (sh, I6, L, R))) (M := mr_308) rfl (show mcode 308 57 = some (57, .getfield 493, 3, 12, 60, 0, _) from rfl) (Or.inr (Or.inr (Or.inr (Or.inr (Or.inr (Or.inr (Or.inr (Or.inl ⟨_, _, rfl, fl_ldI c94 (by decide) (by decide), rfl⟩)))))))) ?_
          rw [v7]
          refine XW.fam (S' := (61, [(0, .ref 94), (1, .int p), (2, .int n), (3, .int e)], [.int e, .int m, .ref 136], (sh, I6, L, R))) (M := mr_308) rfl (show mcode 308 60 = some (60, .iload_n 3, 1, 0, 0, 0, _) from rfl) (Or.inl ⟨.int e, rfl, rfl⟩) ?_
          have hin8 : inR m 16 = true := inR_of (by omega) (by omega)
          obtain ⟨I9, eI9⟩ : ∃ X, X = up2 I6 136 (m).toNatClampNeg e := ⟨_, rfl⟩
          refine XW.fam (S' := (62, [(0, .ref 94), (1, .int p), (2, .int n), (3, .int e)], [], (sh, I9, L, R))) (M := mr_308) rfl (show mcode 308 61 = some (61, .iastore, 1, 0, 0, 0, _) from rfl) (Or.inr (Or.inr (Or.inr (Or.inl ⟨_, _, by rw [eI9]; exact sta_i c136 hin8, rfl⟩)))) ?_
          have hwI9 : wOK (mkT vV []) (wE sh R) (sh, I9, L, R) := by rw [eI9]; exact wOK_u2 (q := 136) (k := (m).toNatClampNeg) (x := e) wE_put hwI6 rfl (by show (0 : Int) ≤ _; omega) (by show _ ≤ (30 : Int); omega)
          have hfI9 : fresh (sh, I9, L, R) := by rw [eI9]; exact fresh_I hfI6 c136
          have v10 : I9 94 60 = m := by rw [eI9, up2_ne (fun e => by cases e.1)]; exact v7
          have v11 : I9 136 (m).toNatClampNeg = e := by rw [eI9]; exact up2_eq
          refine XW.fam (S' := (63, [(0, .ref 94), (1, .int p), (2, .int n), (3, .int e)], [.ref 94], (sh, I9, L, R))) (M := mr_308) rfl (show mcode 308 62 = some (62, .aload_n 0, 1, 0, 0, 0, _) from rfl) (Or.inl ⟨.ref 94, rfl, rfl⟩) ?_
          refine XW.fam (S' := (66, [(0, .ref 94), (1, .int p), (2, .int n), (3, .int e)], [.ref 138], (sh, I9, L, R))) (M := mr_308) rfl (show mcode 308 63 = some (63, .getfield 145, 3, 12, 64, 0, _) from rfl) (Or.inr (Or.inr (Or.inr (Or.inr (Or.inr (Or.inr (Or.inr (Or.inl ⟨_, _, rfl, fl_ld c94 r94_64 (by decide) (by decide), rfl⟩)))))))) ?_
          refine XW.fam (S' := (67, [(0, .ref 94), (1, .int p), (2, .int n), (3, .int e)], [.ref 94, .ref 138], (sh, I9, L, R))) (M := mr_308) rfl (show mcode 308 66 = some (66, .aload_n 0, 1, 0, 0, 0, _) from rfl) (Or.inl ⟨.ref 94, rfl, rfl⟩) ?_
          refine XW.fam (S' := (70, [(0, .ref 94), (1, .int p), (2, .int n), (3, .int e)], [.int (I9 94 60), .ref 138], (sh, I9, L, R))) (M := mr_308) rfl (show mcode 308 67 = some (67, .getfield 493, 3, 12, 60, 0, _) from rfl) (Or.inr (Or.inr (Or.inr (Or.inr (Or.inr (Or.inr (Or.inr (Or.inl ⟨_, _, rfl, fl_ldI c94 (by decide) (by decide), rfl⟩)))))))) ?_
          rw [v10]
          refine XW.fam (S' := (71, [(0, .ref 94), (1, .int p), (2, .int n), (3, .int e)], [.int p, .int m, .ref 138], (sh, I9, L, R))) (M := mr_308) rfl (show mcode 308 70 = some (70, .iload_n 1, 1, 0, 0, 0, _) from rfl) (Or.inl ⟨.int p, rfl, rfl⟩) ?_
          have hin12 : inR m 16 = true := inR_of (by omega) (by omega)
          obtain ⟨I13, eI13⟩ : ∃ X, X = up2 I9 138 (m).toNatClampNeg p := ⟨_, rfl⟩
          refine XW.fam (S' := (72, [(0, .ref 94), (1, .int p), (2, .int n), (3, .int e)], [], (sh, I13, L, R))) (M := mr_308) rfl (show mcode 308 71 = some (71, .iastore, 1, 0, 0, 0, _) from rfl) (Or.inr (Or.inr (Or.inr (Or.inl ⟨_, _, by rw [eI13]; exact sta_i c138 hin12, rfl⟩)))) ?_
          have hwI13 : wOK (mkT vV []) (wE sh R) (sh, I13, L, R) := by rw [eI13]; exact wOK_u2 (q := 138) (k := (m).toNatClampNeg) (x := p) wE_put hwI9 rfl (by show (0 : Int) ≤ _; omega) (by show _ ≤ (19 : Int); omega)
          have hfI13 : fresh (sh, I13, L, R) := by rw [eI13]; exact fresh_I hfI9 c138
          have v14 : I13 94 60 = m := by rw [eI13, up2_ne (fun e => by cases e.1)]; exact v10
          have v15 : I13 136 (m).toNatClampNeg = e := by rw [eI13, up2_ne (fun e => by cases e.1)]; exact v11
          have v16 : I13 138 (m).toNatClampNeg = p := by rw [eI13]; exact up2_eq
          refine XW.fam (S' := (73, [(0, .ref 94), (1, .int p), (2, .int n), (3, .int e)], [.ref 94], (sh, I13, L, R))) (M := mr_308) rfl (show mcode 308 72 = some (72, .aload_n 0, 1, 0, 0, 0, _) from rfl) (Or.inl ⟨.ref 94, rfl, rfl⟩) ?_
          refine XW.fam (S' := (76, [(0, .ref 94), (1, .int p), (2, .int n), (3, .int e)], [.ref 139], (sh, I13, L, R))) (M := mr_308) rfl (show mcode 308 73 = some (73, .getfield 148, 3, 12, 65, 0, _) from rfl) (Or.inr (Or.inr (Or.inr (Or.inr (Or.inr (Or.inr (Or.inr (Or.inl ⟨_, _, rfl, fl_ld c94 r94_65 (by decide) (by decide), rfl⟩)))))))) ?_
          refine XW.fam (S' := (77, [(0, .ref 94), (1, .int p), (2, .int n), (3, .int e)], [.ref 94, .ref 139], (sh, I13, L, R))) (M := mr_308) rfl (show mcode 308 76 = some (76, .aload_n 0, 1, 0, 0, 0, _) from rfl) (Or.inl ⟨.ref 94, rfl, rfl⟩) ?_
          refine XW.fam (S' := (80, [(0, .ref 94), (1, .int p), (2, .int n), (3, .int e)], [.int (I13 94 60), .ref 139], (sh, I13, L, R))) (M := mr_308) rfl (show mcode 308 77 = some (77, .getfield 493, 3, 12, 60, 0, _) from rfl) (Or.inr (Or.inr (Or.inr (Or.inr (Or.inr (Or.inr (Or.inr (Or.inl ⟨_, _, rfl, fl_ldI c94 (by decide) (by decide), rfl⟩)))))))) ?_
          rw [v14]
          refine XW.fam (S' := (81, [(0, .ref 94), (1, .int p), (2, .int n), (3, .int e)], [.int (-1), .int m, .ref 139], (sh, I13, L, R))) (M := mr_308) rfl (show mcode 308 80 = some (80, .iconst (-1), 1, 0, 0, 0, _) from rfl) (Or.inl ⟨.int (-1), rfl, rfl⟩) ?_
          have hin17 : inR m 16 = true := inR_of (by omega) (by omega)
          obtain ⟨I18, eI18⟩ : ∃ X, X = up2 I13 139 (m).toNatClampNeg (-1) := ⟨_, rfl⟩
          refine XW.fam (S' := (82, [(0, .ref 94), (1, .int p), (2, .int n), (3, .int e)], [], (sh, I18, L, R))) (M := mr_308) rfl (show mcode 308 81 = some (81, .iastore, 1, 0, 0, 0, _) from rfl) (Or.inr (Or.inr (Or.inr (Or.inl ⟨_, _, by rw [eI18]; exact sta_i c139 hin17, rfl⟩)))) ?_
          have hwI18 : wOK (mkT vV []) (wE sh R) (sh, I18, L, R) := by rw [eI18]; exact wOK_u2 (q := 139) (k := (m).toNatClampNeg) (x := (-1)) wE_put hwI13 rfl (by show ((-1) : Int) ≤ _; omega) (by show _ ≤ (730 : Int); omega)
          have hfI18 : fresh (sh, I18, L, R) := by rw [eI18]; exact fresh_I hfI13 c139
          have v19 : I18 94 60 = m := by rw [eI18, up2_ne (fun e => by cases e.1)]; exact v14
          have v20 : I18 136 (m).toNatClampNeg = e := by rw [eI18, up2_ne (fun e => by cases e.1)]; exact v15
          have v21 : I18 138 (m).toNatClampNeg = p := by rw [eI18, up2_ne (fun e => by cases e.1)]; exact v16
          have v22 : I18 139 (m).toNatClampNeg = (-1) := by rw [eI18]; exact up2_eq
          refine XW.fam (S' := (83, [(0, .ref 94), (1, .int p), (2, .int n), (3, .int e)], [.ref 94], (sh, I18, L, R))) (M := mr_308) rfl (show mcode 308 82 = some (82, .aload_n 0, 1, 0, 0, 0, _) from rfl) (Or.inl ⟨.ref 94, rfl, rfl⟩) ?_
          refine XW.fam (S' := (86, [(0, .ref 94), (1, .int p), (2, .int n), (3, .int e)], [.ref 140], (sh, I18, L, R))) (M := mr_308) rfl (show mcode 308 83 = some (83, .getfield 151, 3, 12, 66, 0, _) from rfl) (Or.inr (Or.inr (Or.inr (Or.inr (Or.inr (Or.inr (Or.inr (Or.inl ⟨_, _, rfl, fl_ld c94 r94_66 (by decide) (by decide), rfl⟩)))))))) ?_
          refine XW.fam (S' := (87, [(0, .ref 94), (1, .int p), (2, .int n), (3, .int e)], [.ref 94, .ref 140], (sh, I18, L, R))) (M := mr_308) rfl (show mcode 308 86 = some (86, .aload_n 0, 1, 0, 0, 0, _) from rfl) (Or.inl ⟨.ref 94, rfl, rfl⟩) ?_
          refine XW.fam (S' := (90, [(0, .ref 94), (1, .int p), (2, .int n), (3, .int e)], [.int (I18 94 60), .ref 140], (sh, I18, L, R))) (M := mr_308) rfl (show mcode 308 87 = some (87, .getfield 493, 3, 12, 60, 0, _) from rfl) (Or.inr (Or.inr (Or.inr (Or.inr (Or.inr (Or.inr (Or.inr (Or.inl ⟨_, _, rfl, fl_ldI c94 (by decide) (by decide), rfl⟩)))))))) ?_
          rw [v19]
          refine XW.fam (S' := (91, [(0, .ref 94), (1, .int p), (2, .int n), (3, .int e)], [.int (-1), .int m, .ref 140], (sh, I18, L, R))) (M := mr_308) rfl (show mcode 308 90 = some (90, .iconst (-1), 1, 0, 0, 0, _) from rfl) (Or.inl ⟨.int (-1), rfl, rfl⟩) ?_
          have hin23 : inR m 16 = true := inR_of (by omega) (by omega)
          obtain ⟨I24, eI24⟩ : ∃ X, X = up2 I18 140 (m).toNatClampNeg (-1) := ⟨_, rfl⟩
          refine XW.fam (S' := (92, [(0, .ref 94), (1, .int p), (2, .int n), (3, .int e)], [], (sh, I24, L, R))) (M := mr_308) rfl (show mcode 308 91 = some (91, .iastore, 1, 0, 0, 0, _) from rfl) (Or.inr (Or.inr (Or.inr (Or.inl ⟨_, _, by rw [eI24]; exact sta_i c140 hin23, rfl⟩)))) ?_
          have hwI24 : wOK (mkT vV []) (wE sh R) (sh, I24, L, R) := by rw [eI24]; exact wOK_u2 (q := 140) (k := (m).toNatClampNeg) (x := (-1)) wE_put hwI18 rfl (by show ((-1) : Int) ≤ _; omega) (by show _ ≤ (700 : Int); omega)
          have hfI24 : fresh (sh, I24, L, R) := by rw [eI24]; exact fresh_I hfI18 c140
          have v25 : I24 94 60 = m := by rw [eI24, up2_ne (fun e => by cases e.1)]; exact v19
          have v26 : I24 136 (m).toNatClampNeg = e := by rw [eI24, up2_ne (fun e => by cases e.1)]; exact v20
          have v27 : I24 138 (m).toNatClampNeg = p := by rw [eI24, up2_ne (fun e => by cases e.1)]; exact v21
          have v28 : I24 139 (m).toNatClampNeg = (-1) := by rw [eI24, up2_ne (fun e => by cases e.1)]; exact v22
          have v29 : I24 140 (m).toNatClampNeg = (-1) := by rw [eI24]; exact up2_eq
          refine XW.fam (S' := (93, [(0, .ref 94), (1, .int p), (2, .int n), (3, .int e)], [.ref 94], (sh, I24, L, R))) (M := mr_308) rfl (show mcode 308 92 = some (92, .aload_n 0, 1, 0, 0, 0, _) from rfl) (Or.inl ⟨.ref 94, rfl, rfl⟩) ?_
          refine XW.fam (S' := (94, [(0, .ref 94), (1, .int p), (2, .int n), (3, .int e)], [.ref 94, .ref 94], (sh, I24, L, R))) (M := mr_308) rfl (show mcode 308 93 = some (93, .dup, 1, 0, 0, 0, _) from rfl) (Or.inr (Or.inr (Or.inr (Or.inr (Or.inr (Or.inl ⟨_, rfl, rfl⟩)))))) ?_
          refine XW.fam (S' := (97, [(0, .ref 94), (1, .int p), (2, .int n), (3, .int e)], [.int (I24 94 60), .ref 94], (sh, I24, L, R))) (M := mr_308) rfl (show mcode 308 94 = some (94, .getfield 493, 3, 12, 60, 0, _) from rfl) (Or.inr (Or.inr (Or.inr (Or.inr (Or.inr (Or.inr (Or.inr (Or.inl ⟨_, _, rfl, fl_ldI c94 (by decide) (by decide), rfl⟩)))))))) ?_
          rw [v25]
          refine XW.fam (S' := (98, [(0, .ref 94), (1, .int p), (2, .int n), (3, .int e)], [.int 1, .int m, .ref 94], (sh, I24, L, R))) (M := mr_308) rfl (show mcode 308 97 = some (97, .iconst 1, 1, 0, 0, 0, _) from rfl) (Or.inl ⟨.int 1, rfl, rfl⟩) ?_
          refine XW.fam (S' := (99, [(0, .ref 94), (1, .int p), (2, .int n), (3, .int e)], [.int (m + 1), .ref 94], (sh, I24, L, R))) (M := mr_308) rfl (show mcode 308 98 = some (98, .iadd, 1, 0, 0, 0, _) from rfl) (Or.inr (Or.inr (Or.inr (Or.inr (Or.inr (Or.inl ⟨_, rfl, rfl⟩)))))) ?_
          obtain ⟨I30, eI30⟩ : ∃ X, X = up2 I24 94 60 (m + 1) := ⟨_, rfl⟩
          refine XW.fam (S' := (102, [(0, .ref 94), (1, .int p), (2, .int n), (3, .int e)], [], (sh, I30, L, R))) (M := mr_308) rfl (show mcode 308 99 = some (99, .putfield 493, 3, 12, 60, 0, _) from rfl) (Or.inr (Or.inr (Or.inr (Or.inr (Or.inr (Or.inr (Or.inr (Or.inr (Or.inl ⟨_, _, _, rfl, by rw [eI30]; exact stf_I c94 (by decide) (by decide) (by decide), rfl⟩))))))))) ?_
          have xi := inc32 (m := m) (by omega) (by omega)
          have hbe : I24 135 (I24 94 60).toInt.toNat = n := by rw [v25]; show I24 135 (m).toNatClampNeg = _; rw [eI24, up2_ne (fun e => by cases e.1), eI18, up2_ne (fun e => by cases e.1), eI13, up2_ne (fun e => by cases e.1), eI9, up2_ne (fun e => by cases e.1), eI6, up2_eq]
          have hwI30 : wOK (mkT vV []) (wE sh R) (sh, I30, L, R) := by rw [eI30]; exact wOK_u3 (q := 94) (k := 60) (x := (m + 1)) hwI24 (wE_s _ _ _ _ _ (by rw [v25]; exact xi) (by rw [v25]; omega) (by rw [hbe]; omega) hwI24.2.2.2) (by show (0 : Int) ≤ _; omega) (by show _ ≤ (16 : Int); omega)
          have hfI30 : fresh (sh, I30, L, R) := by rw [eI30]; exact fresh_I hfI24 c94
          have v32 : I30 136 (m).toNatClampNeg = e := by rw [eI30, up2_ne (fun e => by cases e.1)]; exact v26
          have v33 : I30 138 (m).toNatClampNeg = p := by rw [eI30, up2_ne (fun e => by cases e.1)]; exact v27
          have v34 : I30 139 (m).toNatClampNeg = (-1) := by rw [eI30, up2_ne (fun e => by cases e.1)]; exact v28
          have v35 : I30 140 (m).toNatClampNeg = (-1) := by rw [eI30, up2_ne (fun e => by cases e.1)]; exact v29
          have v36 : I30 94 60 = (m + 1) := by rw [eI30]; exact up2_eq
          refine XW.fam (S' := (103, [(0, .ref 94), (1, .int p), (2, .int n), (3, .int e)], [.ref 94], (sh, I30, L, R))) (M := mr_308) rfl (show mcode 308 102 = some (102, .aload_n 0, 1, 0, 0, 0, _) from rfl) (Or.inl ⟨.ref 94, rfl, rfl⟩) ?_
          refine XW.fam (S' := (106, [(0, .ref 94), (1, .int p), (2, .int n), (3, .int e)], [.int (I30 94 60)], (sh, I30, L, R))) (M := mr_308) rfl (show mcode 308 103 = some (103, .getfield 493, 3, 12, 60, 0, _) from rfl) (Or.inr (Or.inr (Or.inr (Or.inr (Or.inr (Or.inr (Or.inr (Or.inl ⟨_, _, rfl, fl_ldI c94 (by decide) (by decide), rfl⟩)))))))) ?_
          rw [v36]
          refine XW.fam (S' := (107, [(0, .ref 94), (1, .int p), (2, .int n), (3, .int e)], [.int 1, .int (m + 1)], (sh, I30, L, R))) (M := mr_308) rfl (show mcode 308 106 = some (106, .iconst 1, 1, 0, 0, 0, _) from rfl) (Or.inl ⟨.int 1, rfl, rfl⟩) ?_
          refine XW.fam (S' := (108, [(0, .ref 94), (1, .int p), (2, .int n), (3, .int e)], [.int ((m + 1) - 1)], (sh, I30, L, R))) (M := mr_308) rfl (show mcode 308 107 = some (107, .isub, 1, 0, 0, 0, _) from rfl) (Or.inr (Or.inr (Or.inr (Or.inr (Or.inr (Or.inl ⟨_, rfl, rfl⟩)))))) ?_
          refine XW.ret (r := some (.int ((m + 1) - 1))) ⟨⟨.int, rfl, rfl⟩, by decide +kernel⟩ ?_
          have hkp : ∀ q k, inm mdSM q k = false → I30 q k = I q k := by
            intro q k h
            rw [eI30, up2_ne (fun e => by rw [e.1, e.2] at h; cases h), eI24, up2_ne (fun e => by rw [e.1] at h; cases h), eI18, up2_ne (fun e => by rw [e.1] at h; cases h), eI13, up2_ne (fun e => by rw [e.1] at h; cases h), eI9, up2_ne (fun e => by rw [e.1] at h; cases h), eI6, up2_ne (fun e => by rw [e.1] at h; cases h)]
          refine ⟨hfI30, ⟨sh, R, hwI30⟩, Or.inr (Or.inr ⟨show okSM I p n e by unfold okSM; omega, by show (I 94 60).toInt < (16 : Int); rw [em]; omega, ?_, ?_, hkp⟩)⟩
          · show some (Value.int _) = some (Value.int (I 94 60 + 0))
            rw [em, decr32, Int32.add_zero]
          · show I30 94 60 = I 94 60 + 1
            rw [em]
            exact v36
        | false =>
          have gk4 : ¬ (¬ (m).toInt = 16) := icF (c := .ne) (a := (m).toInt) (b := 16) rfl (by decide) k4
          refine XW.fam (S' := (39, [(0, .ref 94), (1, .int p), (2, .int n), (3, .int e)], [], (sh, I, L, R))) (M := mr_308) rfl (show mcode 308 36 = some (36, .if_icmp .ne 6, 3, 42, 0, 0, _) from rfl) (Or.inr (Or.inl ⟨39, [], by simp [brn, k4], rfl⟩)) ?_
          refine XW.fam (S' := (41, [(0, .ref 94), (1, .int p), (2, .int n), (3, .int e)], [.int (-3)], (sh, I, L, R))) (M := mr_308) rfl (show mcode 308 39 = some (39, .bipush (-3), 2, 0, 0, 0, _) from rfl) (Or.inl ⟨.int (-3), rfl, rfl⟩) ?_
          refine XW.ret (r := some (.int (-3))) ⟨⟨.int, rfl, rfl⟩, by decide +kernel⟩ ?_
          exact ⟨hf, ⟨sh, R, hw⟩, Or.inr (Or.inl ⟨show okSM I p n e by unfold okSM; omega, by show (16 : Int) ≤ (I 94 60).toInt; rw [em]; omega, rfl, rfl⟩)⟩
theorem tc_tellPost {d : Nat} {sh : List mE} {I : Nat → Nat → Int32} {L : Nat → Nat → Int64} {R : Nat → Nat → Option Nat} {p n : Int32} (hw : wOK (mkT vV []) (wE sh R) (sh, I, L, R)) (hf : fresh (sh, I, L, R)) : Tc 164 (d + 1) 0 0 [.ref 66, .int p, .int n] (sh, I, L, R) (Qapp 66 3 5 (okTC I p n) 1 mdTC (sh, I, L, R)) := by
  have c1 : sh[1]? = some (.inr 1) := hw.1 1 _ rfl
  have c66 : sh[66]? = some (.inr 8) := hw.1 66 _ rfl
  have c67 : sh[67]? = some (.inl (.int, 5)) := hw.1 67 _ rfl
  have c68 : sh[68]? = some (.inl (.int, 5)) := hw.1 68 _ rfl
  have r66_0 : R 66 0 = some 1 := hw.2.1 66 0 _ rfl
  have r66_5 : R 66 5 = some 67 := hw.2.1 66 5 _ rfl
  have r66_6 : R 66 6 = some 68 := hw.2.1 66 6 _ rfl
  have zm3 : ((-3) : Int32).toInt = (-3) := rfl
  have zm1 : ((-1) : Int32).toInt = (-1) := rfl
  have z0 : (0 : Int32).toInt = 0 := rfl
  have z1 : (1 : Int32).toInt = 1 := rfl
  have z3 : (3 : Int32).toInt = 3 := rfl
  have z5 : (5 : Int32).toInt = 5 := rfl
  have z999 : (999 : Int32).toInt = 999 := rfl
  have hm : 0 ≤ (I 1 1).toInt ∧ (I 1 1).toInt ≤ 20 := hw.2.2.1 1 1
  have hmc : 0 ≤ (I 66 3).toInt ∧ (I 66 3).toInt ≤ 5 := hw.2.2.1 66 3
  obtain ⟨m, em⟩ : ∃ m, I 66 3 = m := ⟨_, rfl⟩
  rw [em] at hmc
  refine Tc.of mr_164 rfl (show 3 ≤ mr_164.2.2.2.1 by decide) ?_
  refine XW.fam (S' := (1, [(0, .ref 66), (1, .int p), (2, .int n)], [.ref 66], (sh, I, L, R))) (M := mr_164) rfl (show mcode 164 0 = some (0, .aload_n 0, 1, 0, 0, 0, _) from rfl) (Or.inl ⟨.ref 66, rfl, rfl⟩) ?_
  refine XW.fam (S' := (4, [(0, .ref 66), (1, .int p), (2, .int n)], [.ref 1], (sh, I, L, R))) (M := mr_164) rfl (show mcode 164 1 = some (1, .getfield 36, 3, 8, 0, 0, _) from rfl) (Or.inr (Or.inr (Or.inr (Or.inr (Or.inr (Or.inr (Or.inr (Or.inl ⟨_, _, rfl, fl_ld c66 r66_0 (by decide) (by decide), rfl⟩)))))))) ?_
  refine XW.fam (S' := (5, [(0, .ref 66), (1, .int p), (2, .int n)], [.int p, .ref 1], (sh, I, L, R))) (M := mr_164) rfl (show mcode 164 4 = some (4, .iload_n 1, 1, 0, 0, 0, _) from rfl) (Or.inl ⟨.int p, rfl, rfl⟩) ?_
  refine XW.call (d' := d) (mc' := 0) (ms' := 0) (av := [.ref 1, .int p]) (rest := []) (M := mr_164) (Ma := mr_19) rfl (show mcode 164 5 = some (5, .invokevirtual 48, 3, 19, 0, 0, _) from rfl) rfl (by decide) (by decide) ⟨rfl, 1, _, rfl, c1⟩ rfl rfl (show 0 ≤ 8 by decide) (tc_isPlC (d := d) hw) (by omega) (Nat.zero_le _) (Nat.zero_le _) (fun rQ1 wQ1 Q1 => ?_)
  obtain ⟨hQ1, rfl⟩ := Q1
  rcases hQ1 with ⟨rfl, gQ1⟩ | ⟨rfl, gQ1⟩
  · skip
    refine XW.fam (S' := (34, [(0, .ref 66), (1, .int p), (2, .int n)], [], (sh, I, L, R))) (M := mr_164) rfl (show mcode 164 8 = some (8, .ifCond .eq 26, 3, 34, 0, 0, _) from rfl) (Or.inr (Or.inl ⟨34, [], rfl, rfl⟩)) ?_
    refine XW.fam (S' := (35, [(0, .ref 66), (1, .int p), (2, .int n)], [.int (-1)], (sh, I, L, R))) (M := mr_164) rfl (show mcode 164 34 = some (34, .iconst (-1), 1, 0, 0, 0, _) from rfl) (Or.inl ⟨.int (-1), rfl, rfl⟩) ?_
    refine XW.ret (r := some (.int (-1))) ⟨⟨.int, rfl, rfl⟩, by decide +kernel⟩ ?_
    exact ⟨hf, ⟨sh, R, hw⟩, Or.inl ⟨fun q => by have q1 : okTC I p n := q; unfold okTC at q1; omega, rfl, rfl⟩⟩
  · skip
    refine XW.fam (S' := (11, [(0, .ref 66), (1, .int p), (2, .int n)], [], (sh, I, L, R))) (M := mr_164) rfl (show mcode 164 8 = some (8, .ifCond .eq 26, 3, 34, 0, 0, _) from rfl) (Or.inr (Or.inl ⟨11, [], rfl, rfl⟩)) ?_
    refine XW.fam (S' := (12, [(0, .ref 66), (1, .int p), (2, .int n)], [.int n], (sh, I, L, R))) (M := mr_164) rfl (show mcode 164 11 = some (11, .iload_n 2, 1, 0, 0, 0, _) from rfl) (Or.inl ⟨.int n, rfl, rfl⟩) ?_
    refine XW.fam (S' := (13, [(0, .ref 66), (1, .int p), (2, .int n)], [.int 0, .int n], (sh, I, L, R))) (M := mr_164) rfl (show mcode 164 12 = some (12, .iconst 0, 1, 0, 0, 0, _) from rfl) (Or.inl ⟨.int 0, rfl, rfl⟩) ?_
    refine XW.fam (S' := (16, [(0, .ref 66), (1, .int p), (2, .int n)], [.int 999, .int 0, .int n], (sh, I, L, R))) (M := mr_164) rfl (show mcode 164 13 = some (13, .sipush 999, 3, 0, 0, 0, _) from rfl) (Or.inl ⟨.int 999, rfl, rfl⟩) ?_
    refine XW.call (d' := d) (mc' := 0) (ms' := 0) (av := [.int n, .int 0, .int 999]) (rest := []) (M := mr_164) (Ma := mr_15) rfl (show mcode 164 16 = some (16, .invokestatic 54, 3, 15, 1, 0, _) from rfl) rfl (by decide) (by decide) rfl rfl rfl (show 0 ≤ 8 by decide) (tc_inC) (by omega) (Nat.zero_le _) (Nat.zero_le _) (fun rQ2 wQ2 Q2 => ?_)
    obtain ⟨hQ2, rfl⟩ := Q2
    rcases hQ2 with ⟨rfl, gQ2⟩ | ⟨rfl, gQ2⟩
    · skip
      refine XW.fam (S' := (34, [(0, .ref 66), (1, .int p), (2, .int n)], [], (sh, I, L, R))) (M := mr_164) rfl (show mcode 164 19 = some (19, .ifCond .eq 15, 3, 34, 0, 0, _) from rfl) (Or.inr (Or.inl ⟨34, [], rfl, rfl⟩)) ?_
      refine XW.fam (S' := (35, [(0, .ref 66), (1, .int p), (2, .int n)], [.int (-1)], (sh, I, L, R))) (M := mr_164) rfl (show mcode 164 34 = some (34, .iconst (-1), 1, 0, 0, 0, _) from rfl) (Or.inl ⟨.int (-1), rfl, rfl⟩) ?_
      refine XW.ret (r := some (.int (-1))) ⟨⟨.int, rfl, rfl⟩, by decide +kernel⟩ ?_
      exact ⟨hf, ⟨sh, R, hw⟩, Or.inl ⟨fun q => by have q1 : okTC I p n := q; unfold okTC at q1; omega, rfl, rfl⟩⟩
    · skip
      refine XW.fam (S' := (22, [(0, .ref 66), (1, .int p), (2, .int n)], [], (sh, I, L, R))) (M := mr_164) rfl (show mcode 164 19 = some (19, .ifCond .eq 15, 3, 34, 0, 0, _) from rfl) (Or.inr (Or.inl ⟨22, [], rfl, rfl⟩)) ?_
      refine XW.fam (S' := (23, [(0, .ref 66), (1, .int p), (2, .int n)], [.int n], (sh, I, L, R))) (M := mr_164) rfl (show mcode 164 22 = some (22, .iload_n 2, 1, 0, 0, 0, _) from rfl) (Or.inl ⟨.int n, rfl, rfl⟩) ?_
      refine XW.call (d' := d) (mc' := 0) (ms' := 0) (av := [.int n]) (rest := []) (M := mr_164) (Ma := mr_165) rfl (show mcode 164 23 = some (23, .invokestatic 58, 3, 165, 0, 0, _) from rfl) rfl (by decide) (by decide) rfl rfl rfl (show 0 ≤ 8 by decide) (tc_menOf) (by omega) (Nat.zero_le _) (Nat.zero_le _) (fun rQ3 wQ3 Q3 => ?_)
      obtain ⟨rfl, rfl⟩ := Q3
      refine XW.fam (S' := (27, [(0, .ref 66), (1, .int p), (2, .int n)], [.int 1, .int (n / 10 - n / 10 / 10 * 10)], (sh, I, L, R))) (M := mr_164) rfl (show mcode 164 26 = some (26, .iconst 1, 1, 0, 0, 0, _) from rfl) (Or.inl ⟨.int 1, rfl, rfl⟩) ?_
      refine XW.fam (S' := (28, [(0, .ref 66), (1, .int p), (2, .int n)], [.int 3, .int 1, .int (n / 10 - n / 10 / 10 * 10)], (sh, I, L, R))) (M := mr_164) rfl (show mcode 164 27 = some (27, .iconst 3, 1, 0, 0, 0, _) from rfl) (Or.inl ⟨.int 3, rfl, rfl⟩) ?_
      refine XW.call (d' := d) (mc' := 0) (ms' := 0) (av := [.int (n / 10 - n / 10 / 10 * 10), .int 1, .int 3]) (rest := []) (M := mr_164) (Ma := mr_15) rfl (show mcode 164 28 = some (28, .invokestatic 54, 3, 15, 1, 0, _) from rfl) rfl (by decide) (by decide) rfl rfl rfl (show 0 ≤ 8 by decide) (tc_inC) (by omega) (Nat.zero_le _) (Nat.zero_le _) (fun rQ4 wQ4 Q4 => ?_)
      obtain ⟨hQ4, rfl⟩ := Q4
      rcases hQ4 with ⟨rfl, gQ4⟩ | ⟨rfl, gQ4⟩
      · skip
        refine XW.fam (S' := (34, [(0, .ref 66), (1, .int p), (2, .int n)], [], (sh, I, L, R))) (M := mr_164) rfl (show mcode 164 31 = some (31, .ifCond .ne 5, 3, 36, 0, 0, _) from rfl) (Or.inr (Or.inl ⟨34, [], rfl, rfl⟩)) ?_
        refine XW.fam (S' := (35, [(0, .ref 66), (1, .int p), (2, .int n)], [.int (-1)], (sh, I, L, R))) (M := mr_164) rfl (show mcode 164 34 = some (34, .iconst (-1), 1, 0, 0, 0, _) from rfl) (Or.inl ⟨.int (-1), rfl, rfl⟩) ?_
        refine XW.ret (r := some (.int (-1))) ⟨⟨.int, rfl, rfl⟩, by decide +kernel⟩ ?_
        exact ⟨hf, ⟨sh, R, hw⟩, Or.inl ⟨fun q => by have q1 : okTC I p n := q; unfold okTC at q1; omega, rfl, rfl⟩⟩
      · skip
        refine XW.fam (S' := (36, [(0, .ref 66), (1, .int p), (2, .int n)], [], (sh, I, L, R))) (M := mr_164) rfl (show mcode 164 31 = some (31, .ifCond .ne 5, 3, 36, 0, 0, _) from rfl) (Or.inr (Or.inl ⟨36, [], rfl, rfl⟩)) ?_
        refine XW.fam (S' := (37, [(0, .ref 66), (1, .int p), (2, .int n)], [.ref 66], (sh, I, L, R))) (M := mr_164) rfl (show mcode 164 36 = some (36, .aload_n 0, 1, 0, 0, 0, _) from rfl) (Or.inl ⟨.ref 66, rfl, rfl⟩) ?_
        refine XW.fam (S' := (40, [(0, .ref 66), (1, .int p), (2, .int n)], [.int (I 66 3)], (sh, I, L, R))) (M := mr_164) rfl (show mcode 164 37 = some (37, .getfield 62, 3, 8, 3, 0, _) from rfl) (Or.inr (Or.inr (Or.inr (Or.inr (Or.inr (Or.inr (Or.inr (Or.inl ⟨_, _, rfl, fl_ldI c66 (by decide) (by decide), rfl⟩)))))))) ?_
        rw [em]
        refine XW.fam (S' := (41, [(0, .ref 66), (1, .int p), (2, .int n)], [.int 5, .int m], (sh, I, L, R))) (M := mr_164) rfl (show mcode 164 40 = some (40, .iconst 5, 1, 0, 0, 0, _) from rfl) (Or.inl ⟨.int 5, rfl, rfl⟩) ?_
        cases k5 : bcmp .lt m 5 with
        | true =>
          have gk5 : (m).toInt < 5 := icT (c := .lt) (a := (m).toInt) (b := 5) rfl (by decide) k5
          refine XW.fam (S' := (47, [(0, .ref 66), (1, .int p), (2, .int n)], [], (sh, I, L, R))) (M := mr_164) rfl (show mcode 164 41 = some (41, .if_icmp .lt 6, 3, 47, 0, 0, _) from rfl) (Or.inr (Or.inl ⟨47, [], by simp [brn, k5], rfl⟩)) ?_
          refine XW.fam (S' := (48, [(0, .ref 66), (1, .int p), (2, .int n)], [.ref 66], (sh, I, L, R))) (M := mr_164) rfl (show mcode 164 47 = some (47, .aload_n 0, 1, 0, 0, 0, _) from rfl) (Or.inl ⟨.ref 66, rfl, rfl⟩) ?_
          refine XW.fam (S' := (51, [(0, .ref 66), (1, .int p), (2, .int n)], [.ref 67], (sh, I, L, R))) (M := mr_164) rfl (show mcode 164 48 = some (48, .getfield 11, 3, 8, 5, 0, _) from rfl) (Or.inr (Or.inr (Or.inr (Or.inr (Or.inr (Or.inr (Or.inr (Or.inl ⟨_, _, rfl, fl_ld c66 r66_5 (by decide) (by decide), rfl⟩)))))))) ?_
          refine XW.fam (S' := (52, [(0, .ref 66), (1, .int p), (2, .int n)], [.ref 66, .ref 67], (sh, I, L, R))) (M := mr_164) rfl (show mcode 164 51 = some (51, .aload_n 0, 1, 0, 0, 0, _) from rfl) (Or.inl ⟨.ref 66, rfl, rfl⟩) ?_
          refine XW.fam (S' := (55, [(0, .ref 66), (1, .int p), (2, .int n)], [.int (I 66 3), .ref 67], (sh, I, L, R))) (M := mr_164) rfl (show mcode 164 52 = some (52, .getfield 62, 3, 8, 3, 0, _) from rfl) (Or.inr (Or.inr (Or.inr (Or.inr (Or.inr (Or.inr (Or.inr (Or.inl ⟨_, _, rfl, fl_ldI c66 (by decide) (by decide), rfl⟩)))))))) ?_
          rw [em]
          refine XW.fam (S' := (56, [(0, .ref 66), (1, .int p), (2, .int n)], [.int p, .int m, .ref 67], (sh, I, L, R))) (M := mr_164) rfl (show mcode 164 55 = some (55, .iload_n 1, 1, 0, 0, 0, _) from rfl) (Or.inl ⟨.int p, rfl, rfl⟩) ?_
          have hin6 : inR m 5 = true := inR_of (by omega) (by omega)
          obtain ⟨I7, eI7⟩ : ∃ X, X = up2 I 67 (m).toNatClampNeg p := ⟨_, rfl⟩
          refine XW.fam (S' := (57, [(0, .ref 66), (1, .int p), (2, .int n)], [], (sh, I7, L, R))) (M := mr_164) rfl (show mcode 164 56 = some (56, .iastore, 1, 0, 0, 0, _) from rfl) (Or.inr (Or.inr (Or.inr (Or.inl ⟨_, _, by rw [eI7]; exact sta_i c67 hin6, rfl⟩)))) ?_
          have hwI7 : wOK (mkT vV []) (wE sh R) (sh, I7, L, R) := by rw [eI7]; exact wOK_u2 (q := 67) (k := (m).toNatClampNeg) (x := p) wE_put hw rfl (by show (0 : Int) ≤ _; omega) (by show _ ≤ (19 : Int); omega)
          have hfI7 : fresh (sh, I7, L, R) := by rw [eI7]; exact fresh_I hf c67
          have v8 : I7 66 3 = m := by rw [eI7, up2_ne (fun e => by cases e.1)]; exact em
          have v9 : I7 67 (m).toNatClampNeg = p := by rw [eI7]; exact up2_eq
          refine XW.fam (S' := (58, [(0, .ref 66), (1, .int p), (2, .int n)], [.ref 66], (sh, I7, L, R))) (M := mr_164) rfl (show mcode 164 57 = some (57, .aload_n 0, 1, 0, 0, 0, _) from rfl) (Or.inl ⟨.ref 66, rfl, rfl⟩) ?_
          refine XW.fam (S' := (61, [(0, .ref 66), (1, .int p), (2, .int n)], [.ref 68], (sh, I7, L, R))) (M := mr_164) rfl (show mcode 164 58 = some (58, .getfield 15, 3, 8, 6, 0, _) from rfl) (Or.inr (Or.inr (Or.inr (Or.inr (Or.inr (Or.inr (Or.inr (Or.inl ⟨_, _, rfl, fl_ld c66 r66_6 (by decide) (by decide), rfl⟩)))))))) ?_
          refine XW.fam (S' := (62, [(0, .ref 66), (1, .int p), (2, .int n)], [.ref 66, .ref 68], (sh, I7, L, R))) (M := mr_164) rfl (show mcode 164 61 = some (61, .aload_n 0, 1, 0, 0, 0, _) from rfl) (Or.inl ⟨.ref 66, rfl, rfl⟩) ?_
          refine XW.fam (S' := (65, [(0, .ref 66), (1, .int p), (2, .int n)], [.int (I7 66 3), .ref 68], (sh, I7, L, R))) (M := mr_164) rfl (show mcode 164 62 = some (62, .getfield 62, 3, 8, 3, 0, _) from rfl) (Or.inr (Or.inr (Or.inr (Or.inr (Or.inr (Or.inr (Or.inr (Or.inl ⟨_, _, rfl, fl_ldI c66 (by decide) (by decide), rfl⟩)))))))) ?_
          rw [v8]
          refine XW.fam (S' := (66, [(0, .ref 66), (1, .int p), (2, .int n)], [.int n, .int m, .ref 68], (sh, I7, L, R))) (M := mr_164) rfl (show mcode 164 65 = some (65, .iload_n 2, 1, 0, 0, 0, _) from rfl) (Or.inl ⟨.int n, rfl, rfl⟩) ?_
          have hin10 : inR m 5 = true := inR_of (by omega) (by omega)
          obtain ⟨I11, eI11⟩ : ∃ X, X = up2 I7 68 (m).toNatClampNeg n := ⟨_, rfl⟩
          refine XW.fam (S' := (67, [(0, .ref 66), (1, .int p), (2, .int n)], [], (sh, I11, L, R))) (M := mr_164) rfl (show mcode 164 66 = some (66, .iastore, 1, 0, 0, 0, _) from rfl) (Or.inr (Or.inr (Or.inr (Or.inl ⟨_, _, by rw [eI11]; exact sta_i c68 hin10, rfl⟩)))) ?_
          have hwI11 : wOK (mkT vV []) (wE sh R) (sh, I11, L, R) := by rw [eI11]; exact wOK_u2 (q := 68) (k := (m).toNatClampNeg) (x := n) wE_put hwI7 rfl (by show (0 : Int) ≤ _; omega) (by show _ ≤ (999 : Int); omega)
          have hfI11 : fresh (sh, I11, L, R) := by rw [eI11]; exact fresh_I hfI7 c68
          have v12 : I11 66 3 = m := by rw [eI11, up2_ne (fun e => by cases e.1)]; exact v8
          have v13 : I11 67 (m).toNatClampNeg = p := by rw [eI11, up2_ne (fun e => by cases e.1)]; exact v9
          have v14 : I11 68 (m).toNatClampNeg = n := by rw [eI11]; exact up2_eq
          refine XW.fam (S' := (68, [(0, .ref 66), (1, .int p), (2, .int n)], [.ref 66], (sh, I11, L, R))) (M := mr_164) rfl (show mcode 164 67 = some (67, .aload_n 0, 1, 0, 0, 0, _) from rfl) (Or.inl ⟨.ref 66, rfl, rfl⟩) ?_
          refine XW.fam (S' := (69, [(0, .ref 66), (1, .int p), (2, .int n)], [.ref 66, .ref 66], (sh, I11, L, R))) (M := mr_164) rfl (show mcode 164 68 = some (68, .dup, 1, 0, 0, 0, _) from rfl) (Or.inr (Or.inr (Or.inr (Or.inr (Or.inr (Or.inl ⟨_, rfl, rfl⟩)))))) ?_
          refine XW.fam (S' := (72, [(0, .ref 66), (1, .int p), (2, .int n)], [.int (I11 66 3), .ref 66], (sh, I11, L, R))) (M := mr_164) rfl (show mcode 164 69 = some (69, .getfield 62, 3, 8, 3, 0, _) from rfl) (Or.inr (Or.inr (Or.inr (Or.inr (Or.inr (Or.inr (Or.inr (Or.inl ⟨_, _, rfl, fl_ldI c66 (by decide) (by decide), rfl⟩)))))))) ?_
          rw [v12]
          refine XW.fam (S' := (73, [(0, .ref 66), (1, .int p), (2, .int n)], [.int 1, .int m, .ref 66], (sh, I11, L, R))) (M := mr_164) rfl (show mcode 164 72 = some (72, .iconst 1, 1, 0, 0, 0, _) from rfl) (Or.inl ⟨.int 1, rfl, rfl⟩) ?_
          refine XW.fam (S' := (74, [(0, .ref 66), (1, .int p), (2, .int n)], [.int (m + 1), .ref 66], (sh, I11, L, R))) (M := mr_164) rfl (show mcode 164 73 = some (73, .iadd, 1, 0, 0, 0, _) from rfl) (Or.inr (Or.inr (Or.inr (Or.inr (Or.inr (Or.inl ⟨_, rfl, rfl⟩)))))) ?_
          obtain ⟨I15, eI15⟩ : ∃ X, X = up2 I11 66 3 (m + 1) := ⟨_, rfl⟩
          refine XW.fam (S' := (77, [(0, .ref 66), (1, .int p), (2, .int n)], [], (sh, I15, L, R))) (M := mr_164) rfl (show mcode 164 74 = some (74, .putfield 62, 3, 8, 3, 0, _) from rfl) (Or.inr (Or.inr (Or.inr (Or.inr (Or.inr (Or.inr (Or.inr (Or.inr (Or.inl ⟨_, _, _, rfl, by rw [eI15]; exact stf_I c66 (by decide) (by decide) (by decide), rfl⟩))))))))) ?_
          have xi := inc32 (m := m) (by omega) (by omega)
          have hwI15 : wOK (mkT vV []) (wE sh R) (sh, I15, L, R) := by rw [eI15]; exact wOK_u2 (q := 66) (k := 3) (x := (m + 1)) wE_put hwI11 rfl (by show (0 : Int) ≤ _; omega) (by show _ ≤ (5 : Int); omega)
          have hfI15 : fresh (sh, I15, L, R) := by rw [eI15]; exact fresh_I hfI11 c66
          have v17 : I15 67 (m).toNatClampNeg = p := by rw [eI15, up2_ne (fun e => by cases e.1)]; exact v13
          have v18 : I15 68 (m).toNatClampNeg = n := by rw [eI15, up2_ne (fun e => by cases e.1)]; exact v14
          have v19 : I15 66 3 = (m + 1) := by rw [eI15]; exact up2_eq
          refine XW.fam (S' := (78, [(0, .ref 66), (1, .int p), (2, .int n)], [.ref 66], (sh, I15, L, R))) (M := mr_164) rfl (show mcode 164 77 = some (77, .aload_n 0, 1, 0, 0, 0, _) from rfl) (Or.inl ⟨.ref 66, rfl, rfl⟩) ?_
          refine XW.fam (S' := (81, [(0, .ref 66), (1, .int p), (2, .int n)], [.int (I15 66 3)], (sh, I15, L, R))) (M := mr_164) rfl (show mcode 164 78 = some (78, .getfield 62, 3, 8, 3, 0, _) from rfl) (Or.inr (Or.inr (Or.inr (Or.inr (Or.inr (Or.inr (Or.inr (Or.inl ⟨_, _, rfl, fl_ldI c66 (by decide) (by decide), rfl⟩)))))))) ?_
          rw [v19]
          refine XW.ret (r := some (.int (m + 1))) ⟨⟨.int, rfl, rfl⟩, by decide +kernel⟩ ?_
          have hkp : ∀ q k, inm mdTC q k = false → I15 q k = I q k := by
            intro q k h
            rw [eI15, up2_ne (fun e => by rw [e.1, e.2] at h; cases h), eI11, up2_ne (fun e => by rw [e.1] at h; cases h), eI7, up2_ne (fun e => by rw [e.1] at h; cases h)]
          refine ⟨hfI15, ⟨sh, R, hwI15⟩, Or.inr (Or.inr ⟨show okTC I p n by unfold okTC; omega, by show (I 66 3).toInt < (5 : Int); rw [em]; omega, ?_, ?_, hkp⟩)⟩
          · show some (Value.int _) = some (Value.int (I 66 3 + 1))
            rw [em]
          · show I15 66 3 = I 66 3 + 1
            rw [em]
            exact v19
        | false =>
          have gk5 : ¬ ((m).toInt < 5) := icF (c := .lt) (a := (m).toInt) (b := 5) rfl (by decide) k5
          refine XW.fam (S' := (44, [(0, .ref 66), (1, .int p), (2, .int n)], [], (sh, I, L, R))) (M := mr_164) rfl (show mcode 164 41 = some (41, .if_icmp .lt 6, 3, 47, 0, 0, _) from rfl) (Or.inr (Or.inl ⟨44, [], by simp [brn, k5], rfl⟩)) ?_
          refine XW.fam (S' := (46, [(0, .ref 66), (1, .int p), (2, .int n)], [.int (-3)], (sh, I, L, R))) (M := mr_164) rfl (show mcode 164 44 = some (44, .bipush (-3), 2, 0, 0, 0, _) from rfl) (Or.inl ⟨.int (-3), rfl, rfl⟩) ?_
          refine XW.ret (r := some (.int (-3))) ⟨⟨.int, rfl, rfl⟩, by decide +kernel⟩ ?_
          exact ⟨hf, ⟨sh, R, hw⟩, Or.inr (Or.inl ⟨show okTC I p n by unfold okTC; omega, by show (5 : Int) ≤ (I 66 3).toInt; rw [em]; omega, rfl, rfl⟩)⟩
theorem tc_postC {d : Nat} {sh : List mE} {R : Nat → Nat → Option Nat} {w : mW} {p n : Int32} (hw : wOK (mkT vV []) (wE sh R) w) (hf : fresh w) : Tc 163 (d + 2) 0 0 [.ref 0, .int p, .int n] w (Qapp 66 3 5 (okTC w.2.1 p n) 1 mdTC w) := by
  obtain ⟨sh0, I, L, R0⟩ := w
  obtain rfl : sh = sh0 := hw.2.2.2.1.symm
  obtain rfl : R = R0 := hw.2.2.2.2.1.symm
  have c0 : sh[0]? = some (.inr 0) := hw.1 0 _ rfl
  have c66 : sh[66]? = some (.inr 8) := hw.1 66 _ rfl
  have r0_7 : R 0 7 = some 66 := hw.2.1 0 7 _ rfl
  refine Tc.of mr_163 rfl (show 3 ≤ mr_163.2.2.2.1 by decide) ?_
  refine XW.fam (S' := (1, [(0, .ref 0), (1, .int p), (2, .int n)], [.ref 0], (sh, I, L, R))) (M := mr_163) rfl (show mcode 163 0 = some (0, .aload_n 0, 1, 0, 0, 0, _) from rfl) (Or.inl ⟨.ref 0, rfl, rfl⟩) ?_
  refine XW.fam (S' := (4, [(0, .ref 0), (1, .int p), (2, .int n)], [.ref 66], (sh, I, L, R))) (M := mr_163) rfl (show mcode 163 1 = some (1, .getfield 69, 3, 0, 7, 0, _) from rfl) (Or.inr (Or.inr (Or.inr (Or.inr (Or.inr (Or.inr (Or.inr (Or.inl ⟨_, _, rfl, fl_ld c0 r0_7 (by decide) (by decide), rfl⟩)))))))) ?_
  refine XW.fam (S' := (5, [(0, .ref 0), (1, .int p), (2, .int n)], [.int p, .ref 66], (sh, I, L, R))) (M := mr_163) rfl (show mcode 163 4 = some (4, .iload_n 1, 1, 0, 0, 0, _) from rfl) (Or.inl ⟨.int p, rfl, rfl⟩) ?_
  refine XW.fam (S' := (6, [(0, .ref 0), (1, .int p), (2, .int n)], [.int n, .int p, .ref 66], (sh, I, L, R))) (M := mr_163) rfl (show mcode 163 5 = some (5, .iload_n 2, 1, 0, 0, 0, _) from rfl) (Or.inl ⟨.int n, rfl, rfl⟩) ?_
  refine XW.call (d' := d + 1) (mc' := 0) (ms' := 0) (av := [.ref 66, .int p, .int n]) (rest := []) (M := mr_163) (Ma := mr_164) rfl (show mcode 163 6 = some (6, .invokevirtual 280, 3, 164, 0, 0, _) from rfl) rfl (by decide) (by decide) ⟨rfl, 66, _, rfl, c66⟩ rfl rfl (show 0 ≤ 8 by decide) (tc_tellPost (d := d) hw hf) (by omega) (Nat.zero_le _) (Nat.zero_le _) (fun rQ1 wQ1 Q1 => ?_)
  obtain ⟨yQ1, eyQ1⟩ := Qapp_int Q1
  subst eyQ1
  refine XW.ret (r := some (.int yQ1)) ⟨⟨.int, rfl, rfl⟩, by decide +kernel⟩ ?_
  exact Q1
theorem tc_postM {d : Nat} {sh : List mE} {R : Nat → Nat → Option Nat} {w : mW} {p n : Int32} (hw : wOK (mkT vV []) (wE sh R) w) (hf : fresh w) : Tc 327 (d + 2) 0 0 [.ref 94, .int p, .int n] w (Qapp 94 68 5 (okTM w.2.1 p n) 1 mdTM w) := by
  obtain ⟨sh0, I, L, R0⟩ := w
  obtain rfl : sh = sh0 := hw.2.2.2.1.symm
  obtain rfl : R = R0 := hw.2.2.2.2.1.symm
  have c94 : sh[94]? = some (.inr 12) := hw.1 94 _ rfl
  have c142 : sh[142]? = some (.inl (.int, 5)) := hw.1 142 _ rfl
  have c143 : sh[143]? = some (.inl (.int, 5)) := hw.1 143 _ rfl
  have r94_69 : R 94 69 = some 142 := hw.2.1 94 69 _ rfl
  have r94_70 : R 94 70 = some 143 := hw.2.1 94 70 _ rfl
  have zm3 : ((-3) : Int32).toInt = (-3) := rfl
  have zm1 : ((-1) : Int32).toInt = (-1) := rfl
  have z1 : (1 : Int32).toInt = 1 := rfl
  have z3 : (3 : Int32).toInt = 3 := rfl
  have z5 : (5 : Int32).toInt = 5 := rfl
  have z10 : (10 : Int32).toInt = 10 := rfl
  have z939 : (939 : Int32).toInt = 939 := rfl
  have hm : 0 ≤ (I 94 2).toInt ∧ (I 94 2).toInt ≤ 20 := hw.2.2.1 94 2
  have hmc : 0 ≤ (I 94 68).toInt ∧ (I 94 68).toInt ≤ 5 := hw.2.2.1 94 68
  obtain ⟨m, em⟩ : ∃ m, I 94 68 = m := ⟨_, rfl⟩
  rw [em] at hmc
  refine Tc.of mr_327 rfl (show 3 ≤ mr_327.2.2.2.1 by decide) ?_
  refine XW.fam (S' := (1, [(0, .ref 94), (1, .int p), (2, .int n)], [.ref 94], (sh, I, L, R))) (M := mr_327) rfl (show mcode 327 0 = some (0, .aload_n 0, 1, 0, 0, 0, _) from rfl) (Or.inl ⟨.ref 94, rfl, rfl⟩) ?_
  refine XW.fam (S' := (2, [(0, .ref 94), (1, .int p), (2, .int n)], [.int p, .ref 94], (sh, I, L, R))) (M := mr_327) rfl (show mcode 327 1 = some (1, .iload_n 1, 1, 0, 0, 0, _) from rfl) (Or.inl ⟨.int p, rfl, rfl⟩) ?_
  refine XW.call (d' := d + 1) (mc' := 0) (ms' := 0) (av := [.ref 94, .int p]) (rest := []) (M := mr_327) (Ma := mr_240) rfl (show mcode 327 2 = some (2, .invokevirtual 269, 3, 240, 0, 0, _) from rfl) rfl (by decide) (by decide) ⟨rfl, 94, _, rfl, c94⟩ rfl rfl (show 0 ≤ 8 by decide) (tc_isPlM (d := d) hw) (by omega) (Nat.zero_le _) (Nat.zero_le _) (fun rQ1 wQ1 Q1 => ?_)
  obtain ⟨hQ1, rfl⟩ := Q1
  rcases hQ1 with ⟨rfl, gQ1⟩ | ⟨rfl, gQ1⟩
  · skip
    refine XW.fam (S' := (35, [(0, .ref 94), (1, .int p), (2, .int n)], [], (sh, I, L, R))) (M := mr_327) rfl (show mcode 327 5 = some (5, .ifCond .eq 30, 3, 35, 0, 0, _) from rfl) (Or.inr (Or.inl ⟨35, [], rfl, rfl⟩)) ?_
    refine XW.fam (S' := (36, [(0, .ref 94), (1, .int p), (2, .int n)], [.int (-1)], (sh, I, L, R))) (M := mr_327) rfl (show mcode 327 35 = some (35, .iconst (-1), 1, 0, 0, 0, _) from rfl) (Or.inl ⟨.int (-1), rfl, rfl⟩) ?_
    refine XW.ret (r := some (.int (-1))) ⟨⟨.int, rfl, rfl⟩, by decide +kernel⟩ ?_
    exact ⟨hf, ⟨sh, R, hw⟩, Or.inl ⟨fun q => by have q1 : okTM I p n := q; unfold okTM at q1; omega, rfl, rfl⟩⟩
  · skip
    refine XW.fam (S' := (8, [(0, .ref 94), (1, .int p), (2, .int n)], [], (sh, I, L, R))) (M := mr_327) rfl (show mcode 327 5 = some (5, .ifCond .eq 30, 3, 35, 0, 0, _) from rfl) (Or.inr (Or.inl ⟨8, [], rfl, rfl⟩)) ?_
    refine XW.fam (S' := (9, [(0, .ref 94), (1, .int p), (2, .int n)], [.int n], (sh, I, L, R))) (M := mr_327) rfl (show mcode 327 8 = some (8, .iload_n 2, 1, 0, 0, 0, _) from rfl) (Or.inl ⟨.int n, rfl, rfl⟩) ?_
    refine XW.fam (S' := (11, [(0, .ref 94), (1, .int p), (2, .int n)], [.int 10, .int n], (sh, I, L, R))) (M := mr_327) rfl (show mcode 327 9 = some (9, .bipush 10, 2, 0, 0, 0, _) from rfl) (Or.inl ⟨.int 10, rfl, rfl⟩) ?_
    refine XW.fam (S' := (14, [(0, .ref 94), (1, .int p), (2, .int n)], [.int 939, .int 10, .int n], (sh, I, L, R))) (M := mr_327) rfl (show mcode 327 11 = some (11, .sipush 939, 3, 0, 0, 0, _) from rfl) (Or.inl ⟨.int 939, rfl, rfl⟩) ?_
    refine XW.call (d' := d) (mc' := 0) (ms' := 0) (av := [.int n, .int 10, .int 939]) (rest := []) (M := mr_327) (Ma := mr_236) rfl (show mcode 327 14 = some (14, .invokestatic 254, 3, 236, 0, 0, _) from rfl) rfl (by decide) (by decide) rfl rfl rfl (show 0 ≤ 8 by decide) (tc_inM) (by omega) (Nat.zero_le _) (Nat.zero_le _) (fun rQ2 wQ2 Q2 => ?_)
    obtain ⟨hQ2, rfl⟩ := Q2
    rcases hQ2 with ⟨rfl, gQ2⟩ | ⟨rfl, gQ2⟩
    · skip
      refine XW.fam (S' := (35, [(0, .ref 94), (1, .int p), (2, .int n)], [], (sh, I, L, R))) (M := mr_327) rfl (show mcode 327 17 = some (17, .ifCond .eq 18, 3, 35, 0, 0, _) from rfl) (Or.inr (Or.inl ⟨35, [], rfl, rfl⟩)) ?_
      refine XW.fam (S' := (36, [(0, .ref 94), (1, .int p), (2, .int n)], [.int (-1)], (sh, I, L, R))) (M := mr_327) rfl (show mcode 327 35 = some (35, .iconst (-1), 1, 0, 0, 0, _) from rfl) (Or.inl ⟨.int (-1), rfl, rfl⟩) ?_
      refine XW.ret (r := some (.int (-1))) ⟨⟨.int, rfl, rfl⟩, by decide +kernel⟩ ?_
      exact ⟨hf, ⟨sh, R, hw⟩, Or.inl ⟨fun q => by have q1 : okTM I p n := q; unfold okTM at q1; omega, rfl, rfl⟩⟩
    · skip
      refine XW.fam (S' := (20, [(0, .ref 94), (1, .int p), (2, .int n)], [], (sh, I, L, R))) (M := mr_327) rfl (show mcode 327 17 = some (17, .ifCond .eq 18, 3, 35, 0, 0, _) from rfl) (Or.inr (Or.inl ⟨20, [], rfl, rfl⟩)) ?_
      refine XW.fam (S' := (21, [(0, .ref 94), (1, .int p), (2, .int n)], [.int n], (sh, I, L, R))) (M := mr_327) rfl (show mcode 327 20 = some (20, .iload_n 2, 1, 0, 0, 0, _) from rfl) (Or.inl ⟨.int n, rfl, rfl⟩) ?_
      refine XW.fam (S' := (23, [(0, .ref 94), (1, .int p), (2, .int n)], [.int 10, .int n], (sh, I, L, R))) (M := mr_327) rfl (show mcode 327 21 = some (21, .bipush 10, 2, 0, 0, 0, _) from rfl) (Or.inl ⟨.int 10, rfl, rfl⟩) ?_
      refine XW.fam (S' := (24, [(0, .ref 94), (1, .int p), (2, .int n)], [.int (n / 10)], (sh, I, L, R))) (M := mr_327) rfl (show mcode 327 23 = some (23, .idiv, 1, 0, 0, 0, _) from rfl) (Or.inr (Or.inr (Or.inr (Or.inr (Or.inr (Or.inl ⟨_, stk_bin (by simp only [ibin]; rw [if_neg (by decide)]), rfl⟩)))))) ?_
      refine XW.fam (S' := (26, [(0, .ref 94), (1, .int p), (2, .int n)], [.int 10, .int (n / 10)], (sh, I, L, R))) (M := mr_327) rfl (show mcode 327 24 = some (24, .bipush 10, 2, 0, 0, 0, _) from rfl) (Or.inl ⟨.int 10, rfl, rfl⟩) ?_
      refine XW.fam (S' := (27, [(0, .ref 94), (1, .int p), (2, .int n)], [.int ((n / 10) - (n / 10) / 10 * 10)], (sh, I, L, R))) (M := mr_327) rfl (show mcode 327 26 = some (26, .irem, 1, 0, 0, 0, _) from rfl) (Or.inr (Or.inr (Or.inr (Or.inr (Or.inr (Or.inl ⟨_, stk_bin (by simp only [ibin]; rw [if_neg (by decide)]), rfl⟩)))))) ?_
      refine XW.fam (S' := (28, [(0, .ref 94), (1, .int p), (2, .int n)], [.int 1, .int ((n / 10) - (n / 10) / 10 * 10)], (sh, I, L, R))) (M := mr_327) rfl (show mcode 327 27 = some (27, .iconst 1, 1, 0, 0, 0, _) from rfl) (Or.inl ⟨.int 1, rfl, rfl⟩) ?_
      refine XW.fam (S' := (29, [(0, .ref 94), (1, .int p), (2, .int n)], [.int 3, .int 1, .int ((n / 10) - (n / 10) / 10 * 10)], (sh, I, L, R))) (M := mr_327) rfl (show mcode 327 28 = some (28, .iconst 3, 1, 0, 0, 0, _) from rfl) (Or.inl ⟨.int 3, rfl, rfl⟩) ?_
      refine XW.call (d' := d) (mc' := 0) (ms' := 0) (av := [.int ((n / 10) - (n / 10) / 10 * 10), .int 1, .int 3]) (rest := []) (M := mr_327) (Ma := mr_236) rfl (show mcode 327 29 = some (29, .invokestatic 254, 3, 236, 0, 0, _) from rfl) rfl (by decide) (by decide) rfl rfl rfl (show 0 ≤ 8 by decide) (tc_inM) (by omega) (Nat.zero_le _) (Nat.zero_le _) (fun rQ3 wQ3 Q3 => ?_)
      obtain ⟨hQ3, rfl⟩ := Q3
      rcases hQ3 with ⟨rfl, gQ3⟩ | ⟨rfl, gQ3⟩
      · skip
        refine XW.fam (S' := (35, [(0, .ref 94), (1, .int p), (2, .int n)], [], (sh, I, L, R))) (M := mr_327) rfl (show mcode 327 32 = some (32, .ifCond .ne 5, 3, 37, 0, 0, _) from rfl) (Or.inr (Or.inl ⟨35, [], rfl, rfl⟩)) ?_
        refine XW.fam (S' := (36, [(0, .ref 94), (1, .int p), (2, .int n)], [.int (-1)], (sh, I, L, R))) (M := mr_327) rfl (show mcode 327 35 = some (35, .iconst (-1), 1, 0, 0, 0, _) from rfl) (Or.inl ⟨.int (-1), rfl, rfl⟩) ?_
        refine XW.ret (r := some (.int (-1))) ⟨⟨.int, rfl, rfl⟩, by decide +kernel⟩ ?_
        exact ⟨hf, ⟨sh, R, hw⟩, Or.inl ⟨fun q => by have q1 : okTM I p n := q; unfold okTM at q1; omega, rfl, rfl⟩⟩
      · skip
        refine XW.fam (S' := (37, [(0, .ref 94), (1, .int p), (2, .int n)], [], (sh, I, L, R))) (M := mr_327) rfl (show mcode 327 32 = some (32, .ifCond .ne 5, 3, 37, 0, 0, _) from rfl) (Or.inr (Or.inl ⟨37, [], rfl, rfl⟩)) ?_
        refine XW.fam (S' := (38, [(0, .ref 94), (1, .int p), (2, .int n)], [.ref 94], (sh, I, L, R))) (M := mr_327) rfl (show mcode 327 37 = some (37, .aload_n 0, 1, 0, 0, 0, _) from rfl) (Or.inl ⟨.ref 94, rfl, rfl⟩) ?_
        refine XW.fam (S' := (41, [(0, .ref 94), (1, .int p), (2, .int n)], [.int (I 94 68)], (sh, I, L, R))) (M := mr_327) rfl (show mcode 327 38 = some (38, .getfield 525, 3, 12, 68, 0, _) from rfl) (Or.inr (Or.inr (Or.inr (Or.inr (Or.inr (Or.inr (Or.inr (Or.inl ⟨_, _, rfl, fl_ldI c94 (by decide) (by decide), rfl⟩)))))))) ?_
        rw [em]
        refine XW.fam (S' := (42, [(0, .ref 94), (1, .int p), (2, .int n)], [.int 5, .int m], (sh, I, L, R))) (M := mr_327) rfl (show mcode 327 41 = some (41, .iconst 5, 1, 0, 0, 0, _) from rfl) (Or.inl ⟨.int 5, rfl, rfl⟩) ?_
        cases k4 : bcmp .ne m 5 with
        | true =>
          have gk4 : ¬ (m).toInt = 5 := icT (c := .ne) (a := (m).toInt) (b := 5) rfl (by decide) k4
          refine XW.fam (S' := (48, [(0, .ref 94), (1, .int p), (2, .int n)], [], (sh, I, L, R))) (M := mr_327) rfl (show mcode 327 42 = some (42, .if_icmp .ne 6, 3, 48, 0, 0, _) from rfl) (Or.inr (Or.inl ⟨48, [], by simp [brn, k4], rfl⟩)) ?_
          refine XW.fam (S' := (49, [(0, .ref 94), (1, .int p), (2, .int n)], [.ref 94], (sh, I, L, R))) (M := mr_327) rfl (show mcode 327 48 = some (48, .aload_n 0, 1, 0, 0, 0, _) from rfl) (Or.inl ⟨.ref 94, rfl, rfl⟩) ?_
          refine XW.fam (S' := (52, [(0, .ref 94), (1, .int p), (2, .int n)], [.ref 142], (sh, I, L, R))) (M := mr_327) rfl (show mcode 327 49 = some (49, .getfield 157, 3, 12, 69, 0, _) from rfl) (Or.inr (Or.inr (Or.inr (Or.inr (Or.inr (Or.inr (Or.inr (Or.inl ⟨_, _, rfl, fl_ld c94 r94_69 (by decide) (by decide), rfl⟩)))))))) ?_
          refine XW.fam (S' := (53, [(0, .ref 94), (1, .int p), (2, .int n)], [.ref 94, .ref 142], (sh, I, L, R))) (M := mr_327) rfl (show mcode 327 52 = some (52, .aload_n 0, 1, 0, 0, 0, _) from rfl) (Or.inl ⟨.ref 94, rfl, rfl⟩) ?_
          refine XW.fam (S' := (56, [(0, .ref 94), (1, .int p), (2, .int n)], [.int (I 94 68), .ref 142], (sh, I, L, R))) (M := mr_327) rfl (show mcode 327 53 = some (53, .getfield 525, 3, 12, 68, 0, _) from rfl) (Or.inr (Or.inr (Or.inr (Or.inr (Or.inr (Or.inr (Or.inr (Or.inl ⟨_, _, rfl, fl_ldI c94 (by decide) (by decide), rfl⟩)))))))) ?_
          rw [em]
          refine XW.fam (S' := (57, [(0, .ref 94), (1, .int p), (2, .int n)], [.int p, .int m, .ref 142], (sh, I, L, R))) (M := mr_327) rfl (show mcode 327 56 = some (56, .iload_n 1, 1, 0, 0, 0, _) from rfl) (Or.inl ⟨.int p, rfl, rfl⟩) ?_
          have hin5 : inR m 5 = true := inR_of (by omega) (by omega)
          obtain ⟨I6, eI6⟩ : ∃ X, X = up2 I 142 (m).toNatClampNeg p := ⟨_, rfl⟩
          refine XW.fam (S' := (58, [(0, .ref 94), (1, .int p), (2, .int n)], [], (sh, I6, L, R))) (M := mr_327) rfl (show mcode 327 57 = some (57, .iastore, 1, 0, 0, 0, _) from rfl) (Or.inr (Or.inr (Or.inr (Or.inl ⟨_, _, by rw [eI6]; exact sta_i c142 hin5, rfl⟩)))) ?_
          have hwI6 : wOK (mkT vV []) (wE sh R) (sh, I6, L, R) := by rw [eI6]; exact wOK_u2 (q := 142) (k := (m).toNatClampNeg) (x := p) wE_put hw rfl (by show (0 : Int) ≤ _; omega) (by show _ ≤ (19 : Int); omega)
          have hfI6 : fresh (sh, I6, L, R) := by rw [eI6]; exact fresh_I hf c142
          have v7 : I6 94 68 = m := by rw [eI6, up2_ne (fun e => by cases e.1)]; exact em
          have v8 : I6 142 (m).toNatClampNeg = p := by rw [eI6]; exact up2_eq
          refine XW.fam (S' := (59, [(0, .ref 94), (1, .int p), (2, .int n)], [.ref 94], (sh, I6, L, R))) (M := mr_327) rfl (show mcode 327 58 = some (58, .aload_n 0, 1, 0, 0, 0, _) from rfl) (Or.inl ⟨.ref 94, rfl, rfl⟩) ?_
          refine XW.fam (S' := (62, [(0, .ref 94), (1, .int p), (2, .int n)], [.ref 143], (sh, I6, L, R))) (M := mr_327) rfl (show mcode 327 59 = some (59, .getfield 160, 3, 12, 70, 0, _) from rfl) (Or.inr (Or.inr (Or.inr (Or.inr (Or.inr (Or.inr (Or.inr (Or.inl ⟨_, _, rfl, fl_ld c94 r94_70 (by decide) (by decide), rfl⟩)))))))) ?_
          refine XW.fam (S' := (63, [(0, .ref 94), (1, .int p), (2, .int n)], [.ref 94, .ref 143], (sh, I6, L, R))) (M := mr_327) rfl (show mcode 327 62 = some (62, .aload_n 0, 1, 0, 0, 0, _) from rfl) (Or.inl ⟨.ref 94, rfl, rfl⟩) ?_
          refine XW.fam (S' := (66, [(0, .ref 94), (1, .int p), (2, .int n)], [.int (I6 94 68), .ref 143], (sh, I6, L, R))) (M := mr_327) rfl (show mcode 327 63 = some (63, .getfield 525, 3, 12, 68, 0, _) from rfl) (Or.inr (Or.inr (Or.inr (Or.inr (Or.inr (Or.inr (Or.inr (Or.inl ⟨_, _, rfl, fl_ldI c94 (by decide) (by decide), rfl⟩)))))))) ?_
          rw [v7]
          refine XW.fam (S' := (67, [(0, .ref 94), (1, .int p), (2, .int n)], [.int n, .int m, .ref 143], (sh, I6, L, R))) (M := mr_327) rfl (show mcode 327 66 = some (66, .iload_n 2, 1, 0, 0, 0, _) from rfl) (Or.inl ⟨.int n, rfl, rfl⟩) ?_
          have hin9 : inR m 5 = true := inR_of (by omega) (by omega)
          obtain ⟨I10, eI10⟩ : ∃ X, X = up2 I6 143 (m).toNatClampNeg n := ⟨_, rfl⟩
          refine XW.fam (S' := (68, [(0, .ref 94), (1, .int p), (2, .int n)], [], (sh, I10, L, R))) (M := mr_327) rfl (show mcode 327 67 = some (67, .iastore, 1, 0, 0, 0, _) from rfl) (Or.inr (Or.inr (Or.inr (Or.inl ⟨_, _, by rw [eI10]; exact sta_i c143 hin9, rfl⟩)))) ?_
          have hwI10 : wOK (mkT vV []) (wE sh R) (sh, I10, L, R) := by rw [eI10]; exact wOK_u2 (q := 143) (k := (m).toNatClampNeg) (x := n) wE_put hwI6 rfl (by show (0 : Int) ≤ _; omega) (by show _ ≤ (939 : Int); omega)
          have hfI10 : fresh (sh, I10, L, R) := by rw [eI10]; exact fresh_I hfI6 c143
          have v11 : I10 94 68 = m := by rw [eI10, up2_ne (fun e => by cases e.1)]; exact v7
          have v12 : I10 142 (m).toNatClampNeg = p := by rw [eI10, up2_ne (fun e => by cases e.1)]; exact v8
          have v13 : I10 143 (m).toNatClampNeg = n := by rw [eI10]; exact up2_eq
          refine XW.fam (S' := (69, [(0, .ref 94), (1, .int p), (2, .int n)], [.ref 94], (sh, I10, L, R))) (M := mr_327) rfl (show mcode 327 68 = some (68, .aload_n 0, 1, 0, 0, 0, _) from rfl) (Or.inl ⟨.ref 94, rfl, rfl⟩) ?_
          refine XW.fam (S' := (70, [(0, .ref 94), (1, .int p), (2, .int n)], [.ref 94, .ref 94], (sh, I10, L, R))) (M := mr_327) rfl (show mcode 327 69 = some (69, .dup, 1, 0, 0, 0, _) from rfl) (Or.inr (Or.inr (Or.inr (Or.inr (Or.inr (Or.inl ⟨_, rfl, rfl⟩)))))) ?_
          refine XW.fam (S' := (73, [(0, .ref 94), (1, .int p), (2, .int n)], [.int (I10 94 68), .ref 94], (sh, I10, L, R))) (M := mr_327) rfl (show mcode 327 70 = some (70, .getfield 525, 3, 12, 68, 0, _) from rfl) (Or.inr (Or.inr (Or.inr (Or.inr (Or.inr (Or.inr (Or.inr (Or.inl ⟨_, _, rfl, fl_ldI c94 (by decide) (by decide), rfl⟩)))))))) ?_
          rw [v11]
          refine XW.fam (S' := (74, [(0, .ref 94), (1, .int p), (2, .int n)], [.int 1, .int m, .ref 94], (sh, I10, L, R))) (M := mr_327) rfl (show mcode 327 73 = some (73, .iconst 1, 1, 0, 0, 0, _) from rfl) (Or.inl ⟨.int 1, rfl, rfl⟩) ?_
          refine XW.fam (S' := (75, [(0, .ref 94), (1, .int p), (2, .int n)], [.int (m + 1), .ref 94], (sh, I10, L, R))) (M := mr_327) rfl (show mcode 327 74 = some (74, .iadd, 1, 0, 0, 0, _) from rfl) (Or.inr (Or.inr (Or.inr (Or.inr (Or.inr (Or.inl ⟨_, rfl, rfl⟩)))))) ?_
          obtain ⟨I14, eI14⟩ : ∃ X, X = up2 I10 94 68 (m + 1) := ⟨_, rfl⟩
          refine XW.fam (S' := (78, [(0, .ref 94), (1, .int p), (2, .int n)], [], (sh, I14, L, R))) (M := mr_327) rfl (show mcode 327 75 = some (75, .putfield 525, 3, 12, 68, 0, _) from rfl) (Or.inr (Or.inr (Or.inr (Or.inr (Or.inr (Or.inr (Or.inr (Or.inr (Or.inl ⟨_, _, _, rfl, by rw [eI14]; exact stf_I c94 (by decide) (by decide) (by decide), rfl⟩))))))))) ?_
          have xi := inc32 (m := m) (by omega) (by omega)
          have hwI14 : wOK (mkT vV []) (wE sh R) (sh, I14, L, R) := by rw [eI14]; exact wOK_u2 (q := 94) (k := 68) (x := (m + 1)) wE_put hwI10 rfl (by show (0 : Int) ≤ _; omega) (by show _ ≤ (5 : Int); omega)
          have hfI14 : fresh (sh, I14, L, R) := by rw [eI14]; exact fresh_I hfI10 c94
          have v16 : I14 142 (m).toNatClampNeg = p := by rw [eI14, up2_ne (fun e => by cases e.1)]; exact v12
          have v17 : I14 143 (m).toNatClampNeg = n := by rw [eI14, up2_ne (fun e => by cases e.1)]; exact v13
          have v18 : I14 94 68 = (m + 1) := by rw [eI14]; exact up2_eq
          refine XW.fam (S' := (79, [(0, .ref 94), (1, .int p), (2, .int n)], [.ref 94], (sh, I14, L, R))) (M := mr_327) rfl (show mcode 327 78 = some (78, .aload_n 0, 1, 0, 0, 0, _) from rfl) (Or.inl ⟨.ref 94, rfl, rfl⟩) ?_
          refine XW.fam (S' := (82, [(0, .ref 94), (1, .int p), (2, .int n)], [.int (I14 94 68)], (sh, I14, L, R))) (M := mr_327) rfl (show mcode 327 79 = some (79, .getfield 525, 3, 12, 68, 0, _) from rfl) (Or.inr (Or.inr (Or.inr (Or.inr (Or.inr (Or.inr (Or.inr (Or.inl ⟨_, _, rfl, fl_ldI c94 (by decide) (by decide), rfl⟩)))))))) ?_
          rw [v18]
          refine XW.ret (r := some (.int (m + 1))) ⟨⟨.int, rfl, rfl⟩, by decide +kernel⟩ ?_
          have hkp : ∀ q k, inm mdTM q k = false → I14 q k = I q k := by
            intro q k h
            rw [eI14, up2_ne (fun e => by rw [e.1, e.2] at h; cases h), eI10, up2_ne (fun e => by rw [e.1] at h; cases h), eI6, up2_ne (fun e => by rw [e.1] at h; cases h)]
          refine ⟨hfI14, ⟨sh, R, hwI14⟩, Or.inr (Or.inr ⟨show okTM I p n by unfold okTM; omega, by show (I 94 68).toInt < (5 : Int); rw [em]; omega, ?_, ?_, hkp⟩)⟩
          · show some (Value.int _) = some (Value.int (I 94 68 + 1))
            rw [em]
          · show I14 94 68 = I 94 68 + 1
            rw [em]
            exact v18
        | false =>
          have gk4 : ¬ (¬ (m).toInt = 5) := icF (c := .ne) (a := (m).toInt) (b := 5) rfl (by decide) k4
          refine XW.fam (S' := (45, [(0, .ref 94), (1, .int p), (2, .int n)], [], (sh, I, L, R))) (M := mr_327) rfl (show mcode 327 42 = some (42, .if_icmp .ne 6, 3, 48, 0, 0, _) from rfl) (Or.inr (Or.inl ⟨45, [], by simp [brn, k4], rfl⟩)) ?_
          refine XW.fam (S' := (47, [(0, .ref 94), (1, .int p), (2, .int n)], [.int (-3)], (sh, I, L, R))) (M := mr_327) rfl (show mcode 327 45 = some (45, .bipush (-3), 2, 0, 0, 0, _) from rfl) (Or.inl ⟨.int (-3), rfl, rfl⟩) ?_
          refine XW.ret (r := some (.int (-3))) ⟨⟨.int, rfl, rfl⟩, by decide +kernel⟩ ?_
          exact ⟨hf, ⟨sh, R, hw⟩, Or.inr (Or.inl ⟨show okTM I p n by unfold okTM; omega, by show (5 : Int) ≤ (I 94 68).toInt; rw [em]; omega, rfl, rfl⟩)⟩
