/-! ===== have, berths: a place of a row is set (wip/genset.py) ===== -/
theorem lda_i {X : mX} {sh : List mE} {I : Nat → Nat → Int32} {L : Nat → Nat → Int64} {R : Nat → Nat → Option Nat} {q n : Nat} {i : Int32} {r : List Value} (h0 : sh[q]? = some (.inl (.int, n))) (hin : inR i n = true) : lda X (sh, I, L, R) .iaload (.int i :: .ref q :: r) = some (.int (I q i.toNatClampNeg) :: r) := by
  simp [lda, h0, aok, hin]
theorem lda_z {X : mX} {sh : List mE} {I : Nat → Nat → Int32} {L : Nat → Nat → Int64} {R : Nat → Nat → Option Nat} {q n : Nat} {i : Int32} {r : List Value} (h0 : sh[q]? = some (.inl (.boolean, n))) (hin : inR i n = true) : lda X (sh, I, L, R) .baload (.int i :: .ref q :: r) = some (.int (I q i.toNatClampNeg) :: r) := by
  simp [lda, h0, aok, hin]
theorem sta_i {sh : List mE} {I : Nat → Nat → Int32} {L : Nat → Nat → Int64} {R : Nat → Nat → Option Nat} {q n : Nat} {i x : Int32} {r : List Value} (h0 : sh[q]? = some (.inl (.int, n))) (hin : inR i n = true) : sta (sh, I, L, R) .iastore (.int x :: .int i :: .ref q :: r) = some (r, (sh, up2 I q i.toNatClampNeg x, L, R)) := by
  simp [sta, h0, aok, hin]
theorem add_i {a b : Int32} (h1 : lo32 ≤ a.toInt + b.toInt) (h2 : a.toInt + b.toInt ≤ hi32) : (a + b).toInt = a.toInt + b.toInt := by
  rw [Int32.toInt_add]
  exact bm32 h1 h2
theorem sub_i {a b : Int32} (h1 : lo32 ≤ a.toInt - b.toInt) (h2 : a.toInt - b.toInt ≤ hi32) : (a - b).toInt = a.toInt - b.toInt := by
  rw [Int32.toInt_sub]
  exact bm32 h1 h2
theorem mul_i {a b : Int32} (h1 : lo32 ≤ a.toInt * b.toInt) (h2 : a.toInt * b.toInt ≤ hi32) : (a * b).toInt = a.toInt * b.toInt := by
  rw [Int32.toInt_mul]
  exact bm32 h1 h2
theorem ix8a {a b : Int32} (ha : 0 ≤ a.toInt ∧ a.toInt ≤ 3) (hb : 0 ≤ b.toInt ∧ b.toInt ≤ 7) : (a * 8 + b).toInt = 8 * a.toInt + b.toInt := by
  have e : (8 : Int32).toInt = 8 := rfl
  have m : (a * 8).toInt = a.toInt * 8 := by
    rw [Int32.toInt_mul, e]
    exact bm32 (by unfold lo32; omega) (by unfold hi32; omega)
  have s : (a * 8 + b).toInt = a.toInt * 8 + b.toInt := by
    rw [Int32.toInt_add, m]
    exact bm32 (by unfold lo32; omega) (by unfold hi32; omega)
  omega
theorem ix8b {a b : Int32} (ha : 0 ≤ a.toInt ∧ a.toInt ≤ 3) (hb : 0 ≤ b.toInt ∧ b.toInt ≤ 7) : (8 * a + b).toInt = 8 * a.toInt + b.toInt := by
  have e : (8 : Int32).toInt = 8 := rfl
  have m : (8 * a).toInt = 8 * a.toInt := by
    rw [Int32.toInt_mul, e]
    exact bm32 (by unfold lo32; omega) (by unfold hi32; omega)
  rw [Int32.toInt_add, m]
  exact bm32 (by unfold lo32; omega) (by unfold hi32; omega)
theorem inc32 {m : Int32} (h0 : 0 ≤ m.toInt) (h1 : m.toInt ≤ 100000) : (m + 1).toInt = m.toInt + 1 := by
  have e : (1 : Int32).toInt = 1 := rfl
  rw [Int32.toInt_add, e]
  exact bm32 (by unfold lo32; omega) (by unfold hi32; omega)
theorem incO {m : Int32} (h0 : 0 ≤ m.toInt) (h1 : m.toInt ≤ 100000) : (m + Int32.ofInt 1).toInt = m.toInt + 1 := by
  have e : (Int32.ofInt 1).toInt = 1 := rfl
  rw [Int32.toInt_add, e]
  exact bm32 (by unfold lo32; omega) (by unfold hi32; omega)
theorem sub1I {m : Int32} (h0 : 0 ≤ m.toInt) (h1 : m.toInt ≤ 100000) : (m - 1).toInt = m.toInt - 1 := by
  have e : (1 : Int32).toInt = 1 := rfl
  rw [Int32.toInt_sub, e]
  exact bm32 (by unfold lo32; omega) (by unfold hi32; omega)
theorem up2_v {F : Nat → Nat → Int32} {q k j : Nat} {x : Int32} (h : F q j = x) : up2 F q k x q j = x := by
  by_cases c : j = k
  · rw [c, up2_eq]
  · rw [up2_ne (fun e => c e.2)]
    exact h
/-- refused, or place k of row q is x now and what was there is answered -/
def Qset (q : Nat) (ok : Prop) (k : Nat) (x : Int32) (w : mW) (r : Option Value) (w' : mW) : Prop := fresh w' ∧ (∃ sh R, wOK (mkT vV []) (wE sh R) w') ∧ ((¬ ok ∧ r = some (.int (-1)) ∧ w'.2.1 = w.2.1) ∨ (ok ∧ r = some (.int (w.2.1 q k)) ∧ w'.2.1 = up2 w.2.1 q k x))
theorem Qset_int {q : Nat} {ok : Prop} {k : Nat} {x : Int32} {w w' : mW} {r : Option Value} (h : Qset q ok k x w r w') : ∃ y : Int32, r = some (.int y) := by
  rcases h.2.2 with ⟨-, h, -⟩ | ⟨-, h, -⟩
  · exact ⟨_, h⟩
  · exact ⟨_, h⟩
theorem Qset_keep {q : Nat} {ok : Prop} {k : Nat} {x : Int32} {w w' : mW} {r : Option Value} (h : Qset q ok k x w r w') (a b : Nat) (hne : ¬ a = q) : w'.2.1 a b = w.2.1 a b := by
  rcases h.2.2 with ⟨-, -, h⟩ | ⟨-, -, h⟩
  · rw [h]
  · rw [h, up2_ne (fun e => hne e.1)]
/-- two rows that are alike are alike still, and the answers are alike -/
theorem qset_like {qc qm : Nat} {ok : Prop} {k : Nat} {x : Int32} {w w1 w2 : mW} {r1 r2 : Option Value} (hne : ¬ qm = qc) (hR : ∀ k, w.2.1 qc k = w.2.1 qm k) (h1 : Qset qc ok k x w r1 w1) (h2 : Qset qm ok k x w1 r2 w2) : r1 = r2 ∧ ∀ k, w2.2.1 qc k = w2.2.1 qm k := by
  rcases h1.2.2 with ⟨n1, e1, f1⟩ | ⟨n1, e1, f1⟩
  · rcases h2.2.2 with ⟨n2, e2, f2⟩ | ⟨n2, e2, f2⟩
    · refine ⟨e1.trans e2.symm, fun k' => ?_⟩
      rw [f2, f1]
      exact hR k'
    · exact absurd n2 n1
  · rcases h2.2.2 with ⟨n2, e2, f2⟩ | ⟨n2, e2, f2⟩
    · exact absurd n1 n2
    · have e : w1.2.1 qm k = w.2.1 qc k := by
        rw [f1, up2_ne (fun z => hne z.1)]
        exact (hR k).symm
      refine ⟨?_, fun k' => ?_⟩
      · rw [e1, e2, e]
      · rw [f2, f1]
        by_cases c : k' = k
        · rw [c, up2_ne (fun z => hne z.1.symm), up2_eq, up2_eq]
        · rw [up2_ne (fun z => c z.2), up2_ne (fun z => c z.2), up2_ne (fun z => c z.2), up2_ne (fun z => c z.2)]
          exact hR k'
theorem tc_inC {d : Nat} {w : mW} {a b c : Int32} : Tc 15 d 0 0 [.int a, .int b, .int c] w (fun r w' => ((r = some (.int 0) ∧ ¬ (b.toInt ≤ a.toInt ∧ a.toInt ≤ c.toInt)) ∨ (r = some (.int 1) ∧ b.toInt ≤ a.toInt ∧ a.toInt ≤ c.toInt)) ∧ w' = w) := by
  refine Tc.of mr_15 rfl (show 3 ≤ mr_15.2.2.2.1 by decide) ?_
  refine XW.fam (S' := (1, [(0, .int a), (1, .int b), (2, .int c)], [.int a], w)) (M := mr_15) rfl (show mcode 15 0 = some (0, .iload_n 0, 1, 0, 0, 0, _) from rfl) (Or.inl ⟨.int a, rfl, rfl⟩) ?_
  refine XW.fam (S' := (2, [(0, .int a), (1, .int b), (2, .int c)], [.int b, .int a], w)) (M := mr_15) rfl (show mcode 15 1 = some (1, .iload_n 1, 1, 0, 0, 0, _) from rfl) (Or.inl ⟨.int b, rfl, rfl⟩) ?_
  cases k1 : bcmp .lt a b with
  | true =>
    have gk1 : (a).toInt < (b).toInt := icT (c := .lt) (a := (a).toInt) (b := (b).toInt) rfl rfl k1
    refine XW.fam (S' := (14, [(0, .int a), (1, .int b), (2, .int c)], [], w)) (M := mr_15) rfl (show mcode 15 2 = some (2, .if_icmp .lt 12, 3, 14, 0, 0, _) from rfl) (Or.inr (Or.inl ⟨14, [], by simp [brn, k1], rfl⟩)) ?_
    refine XW.fam (S' := (15, [(0, .int a), (1, .int b), (2, .int c)], [.int 0], w)) (M := mr_15) rfl (show mcode 15 14 = some (14, .iconst 0, 1, 0, 0, 0, _) from rfl) (Or.inl ⟨.int 0, rfl, rfl⟩) ?_
    refine XW.ret (r := some (.int 0)) ⟨⟨.boolean, rfl, rfl⟩, by decide +kernel⟩ ?_
    exact ⟨Or.inl ⟨rfl, fun q => by omega⟩, rfl⟩
  | false =>
    have gk1 : ¬ ((a).toInt < (b).toInt) := icF (c := .lt) (a := (a).toInt) (b := (b).toInt) rfl rfl k1
    refine XW.fam (S' := (5, [(0, .int a), (1, .int b), (2, .int c)], [], w)) (M := mr_15) rfl (show mcode 15 2 = some (2, .if_icmp .lt 12, 3, 14, 0, 0, _) from rfl) (Or.inr (Or.inl ⟨5, [], by simp [brn, k1], rfl⟩)) ?_
    refine XW.fam (S' := (6, [(0, .int a), (1, .int b), (2, .int c)], [.int a], w)) (M := mr_15) rfl (show mcode 15 5 = some (5, .iload_n 0, 1, 0, 0, 0, _) from rfl) (Or.inl ⟨.int a, rfl, rfl⟩) ?_
    refine XW.fam (S' := (7, [(0, .int a), (1, .int b), (2, .int c)], [.int c, .int a], w)) (M := mr_15) rfl (show mcode 15 6 = some (6, .iload_n 2, 1, 0, 0, 0, _) from rfl) (Or.inl ⟨.int c, rfl, rfl⟩) ?_
    cases k2 : bcmp .gt a c with
    | true =>
      have gk2 : (c).toInt < (a).toInt := icT (c := .gt) (a := (a).toInt) (b := (c).toInt) rfl rfl k2
      refine XW.fam (S' := (14, [(0, .int a), (1, .int b), (2, .int c)], [], w)) (M := mr_15) rfl (show mcode 15 7 = some (7, .if_icmp .gt 7, 3, 14, 0, 0, _) from rfl) (Or.inr (Or.inl ⟨14, [], by simp [brn, k2], rfl⟩)) ?_
      refine XW.fam (S' := (15, [(0, .int a), (1, .int b), (2, .int c)], [.int 0], w)) (M := mr_15) rfl (show mcode 15 14 = some (14, .iconst 0, 1, 0, 0, 0, _) from rfl) (Or.inl ⟨.int 0, rfl, rfl⟩) ?_
      refine XW.ret (r := some (.int 0)) ⟨⟨.boolean, rfl, rfl⟩, by decide +kernel⟩ ?_
      exact ⟨Or.inl ⟨rfl, fun q => by omega⟩, rfl⟩
    | false =>
      have gk2 : ¬ ((c).toInt < (a).toInt) := icF (c := .gt) (a := (a).toInt) (b := (c).toInt) rfl rfl k2
      refine XW.fam (S' := (10, [(0, .int a), (1, .int b), (2, .int c)], [], w)) (M := mr_15) rfl (show mcode 15 7 = some (7, .if_icmp .gt 7, 3, 14, 0, 0, _) from rfl) (Or.inr (Or.inl ⟨10, [], by simp [brn, k2], rfl⟩)) ?_
      refine XW.fam (S' := (11, [(0, .int a), (1, .int b), (2, .int c)], [.int 1], w)) (M := mr_15) rfl (show mcode 15 10 = some (10, .iconst 1, 1, 0, 0, 0, _) from rfl) (Or.inl ⟨.int 1, rfl, rfl⟩) ?_
      refine XW.fam (S' := (15, [(0, .int a), (1, .int b), (2, .int c)], [.int 1], w)) (M := mr_15) rfl (show mcode 15 11 = some (11, .goto 4, 3, 15, 0, 0, _) from rfl) (Or.inr (Or.inl ⟨15, [.int 1], rfl, rfl⟩)) ?_
      refine XW.ret (r := some (.int 1)) ⟨⟨.boolean, rfl, rfl⟩, by decide +kernel⟩ ?_
      exact ⟨Or.inr ⟨rfl, by omega, by omega⟩, rfl⟩
theorem tc_inM {d : Nat} {w : mW} {a b c : Int32} : Tc 236 d 0 0 [.int a, .int b, .int c] w (fun r w' => ((r = some (.int 0) ∧ ¬ (b.toInt ≤ a.toInt ∧ a.toInt ≤ c.toInt)) ∨ (r = some (.int 1) ∧ b.toInt ≤ a.toInt ∧ a.toInt ≤ c.toInt)) ∧ w' = w) := by
  refine Tc.of mr_236 rfl (show 3 ≤ mr_236.2.2.2.1 by decide) ?_
  refine XW.fam (S' := (1, [(0, .int a), (1, .int b), (2, .int c)], [.int a], w)) (M := mr_236) rfl (show mcode 236 0 = some (0, .iload_n 0, 1, 0, 0, 0, _) from rfl) (Or.inl ⟨.int a, rfl, rfl⟩) ?_
  refine XW.fam (S' := (2, [(0, .int a), (1, .int b), (2, .int c)], [.int b, .int a], w)) (M := mr_236) rfl (show mcode 236 1 = some (1, .iload_n 1, 1, 0, 0, 0, _) from rfl) (Or.inl ⟨.int b, rfl, rfl⟩) ?_
  cases k1 : bcmp .lt a b with
  | true =>
    have gk1 : (a).toInt < (b).toInt := icT (c := .lt) (a := (a).toInt) (b := (b).toInt) rfl rfl k1
    refine XW.fam (S' := (14, [(0, .int a), (1, .int b), (2, .int c)], [], w)) (M := mr_236) rfl (show mcode 236 2 = some (2, .if_icmp .lt 12, 3, 14, 0, 0, _) from rfl) (Or.inr (Or.inl ⟨14, [], by simp [brn, k1], rfl⟩)) ?_
    refine XW.fam (S' := (15, [(0, .int a), (1, .int b), (2, .int c)], [.int 0], w)) (M := mr_236) rfl (show mcode 236 14 = some (14, .iconst 0, 1, 0, 0, 0, _) from rfl) (Or.inl ⟨.int 0, rfl, rfl⟩) ?_
    refine XW.ret (r := some (.int 0)) ⟨⟨.boolean, rfl, rfl⟩, by decide +kernel⟩ ?_
    exact ⟨Or.inl ⟨rfl, fun q => by omega⟩, rfl⟩
  | false =>
    have gk1 : ¬ ((a).toInt < (b).toInt) := icF (c := .lt) (a := (a).toInt) (b := (b).toInt) rfl rfl k1
    refine XW.fam (S' := (5, [(0, .int a), (1, .int b), (2, .int c)], [], w)) (M := mr_236) rfl (show mcode 236 2 = some (2, .if_icmp .lt 12, 3, 14, 0, 0, _) from rfl) (Or.inr (Or.inl ⟨5, [], by simp [brn, k1], rfl⟩)) ?_
    refine XW.fam (S' := (6, [(0, .int a), (1, .int b), (2, .int c)], [.int a], w)) (M := mr_236) rfl (show mcode 236 5 = some (5, .iload_n 0, 1, 0, 0, 0, _) from rfl) (Or.inl ⟨.int a, rfl, rfl⟩) ?_
    refine XW.fam (S' := (7, [(0, .int a), (1, .int b), (2, .int c)], [.int c, .int a], w)) (M := mr_236) rfl (show mcode 236 6 = some (6, .iload_n 2, 1, 0, 0, 0, _) from rfl) (Or.inl ⟨.int c, rfl, rfl⟩) ?_
    cases k2 : bcmp .gt a c with
    | true =>
      have gk2 : (c).toInt < (a).toInt := icT (c := .gt) (a := (a).toInt) (b := (c).toInt) rfl rfl k2
      refine XW.fam (S' := (14, [(0, .int a), (1, .int b), (2, .int c)], [], w)) (M := mr_236) rfl (show mcode 236 7 = some (7, .if_icmp .gt 7, 3, 14, 0, 0, _) from rfl) (Or.inr (Or.inl ⟨14, [], by simp [brn, k2], rfl⟩)) ?_
      refine XW.fam (S' := (15, [(0, .int a), (1, .int b), (2, .int c)], [.int 0], w)) (M := mr_236) rfl (show mcode 236 14 = some (14, .iconst 0, 1, 0, 0, 0, _) from rfl) (Or.inl ⟨.int 0, rfl, rfl⟩) ?_
      refine XW.ret (r := some (.int 0)) ⟨⟨.boolean, rfl, rfl⟩, by decide +kernel⟩ ?_
      exact ⟨Or.inl ⟨rfl, fun q => by omega⟩, rfl⟩
    | false =>
      have gk2 : ¬ ((c).toInt < (a).toInt) := icF (c := .gt) (a := (a).toInt) (b := (c).toInt) rfl rfl k2
      refine XW.fam (S' := (10, [(0, .int a), (1, .int b), (2, .int c)], [], w)) (M := mr_236) rfl (show mcode 236 7 = some (7, .if_icmp .gt 7, 3, 14, 0, 0, _) from rfl) (Or.inr (Or.inl ⟨10, [], by simp [brn, k2], rfl⟩)) ?_
      refine XW.fam (S' := (11, [(0, .int a), (1, .int b), (2, .int c)], [.int 1], w)) (M := mr_236) rfl (show mcode 236 10 = some (10, .iconst 1, 1, 0, 0, 0, _) from rfl) (Or.inl ⟨.int 1, rfl, rfl⟩) ?_
      refine XW.fam (S' := (15, [(0, .int a), (1, .int b), (2, .int c)], [.int 1], w)) (M := mr_236) rfl (show mcode 236 11 = some (11, .goto 4, 3, 15, 0, 0, _) from rfl) (Or.inr (Or.inl ⟨15, [.int 1], rfl, rfl⟩)) ?_
      refine XW.ret (r := some (.int 1)) ⟨⟨.boolean, rfl, rfl⟩, by decide +kernel⟩ ?_
      exact ⟨Or.inr ⟨rfl, by omega, by omega⟩, rfl⟩
theorem tc_menC {d : Nat} {sh : List mE} {I : Nat → Nat → Int32} {L : Nat → Nat → Int64} {R : Nat → Nat → Option Nat} {s n : Int32} (hw : wOK (mkT vV []) (wE sh R) (sh, I, L, R)) (hf : fresh (sh, I, L, R)) : Tc 201 (d + 1) 0 0 [.ref 90, .int s, .int n] (sh, I, L, R) (Qset 91 ((0 ≤ s.toInt ∧ s.toInt ≤ 99) ∧ (0 ≤ n.toInt ∧ n.toInt ≤ 199)) s.toNatClampNeg n (sh, I, L, R)) := by
  have c90 : sh[90]? = some (.inr 11) := hw.1 90 _ rfl
  have c91 : sh[91]? = some (.inl (.int, 100)) := hw.1 91 _ rfl
  have r90_0 : R 90 0 = some 91 := hw.2.1 90 0 _ rfl
  have zm1 : ((-1) : Int32).toInt = (-1) := rfl
  have z0 : (0 : Int32).toInt = 0 := rfl
  have z99 : (99 : Int32).toInt = 99 := rfl
  have z199 : (199 : Int32).toInt = 199 := rfl
  refine Tc.of mr_201 rfl (show 3 ≤ mr_201.2.2.2.1 by decide) ?_
  refine XW.fam (S' := (1, [(0, .ref 90), (1, .int s), (2, .int n)], [.int s], (sh, I, L, R))) (M := mr_201) rfl (show mcode 201 0 = some (0, .iload_n 1, 1, 0, 0, 0, _) from rfl) (Or.inl ⟨.int s, rfl, rfl⟩) ?_
  refine XW.fam (S' := (2, [(0, .ref 90), (1, .int s), (2, .int n)], [.int 0, .int s], (sh, I, L, R))) (M := mr_201) rfl (show mcode 201 1 = some (1, .iconst 0, 1, 0, 0, 0, _) from rfl) (Or.inl ⟨.int 0, rfl, rfl⟩) ?_
  refine XW.fam (S' := (4, [(0, .ref 90), (1, .int s), (2, .int n)], [.int 99, .int 0, .int s], (sh, I, L, R))) (M := mr_201) rfl (show mcode 201 2 = some (2, .bipush 99, 2, 0, 0, 0, _) from rfl) (Or.inl ⟨.int 99, rfl, rfl⟩) ?_
  refine XW.call (d' := d) (mc' := 0) (ms' := 0) (av := [.int s, .int 0, .int 99]) (rest := []) (M := mr_201) (Ma := mr_15) rfl (show mcode 201 4 = some (4, .invokestatic 21, 3, 15, 1, 0, _) from rfl) rfl (by decide) (by decide) rfl rfl rfl (show 0 ≤ 8 by decide) (tc_inC) (by omega) (Nat.zero_le _) (Nat.zero_le _) (fun rQ1 wQ1 Q1 => ?_)
  obtain ⟨hQ1, rfl⟩ := Q1
  rcases hQ1 with ⟨rfl, gQ1⟩ | ⟨rfl, gQ1⟩
  · skip
    refine XW.fam (S' := (21, [(0, .ref 90), (1, .int s), (2, .int n)], [], (sh, I, L, R))) (M := mr_201) rfl (show mcode 201 7 = some (7, .ifCond .eq 14, 3, 21, 0, 0, _) from rfl) (Or.inr (Or.inl ⟨21, [], rfl, rfl⟩)) ?_
    refine XW.fam (S' := (22, [(0, .ref 90), (1, .int s), (2, .int n)], [.int (-1)], (sh, I, L, R))) (M := mr_201) rfl (show mcode 201 21 = some (21, .iconst (-1), 1, 0, 0, 0, _) from rfl) (Or.inl ⟨.int (-1), rfl, rfl⟩) ?_
    refine XW.ret (r := some (.int (-1))) ⟨⟨.int, rfl, rfl⟩, by decide +kernel⟩ ?_
    exact ⟨hf, ⟨sh, R, hw⟩, Or.inl ⟨fun q => by omega, rfl, rfl⟩⟩
  · skip
    refine XW.fam (S' := (10, [(0, .ref 90), (1, .int s), (2, .int n)], [], (sh, I, L, R))) (M := mr_201) rfl (show mcode 201 7 = some (7, .ifCond .eq 14, 3, 21, 0, 0, _) from rfl) (Or.inr (Or.inl ⟨10, [], rfl, rfl⟩)) ?_
    refine XW.fam (S' := (11, [(0, .ref 90), (1, .int s), (2, .int n)], [.int n], (sh, I, L, R))) (M := mr_201) rfl (show mcode 201 10 = some (10, .iload_n 2, 1, 0, 0, 0, _) from rfl) (Or.inl ⟨.int n, rfl, rfl⟩) ?_
    refine XW.fam (S' := (12, [(0, .ref 90), (1, .int s), (2, .int n)], [.int 0, .int n], (sh, I, L, R))) (M := mr_201) rfl (show mcode 201 11 = some (11, .iconst 0, 1, 0, 0, 0, _) from rfl) (Or.inl ⟨.int 0, rfl, rfl⟩) ?_
    refine XW.fam (S' := (15, [(0, .ref 90), (1, .int s), (2, .int n)], [.int 199, .int 0, .int n], (sh, I, L, R))) (M := mr_201) rfl (show mcode 201 12 = some (12, .sipush 199, 3, 0, 0, 0, _) from rfl) (Or.inl ⟨.int 199, rfl, rfl⟩) ?_
    refine XW.call (d' := d) (mc' := 0) (ms' := 0) (av := [.int n, .int 0, .int 199]) (rest := []) (M := mr_201) (Ma := mr_15) rfl (show mcode 201 15 = some (15, .invokestatic 21, 3, 15, 1, 0, _) from rfl) rfl (by decide) (by decide) rfl rfl rfl (show 0 ≤ 8 by decide) (tc_inC) (by omega) (Nat.zero_le _) (Nat.zero_le _) (fun rQ2 wQ2 Q2 => ?_)
    obtain ⟨hQ2, rfl⟩ := Q2
    rcases hQ2 with ⟨rfl, gQ2⟩ | ⟨rfl, gQ2⟩
    · skip
      refine XW.fam (S' := (21, [(0, .ref 90), (1, .int s), (2, .int n)], [], (sh, I, L, R))) (M := mr_201) rfl (show mcode 201 18 = some (18, .ifCond .ne 5, 3, 23, 0, 0, _) from rfl) (Or.inr (Or.inl ⟨21, [], rfl, rfl⟩)) ?_
      refine XW.fam (S' := (22, [(0, .ref 90), (1, .int s), (2, .int n)], [.int (-1)], (sh, I, L, R))) (M := mr_201) rfl (show mcode 201 21 = some (21, .iconst (-1), 1, 0, 0, 0, _) from rfl) (Or.inl ⟨.int (-1), rfl, rfl⟩) ?_
      refine XW.ret (r := some (.int (-1))) ⟨⟨.int, rfl, rfl⟩, by decide +kernel⟩ ?_
      exact ⟨hf, ⟨sh, R, hw⟩, Or.inl ⟨fun q => by omega, rfl, rfl⟩⟩
    · skip
      refine XW.fam (S' := (23, [(0, .ref 90), (1, .int s), (2, .int n)], [], (sh, I, L, R))) (M := mr_201) rfl (show mcode 201 18 = some (18, .ifCond .ne 5, 3, 23, 0, 0, _) from rfl) (Or.inr (Or.inl ⟨23, [], rfl, rfl⟩)) ?_
      refine XW.fam (S' := (24, [(0, .ref 90), (1, .int s), (2, .int n)], [.ref 90], (sh, I, L, R))) (M := mr_201) rfl (show mcode 201 23 = some (23, .aload_n 0, 1, 0, 0, 0, _) from rfl) (Or.inl ⟨.ref 90, rfl, rfl⟩) ?_
      refine XW.fam (S' := (27, [(0, .ref 90), (1, .int s), (2, .int n)], [.ref 91], (sh, I, L, R))) (M := mr_201) rfl (show mcode 201 24 = some (24, .getfield 11, 3, 11, 0, 0, _) from rfl) (Or.inr (Or.inr (Or.inr (Or.inr (Or.inr (Or.inr (Or.inr (Or.inl ⟨_, _, rfl, fl_ld c90 r90_0 (by decide) (by decide), rfl⟩)))))))) ?_
      refine XW.fam (S' := (28, [(0, .ref 90), (1, .int s), (2, .int n)], [.int s, .ref 91], (sh, I, L, R))) (M := mr_201) rfl (show mcode 201 27 = some (27, .iload_n 1, 1, 0, 0, 0, _) from rfl) (Or.inl ⟨.int s, rfl, rfl⟩) ?_
      have hin3 : inR s 100 = true := inR_of (by omega) (by omega)
      refine XW.fam (S' := (29, [(0, .ref 90), (1, .int s), (2, .int n)], [.int (I 91 (s).toNatClampNeg)], (sh, I, L, R))) (M := mr_201) rfl (show mcode 201 28 = some (28, .iaload, 1, 0, 0, 0, _) from rfl) (Or.inr (Or.inr (Or.inl ⟨_, lda_i c91 hin3, rfl⟩))) ?_
      refine XW.fam (S' := (30, [(3, .int (I 91 (s).toNatClampNeg)), (0, .ref 90), (1, .int s), (2, .int n)], [], (sh, I, L, R))) (M := mr_201) rfl (show mcode 201 29 = some (29, .istore_n 3, 1, 0, 0, 0, _) from rfl) (Or.inr (Or.inr (Or.inr (Or.inr (Or.inr (Or.inr (Or.inl ⟨_, [], _, rfl, rfl, rfl⟩))))))) ?_
      refine XW.fam (S' := (31, [(3, .int (I 91 (s).toNatClampNeg)), (0, .ref 90), (1, .int s), (2, .int n)], [.ref 90], (sh, I, L, R))) (M := mr_201) rfl (show mcode 201 30 = some (30, .aload_n 0, 1, 0, 0, 0, _) from rfl) (Or.inl ⟨.ref 90, rfl, rfl⟩) ?_
      refine XW.fam (S' := (34, [(3, .int (I 91 (s).toNatClampNeg)), (0, .ref 90), (1, .int s), (2, .int n)], [.ref 91], (sh, I, L, R))) (M := mr_201) rfl (show mcode 201 31 = some (31, .getfield 11, 3, 11, 0, 0, _) from rfl) (Or.inr (Or.inr (Or.inr (Or.inr (Or.inr (Or.inr (Or.inr (Or.inl ⟨_, _, rfl, fl_ld c90 r90_0 (by decide) (by decide), rfl⟩)))))))) ?_
      refine XW.fam (S' := (35, [(3, .int (I 91 (s).toNatClampNeg)), (0, .ref 90), (1, .int s), (2, .int n)], [.int s, .ref 91], (sh, I, L, R))) (M := mr_201) rfl (show mcode 201 34 = some (34, .iload_n 1, 1, 0, 0, 0, _) from rfl) (Or.inl ⟨.int s, rfl, rfl⟩) ?_
      refine XW.fam (S' := (36, [(3, .int (I 91 (s).toNatClampNeg)), (0, .ref 90), (1, .int s), (2, .int n)], [.int n, .int s, .ref 91], (sh, I, L, R))) (M := mr_201) rfl (show mcode 201 35 = some (35, .iload_n 2, 1, 0, 0, 0, _) from rfl) (Or.inl ⟨.int n, rfl, rfl⟩) ?_
      have hin4 : inR s 100 = true := inR_of (by omega) (by omega)
      obtain ⟨I5, eI5⟩ : ∃ X, X = up2 I 91 (s).toNatClampNeg n := ⟨_, rfl⟩
      refine XW.fam (S' := (37, [(3, .int (I 91 (s).toNatClampNeg)), (0, .ref 90), (1, .int s), (2, .int n)], [], (sh, I5, L, R))) (M := mr_201) rfl (show mcode 201 36 = some (36, .iastore, 1, 0, 0, 0, _) from rfl) (Or.inr (Or.inr (Or.inr (Or.inl ⟨_, _, by rw [eI5]; exact sta_i c91 hin4, rfl⟩)))) ?_
      have hwI5 : wOK (mkT vV []) (wE sh R) (sh, I5, L, R) := by rw [eI5]; exact wOK_u2 (q := 91) (k := (s).toNatClampNeg) (x := n) wE_put hw rfl (by show (0 : Int) ≤ _; omega) (by show _ ≤ (199 : Int); omega)
      have hfI5 : fresh (sh, I5, L, R) := by rw [eI5]; exact fresh_I hf c91
      refine XW.fam (S' := (38, [(3, .int (I 91 (s).toNatClampNeg)), (0, .ref 90), (1, .int s), (2, .int n)], [.int (I 91 (s).toNatClampNeg)], (sh, I5, L, R))) (M := mr_201) rfl (show mcode 201 37 = some (37, .iload_n 3, 1, 0, 0, 0, _) from rfl) (Or.inl ⟨.int (I 91 (s).toNatClampNeg), rfl, rfl⟩) ?_
      refine XW.ret (r := some (.int (I 91 (s).toNatClampNeg))) ⟨⟨.int, rfl, rfl⟩, by decide +kernel⟩ ?_
      exact ⟨hfI5, ⟨sh, R, hwI5⟩, Or.inr ⟨by omega, rfl, eI5⟩⟩
theorem tc_haveC {d : Nat} {sh : List mE} {R : Nat → Nat → Option Nat} {w : mW} {s n : Int32} (hw : wOK (mkT vV []) (wE sh R) w) (hf : fresh w) : Tc 200 (d + 2) 0 0 [.ref 0, .int s, .int n] w (Qset 91 ((0 ≤ s.toInt ∧ s.toInt ≤ 99) ∧ (0 ≤ n.toInt ∧ n.toInt ≤ 199)) s.toNatClampNeg n w) := by
  obtain ⟨sh0, I, L, R0⟩ := w
  obtain rfl : sh = sh0 := hw.2.2.2.1.symm
  obtain rfl : R = R0 := hw.2.2.2.2.1.symm
  have c0 : sh[0]? = some (.inr 0) := hw.1 0 _ rfl
  have c90 : sh[90]? = some (.inr 11) := hw.1 90 _ rfl
  have r0_10 : R 0 10 = some 90 := hw.2.1 0 10 _ rfl
  refine Tc.of mr_200 rfl (show 3 ≤ mr_200.2.2.2.1 by decide) ?_
  refine XW.fam (S' := (1, [(0, .ref 0), (1, .int s), (2, .int n)], [.ref 0], (sh, I, L, R))) (M := mr_200) rfl (show mcode 200 0 = some (0, .aload_n 0, 1, 0, 0, 0, _) from rfl) (Or.inl ⟨.ref 0, rfl, rfl⟩) ?_
  refine XW.fam (S' := (4, [(0, .ref 0), (1, .int s), (2, .int n)], [.ref 90], (sh, I, L, R))) (M := mr_200) rfl (show mcode 200 1 = some (1, .getfield 92, 3, 0, 10, 0, _) from rfl) (Or.inr (Or.inr (Or.inr (Or.inr (Or.inr (Or.inr (Or.inr (Or.inl ⟨_, _, rfl, fl_ld c0 r0_10 (by decide) (by decide), rfl⟩)))))))) ?_
  refine XW.fam (S' := (5, [(0, .ref 0), (1, .int s), (2, .int n)], [.int s, .ref 90], (sh, I, L, R))) (M := mr_200) rfl (show mcode 200 4 = some (4, .iload_n 1, 1, 0, 0, 0, _) from rfl) (Or.inl ⟨.int s, rfl, rfl⟩) ?_
  refine XW.fam (S' := (6, [(0, .ref 0), (1, .int s), (2, .int n)], [.int n, .int s, .ref 90], (sh, I, L, R))) (M := mr_200) rfl (show mcode 200 5 = some (5, .iload_n 2, 1, 0, 0, 0, _) from rfl) (Or.inl ⟨.int n, rfl, rfl⟩) ?_
  refine XW.call (d' := d + 1) (mc' := 0) (ms' := 0) (av := [.ref 90, .int s, .int n]) (rest := []) (M := mr_200) (Ma := mr_201) rfl (show mcode 200 6 = some (6, .invokevirtual 306, 3, 201, 0, 0, _) from rfl) rfl (by decide) (by decide) ⟨rfl, 90, _, rfl, c90⟩ rfl rfl (show 0 ≤ 8 by decide) (tc_menC (d := d) hw hf) (by omega) (Nat.zero_le _) (Nat.zero_le _) (fun rQ1 wQ1 Q1 => ?_)
  obtain ⟨yQ1, eyQ1⟩ := Qset_int Q1
  subst eyQ1
  refine XW.ret (r := some (.int yQ1)) ⟨⟨.int, rfl, rfl⟩, by decide +kernel⟩ ?_
  exact Q1
theorem tc_haveM {d : Nat} {sh : List mE} {R : Nat → Nat → Option Nat} {w : mW} {s n : Int32} (hw : wOK (mkT vV []) (wE sh R) w) (hf : fresh w) : Tc 342 (d + 1) 0 0 [.ref 94, .int s, .int n] w (Qset 162 ((0 ≤ s.toInt ∧ s.toInt ≤ 99) ∧ (0 ≤ n.toInt ∧ n.toInt ≤ 199)) s.toNatClampNeg n w) := by
  obtain ⟨sh0, I, L, R0⟩ := w
  obtain rfl : sh = sh0 := hw.2.2.2.1.symm
  obtain rfl : R = R0 := hw.2.2.2.2.1.symm
  have c94 : sh[94]? = some (.inr 12) := hw.1 94 _ rfl
  have c162 : sh[162]? = some (.inl (.int, 100)) := hw.1 162 _ rfl
  have r94_102 : R 94 102 = some 162 := hw.2.1 94 102 _ rfl
  have zm1 : ((-1) : Int32).toInt = (-1) := rfl
  have z0 : (0 : Int32).toInt = 0 := rfl
  have z99 : (99 : Int32).toInt = 99 := rfl
  have z199 : (199 : Int32).toInt = 199 := rfl
  refine Tc.of mr_342 rfl (show 3 ≤ mr_342.2.2.2.1 by decide) ?_
  refine XW.fam (S' := (1, [(0, .ref 94), (1, .int s), (2, .int n)], [.int s], (sh, I, L, R))) (M := mr_342) rfl (show mcode 342 0 = some (0, .iload_n 1, 1, 0, 0, 0, _) from rfl) (Or.inl ⟨.int s, rfl, rfl⟩) ?_
  refine XW.fam (S' := (2, [(0, .ref 94), (1, .int s), (2, .int n)], [.int 0, .int s], (sh, I, L, R))) (M := mr_342) rfl (show mcode 342 1 = some (1, .iconst 0, 1, 0, 0, 0, _) from rfl) (Or.inl ⟨.int 0, rfl, rfl⟩) ?_
  refine XW.fam (S' := (4, [(0, .ref 94), (1, .int s), (2, .int n)], [.int 99, .int 0, .int s], (sh, I, L, R))) (M := mr_342) rfl (show mcode 342 2 = some (2, .bipush 99, 2, 0, 0, 0, _) from rfl) (Or.inl ⟨.int 99, rfl, rfl⟩) ?_
  refine XW.call (d' := d) (mc' := 0) (ms' := 0) (av := [.int s, .int 0, .int 99]) (rest := []) (M := mr_342) (Ma := mr_236) rfl (show mcode 342 4 = some (4, .invokestatic 254, 3, 236, 0, 0, _) from rfl) rfl (by decide) (by decide) rfl rfl rfl (show 0 ≤ 8 by decide) (tc_inM) (by omega) (Nat.zero_le _) (Nat.zero_le _) (fun rQ1 wQ1 Q1 => ?_)
  obtain ⟨hQ1, rfl⟩ := Q1
  rcases hQ1 with ⟨rfl, gQ1⟩ | ⟨rfl, gQ1⟩
  · skip
    refine XW.fam (S' := (21, [(0, .ref 94), (1, .int s), (2, .int n)], [], (sh, I, L, R))) (M := mr_342) rfl (show mcode 342 7 = some (7, .ifCond .eq 14, 3, 21, 0, 0, _) from rfl) (Or.inr (Or.inl ⟨21, [], rfl, rfl⟩)) ?_
    refine XW.fam (S' := (22, [(0, .ref 94), (1, .int s), (2, .int n)], [.int (-1)], (sh, I, L, R))) (M := mr_342) rfl (show mcode 342 21 = some (21, .iconst (-1), 1, 0, 0, 0, _) from rfl) (Or.inl ⟨.int (-1), rfl, rfl⟩) ?_
    refine XW.ret (r := some (.int (-1))) ⟨⟨.int, rfl, rfl⟩, by decide +kernel⟩ ?_
    exact ⟨hf, ⟨sh, R, hw⟩, Or.inl ⟨fun q => by omega, rfl, rfl⟩⟩
  · skip
    refine XW.fam (S' := (10, [(0, .ref 94), (1, .int s), (2, .int n)], [], (sh, I, L, R))) (M := mr_342) rfl (show mcode 342 7 = some (7, .ifCond .eq 14, 3, 21, 0, 0, _) from rfl) (Or.inr (Or.inl ⟨10, [], rfl, rfl⟩)) ?_
    refine XW.fam (S' := (11, [(0, .ref 94), (1, .int s), (2, .int n)], [.int n], (sh, I, L, R))) (M := mr_342) rfl (show mcode 342 10 = some (10, .iload_n 2, 1, 0, 0, 0, _) from rfl) (Or.inl ⟨.int n, rfl, rfl⟩) ?_
    refine XW.fam (S' := (12, [(0, .ref 94), (1, .int s), (2, .int n)], [.int 0, .int n], (sh, I, L, R))) (M := mr_342) rfl (show mcode 342 11 = some (11, .iconst 0, 1, 0, 0, 0, _) from rfl) (Or.inl ⟨.int 0, rfl, rfl⟩) ?_
    refine XW.fam (S' := (15, [(0, .ref 94), (1, .int s), (2, .int n)], [.int 199, .int 0, .int n], (sh, I, L, R))) (M := mr_342) rfl (show mcode 342 12 = some (12, .sipush 199, 3, 0, 0, 0, _) from rfl) (Or.inl ⟨.int 199, rfl, rfl⟩) ?_
    refine XW.call (d' := d) (mc' := 0) (ms' := 0) (av := [.int n, .int 0, .int 199]) (rest := []) (M := mr_342) (Ma := mr_236) rfl (show mcode 342 15 = some (15, .invokestatic 254, 3, 236, 0, 0, _) from rfl) rfl (by decide) (by decide) rfl rfl rfl (show 0 ≤ 8 by decide) (tc_inM) (by omega) (Nat.zero_le _) (Nat.zero_le _) (fun rQ2 wQ2 Q2 => ?_)
    obtain ⟨hQ2, rfl⟩ := Q2
    rcases hQ2 with ⟨rfl, gQ2⟩ | ⟨rfl, gQ2⟩
    · skip
      refine XW.fam (S' := (21, [(0, .ref 94), (1, .int s), (2, .int n)], [], (sh, I, L, R))) (M := mr_342) rfl (show mcode 342 18 = some (18, .ifCond .ne 5, 3, 23, 0, 0, _) from rfl) (Or.inr (Or.inl ⟨21, [], rfl, rfl⟩)) ?_
      refine XW.fam (S' := (22, [(0, .ref 94), (1, .int s), (2, .int n)], [.int (-1)], (sh, I, L, R))) (M := mr_342) rfl (show mcode 342 21 = some (21, .iconst (-1), 1, 0, 0, 0, _) from rfl) (Or.inl ⟨.int (-1), rfl, rfl⟩) ?_
      refine XW.ret (r := some (.int (-1))) ⟨⟨.int, rfl, rfl⟩, by decide +kernel⟩ ?_
      exact ⟨hf, ⟨sh, R, hw⟩, Or.inl ⟨fun q => by omega, rfl, rfl⟩⟩
    · skip
      refine XW.fam (S' := (23, [(0, .ref 94), (1, .int s), (2, .int n)], [], (sh, I, L, R))) (M := mr_342) rfl (show mcode 342 18 = some (18, .ifCond .ne 5, 3, 23, 0, 0, _) from rfl) (Or.inr (Or.inl ⟨23, [], rfl, rfl⟩)) ?_
      refine XW.fam (S' := (24, [(0, .ref 94), (1, .int s), (2, .int n)], [.ref 94], (sh, I, L, R))) (M := mr_342) rfl (show mcode 342 23 = some (23, .aload_n 0, 1, 0, 0, 0, _) from rfl) (Or.inl ⟨.ref 94, rfl, rfl⟩) ?_
      refine XW.fam (S' := (27, [(0, .ref 94), (1, .int s), (2, .int n)], [.ref 162], (sh, I, L, R))) (M := mr_342) rfl (show mcode 342 24 = some (24, .getfield 226, 3, 12, 102, 0, _) from rfl) (Or.inr (Or.inr (Or.inr (Or.inr (Or.inr (Or.inr (Or.inr (Or.inl ⟨_, _, rfl, fl_ld c94 r94_102 (by decide) (by decide), rfl⟩)))))))) ?_
      refine XW.fam (S' := (28, [(0, .ref 94), (1, .int s), (2, .int n)], [.int s, .ref 162], (sh, I, L, R))) (M := mr_342) rfl (show mcode 342 27 = some (27, .iload_n 1, 1, 0, 0, 0, _) from rfl) (Or.inl ⟨.int s, rfl, rfl⟩) ?_
      have hin3 : inR s 100 = true := inR_of (by omega) (by omega)
      refine XW.fam (S' := (29, [(0, .ref 94), (1, .int s), (2, .int n)], [.int (I 162 (s).toNatClampNeg)], (sh, I, L, R))) (M := mr_342) rfl (show mcode 342 28 = some (28, .iaload, 1, 0, 0, 0, _) from rfl) (Or.inr (Or.inr (Or.inl ⟨_, lda_i c162 hin3, rfl⟩))) ?_
      refine XW.fam (S' := (30, [(3, .int (I 162 (s).toNatClampNeg)), (0, .ref 94), (1, .int s), (2, .int n)], [], (sh, I, L, R))) (M := mr_342) rfl (show mcode 342 29 = some (29, .istore_n 3, 1, 0, 0, 0, _) from rfl) (Or.inr (Or.inr (Or.inr (Or.inr (Or.inr (Or.inr (Or.inl ⟨_, [], _, rfl, rfl, rfl⟩))))))) ?_
      refine XW.fam (S' := (31, [(3, .int (I 162 (s).toNatClampNeg)), (0, .ref 94), (1, .int s), (2, .int n)], [.ref 94], (sh, I, L, R))) (M := mr_342) rfl (show mcode 342 30 = some (30, .aload_n 0, 1, 0, 0, 0, _) from rfl) (Or.inl ⟨.ref 94, rfl, rfl⟩) ?_
      refine XW.fam (S' := (34, [(3, .int (I 162 (s).toNatClampNeg)), (0, .ref 94), (1, .int s), (2, .int n)], [.ref 162], (sh, I, L, R))) (M := mr_342) rfl (show mcode 342 31 = some (31, .getfield 226, 3, 12, 102, 0, _) from rfl) (Or.inr (Or.inr (Or.inr (Or.inr (Or.inr (Or.inr (Or.inr (Or.inl ⟨_, _, rfl, fl_ld c94 r94_102 (by decide) (by decide), rfl⟩)))))))) ?_
      refine XW.fam (S' := (35, [(3, .int (I 162 (s).toNatClampNeg)), (0, .ref 94), (1, .int s), (2, .int n)], [.int s, .ref 162], (sh, I, L, R))) (M := mr_342) rfl (show mcode 342 34 = some (34, .iload_n 1, 1, 0, 0, 0, _) from rfl) (Or.inl ⟨.int s, rfl, rfl⟩) ?_
      refine XW.fam (S' := (36, [(3, .int (I 162 (s).toNatClampNeg)), (0, .ref 94), (1, .int s), (2, .int n)], [.int n, .int s, .ref 162], (sh, I, L, R))) (M := mr_342) rfl (show mcode 342 35 = some (35, .iload_n 2, 1, 0, 0, 0, _) from rfl) (Or.inl ⟨.int n, rfl, rfl⟩) ?_
      have hin4 : inR s 100 = true := inR_of (by omega) (by omega)
      obtain ⟨I5, eI5⟩ : ∃ X, X = up2 I 162 (s).toNatClampNeg n := ⟨_, rfl⟩
      refine XW.fam (S' := (37, [(3, .int (I 162 (s).toNatClampNeg)), (0, .ref 94), (1, .int s), (2, .int n)], [], (sh, I5, L, R))) (M := mr_342) rfl (show mcode 342 36 = some (36, .iastore, 1, 0, 0, 0, _) from rfl) (Or.inr (Or.inr (Or.inr (Or.inl ⟨_, _, by rw [eI5]; exact sta_i c162 hin4, rfl⟩)))) ?_
      have hwI5 : wOK (mkT vV []) (wE sh R) (sh, I5, L, R) := by rw [eI5]; exact wOK_u2 (q := 162) (k := (s).toNatClampNeg) (x := n) wE_put hw rfl (by show (0 : Int) ≤ _; omega) (by show _ ≤ (199 : Int); omega)
      have hfI5 : fresh (sh, I5, L, R) := by rw [eI5]; exact fresh_I hf c162
      refine XW.fam (S' := (38, [(3, .int (I 162 (s).toNatClampNeg)), (0, .ref 94), (1, .int s), (2, .int n)], [.int (I 162 (s).toNatClampNeg)], (sh, I5, L, R))) (M := mr_342) rfl (show mcode 342 37 = some (37, .iload_n 3, 1, 0, 0, 0, _) from rfl) (Or.inl ⟨.int (I 162 (s).toNatClampNeg), rfl, rfl⟩) ?_
      refine XW.ret (r := some (.int (I 162 (s).toNatClampNeg))) ⟨⟨.int, rfl, rfl⟩, by decide +kernel⟩ ?_
      exact ⟨hfI5, ⟨sh, R, hwI5⟩, Or.inr ⟨by omega, rfl, eI5⟩⟩
theorem tc_berC {d : Nat} {sh : List mE} {I : Nat → Nat → Int32} {L : Nat → Nat → Int64} {R : Nat → Nat → Option Nat} {a b n : Int32} (hw : wOK (mkT vV []) (wE sh R) (sh, I, L, R)) (hf : fresh (sh, I, L, R)) : Tc 203 (d + 1) 0 0 [.ref 90, .int a, .int b, .int n] (sh, I, L, R) (Qset 92 ((0 ≤ a.toInt ∧ a.toInt ≤ 3) ∧ (0 ≤ b.toInt ∧ b.toInt ≤ 7) ∧ (0 ≤ n.toInt ∧ n.toInt ≤ 9999)) (8 * a.toInt + b.toInt).toNat n (sh, I, L, R)) := by
  have c90 : sh[90]? = some (.inr 11) := hw.1 90 _ rfl
  have c92 : sh[92]? = some (.inl (.int, 32)) := hw.1 92 _ rfl
  have r90_1 : R 90 1 = some 92 := hw.2.1 90 1 _ rfl
  have zm1 : ((-1) : Int32).toInt = (-1) := rfl
  have z0 : (0 : Int32).toInt = 0 := rfl
  have z3 : (3 : Int32).toInt = 3 := rfl
  have z7 : (7 : Int32).toInt = 7 := rfl
  have z8 : (8 : Int32).toInt = 8 := rfl
  have z9999 : (9999 : Int32).toInt = 9999 := rfl
  refine Tc.of mr_203 rfl (show 4 ≤ mr_203.2.2.2.1 by decide) ?_
  refine XW.fam (S' := (1, [(0, .ref 90), (1, .int a), (2, .int b), (3, .int n)], [.int a], (sh, I, L, R))) (M := mr_203) rfl (show mcode 203 0 = some (0, .iload_n 1, 1, 0, 0, 0, _) from rfl) (Or.inl ⟨.int a, rfl, rfl⟩) ?_
  refine XW.fam (S' := (2, [(0, .ref 90), (1, .int a), (2, .int b), (3, .int n)], [.int 0, .int a], (sh, I, L, R))) (M := mr_203) rfl (show mcode 203 1 = some (1, .iconst 0, 1, 0, 0, 0, _) from rfl) (Or.inl ⟨.int 0, rfl, rfl⟩) ?_
  refine XW.fam (S' := (3, [(0, .ref 90), (1, .int a), (2, .int b), (3, .int n)], [.int 3, .int 0, .int a], (sh, I, L, R))) (M := mr_203) rfl (show mcode 203 2 = some (2, .iconst 3, 1, 0, 0, 0, _) from rfl) (Or.inl ⟨.int 3, rfl, rfl⟩) ?_
  refine XW.call (d' := d) (mc' := 0) (ms' := 0) (av := [.int a, .int 0, .int 3]) (rest := []) (M := mr_203) (Ma := mr_15) rfl (show mcode 203 3 = some (3, .invokestatic 21, 3, 15, 1, 0, _) from rfl) rfl (by decide) (by decide) rfl rfl rfl (show 0 ≤ 8 by decide) (tc_inC) (by omega) (Nat.zero_le _) (Nat.zero_le _) (fun rQ1 wQ1 Q1 => ?_)
  obtain ⟨hQ1, rfl⟩ := Q1
  rcases hQ1 with ⟨rfl, gQ1⟩ | ⟨rfl, gQ1⟩
  · skip
    refine XW.fam (S' := (30, [(0, .ref 90), (1, .int a), (2, .int b), (3, .int n)], [], (sh, I, L, R))) (M := mr_203) rfl (show mcode 203 6 = some (6, .ifCond .eq 24, 3, 30, 0, 0, _) from rfl) (Or.inr (Or.inl ⟨30, [], rfl, rfl⟩)) ?_
    refine XW.fam (S' := (31, [(0, .ref 90), (1, .int a), (2, .int b), (3, .int n)], [.int (-1)], (sh, I, L, R))) (M := mr_203) rfl (show mcode 203 30 = some (30, .iconst (-1), 1, 0, 0, 0, _) from rfl) (Or.inl ⟨.int (-1), rfl, rfl⟩) ?_
    refine XW.ret (r := some (.int (-1))) ⟨⟨.int, rfl, rfl⟩, by decide +kernel⟩ ?_
    exact ⟨hf, ⟨sh, R, hw⟩, Or.inl ⟨fun q => by omega, rfl, rfl⟩⟩
  · skip
    refine XW.fam (S' := (9, [(0, .ref 90), (1, .int a), (2, .int b), (3, .int n)], [], (sh, I, L, R))) (M := mr_203) rfl (show mcode 203 6 = some (6, .ifCond .eq 24, 3, 30, 0, 0, _) from rfl) (Or.inr (Or.inl ⟨9, [], rfl, rfl⟩)) ?_
    refine XW.fam (S' := (10, [(0, .ref 90), (1, .int a), (2, .int b), (3, .int n)], [.int b], (sh, I, L, R))) (M := mr_203) rfl (show mcode 203 9 = some (9, .iload_n 2, 1, 0, 0, 0, _) from rfl) (Or.inl ⟨.int b, rfl, rfl⟩) ?_
    refine XW.fam (S' := (11, [(0, .ref 90), (1, .int a), (2, .int b), (3, .int n)], [.int 0, .int b], (sh, I, L, R))) (M := mr_203) rfl (show mcode 203 10 = some (10, .iconst 0, 1, 0, 0, 0, _) from rfl) (Or.inl ⟨.int 0, rfl, rfl⟩) ?_
    refine XW.fam (S' := (13, [(0, .ref 90), (1, .int a), (2, .int b), (3, .int n)], [.int 7, .int 0, .int b], (sh, I, L, R))) (M := mr_203) rfl (show mcode 203 11 = some (11, .bipush 7, 2, 0, 0, 0, _) from rfl) (Or.inl ⟨.int 7, rfl, rfl⟩) ?_
    refine XW.call (d' := d) (mc' := 0) (ms' := 0) (av := [.int b, .int 0, .int 7]) (rest := []) (M := mr_203) (Ma := mr_15) rfl (show mcode 203 13 = some (13, .invokestatic 21, 3, 15, 1, 0, _) from rfl) rfl (by decide) (by decide) rfl rfl rfl (show 0 ≤ 8 by decide) (tc_inC) (by omega) (Nat.zero_le _) (Nat.zero_le _) (fun rQ2 wQ2 Q2 => ?_)
    obtain ⟨hQ2, rfl⟩ := Q2
    rcases hQ2 with ⟨rfl, gQ2⟩ | ⟨rfl, gQ2⟩
    · skip
      refine XW.fam (S' := (30, [(0, .ref 90), (1, .int a), (2, .int b), (3, .int n)], [], (sh, I, L, R))) (M := mr_203) rfl (show mcode 203 16 = some (16, .ifCond .eq 14, 3, 30, 0, 0, _) from rfl) (Or.inr (Or.inl ⟨30, [], rfl, rfl⟩)) ?_
      refine XW.fam (S' := (31, [(0, .ref 90), (1, .int a), (2, .int b), (3, .int n)], [.int (-1)], (sh, I, L, R))) (M := mr_203) rfl (show mcode 203 30 = some (30, .iconst (-1), 1, 0, 0, 0, _) from rfl) (Or.inl ⟨.int (-1), rfl, rfl⟩) ?_
      refine XW.ret (r := some (.int (-1))) ⟨⟨.int, rfl, rfl⟩, by decide +kernel⟩ ?_
      exact ⟨hf, ⟨sh, R, hw⟩, Or.inl ⟨fun q => by omega, rfl, rfl⟩⟩
    · skip
      refine XW.fam (S' := (19, [(0, .ref 90), (1, .int a), (2, .int b), (3, .int n)], [], (sh, I, L, R))) (M := mr_203) rfl (show mcode 203 16 = some (16, .ifCond .eq 14, 3, 30, 0, 0, _) from rfl) (Or.inr (Or.inl ⟨19, [], rfl, rfl⟩)) ?_
      refine XW.fam (S' := (20, [(0, .ref 90), (1, .int a), (2, .int b), (3, .int n)], [.int n], (sh, I, L, R))) (M := mr_203) rfl (show mcode 203 19 = some (19, .iload_n 3, 1, 0, 0, 0, _) from rfl) (Or.inl ⟨.int n, rfl, rfl⟩) ?_
      refine XW.fam (S' := (21, [(0, .ref 90), (1, .int a), (2, .int b), (3, .int n)], [.int 0, .int n], (sh, I, L, R))) (M := mr_203) rfl (show mcode 203 20 = some (20, .iconst 0, 1, 0, 0, 0, _) from rfl) (Or.inl ⟨.int 0, rfl, rfl⟩) ?_
      refine XW.fam (S' := (24, [(0, .ref 90), (1, .int a), (2, .int b), (3, .int n)], [.int 9999, .int 0, .int n], (sh, I, L, R))) (M := mr_203) rfl (show mcode 203 21 = some (21, .sipush 9999, 3, 0, 0, 0, _) from rfl) (Or.inl ⟨.int 9999, rfl, rfl⟩) ?_
      refine XW.call (d' := d) (mc' := 0) (ms' := 0) (av := [.int n, .int 0, .int 9999]) (rest := []) (M := mr_203) (Ma := mr_15) rfl (show mcode 203 24 = some (24, .invokestatic 21, 3, 15, 1, 0, _) from rfl) rfl (by decide) (by decide) rfl rfl rfl (show 0 ≤ 8 by decide) (tc_inC) (by omega) (Nat.zero_le _) (Nat.zero_le _) (fun rQ3 wQ3 Q3 => ?_)
      obtain ⟨hQ3, rfl⟩ := Q3
      rcases hQ3 with ⟨rfl, gQ3⟩ | ⟨rfl, gQ3⟩
      · skip
        refine XW.fam (S' := (30, [(0, .ref 90), (1, .int a), (2, .int b), (3, .int n)], [], (sh, I, L, R))) (M := mr_203) rfl (show mcode 203 27 = some (27, .ifCond .ne 5, 3, 32, 0, 0, _) from rfl) (Or.inr (Or.inl ⟨30, [], rfl, rfl⟩)) ?_
        refine XW.fam (S' := (31, [(0, .ref 90), (1, .int a), (2, .int b), (3, .int n)], [.int (-1)], (sh, I, L, R))) (M := mr_203) rfl (show mcode 203 30 = some (30, .iconst (-1), 1, 0, 0, 0, _) from rfl) (Or.inl ⟨.int (-1), rfl, rfl⟩) ?_
        refine XW.ret (r := some (.int (-1))) ⟨⟨.int, rfl, rfl⟩, by decide +kernel⟩ ?_
        exact ⟨hf, ⟨sh, R, hw⟩, Or.inl ⟨fun q => by omega, rfl, rfl⟩⟩
      · skip
        refine XW.fam (S' := (32, [(0, .ref 90), (1, .int a), (2, .int b), (3, .int n)], [], (sh, I, L, R))) (M := mr_203) rfl (show mcode 203 27 = some (27, .ifCond .ne 5, 3, 32, 0, 0, _) from rfl) (Or.inr (Or.inl ⟨32, [], rfl, rfl⟩)) ?_
        refine XW.fam (S' := (33, [(0, .ref 90), (1, .int a), (2, .int b), (3, .int n)], [.ref 90], (sh, I, L, R))) (M := mr_203) rfl (show mcode 203 32 = some (32, .aload_n 0, 1, 0, 0, 0, _) from rfl) (Or.inl ⟨.ref 90, rfl, rfl⟩) ?_
        refine XW.fam (S' := (36, [(0, .ref 90), (1, .int a), (2, .int b), (3, .int n)], [.ref 92], (sh, I, L, R))) (M := mr_203) rfl (show mcode 203 33 = some (33, .getfield 15, 3, 11, 1, 0, _) from rfl) (Or.inr (Or.inr (Or.inr (Or.inr (Or.inr (Or.inr (Or.inr (Or.inl ⟨_, _, rfl, fl_ld c90 r90_1 (by decide) (by decide), rfl⟩)))))))) ?_
        refine XW.fam (S' := (37, [(0, .ref 90), (1, .int a), (2, .int b), (3, .int n)], [.int a, .ref 92], (sh, I, L, R))) (M := mr_203) rfl (show mcode 203 36 = some (36, .iload_n 1, 1, 0, 0, 0, _) from rfl) (Or.inl ⟨.int a, rfl, rfl⟩) ?_
        refine XW.fam (S' := (39, [(0, .ref 90), (1, .int a), (2, .int b), (3, .int n)], [.int 8, .int a, .ref 92], (sh, I, L, R))) (M := mr_203) rfl (show mcode 203 37 = some (37, .bipush 8, 2, 0, 0, 0, _) from rfl) (Or.inl ⟨.int 8, rfl, rfl⟩) ?_
        refine XW.fam (S' := (40, [(0, .ref 90), (1, .int a), (2, .int b), (3, .int n)], [.int (a * 8), .ref 92], (sh, I, L, R))) (M := mr_203) rfl (show mcode 203 39 = some (39, .imul, 1, 0, 0, 0, _) from rfl) (Or.inr (Or.inr (Or.inr (Or.inr (Or.inr (Or.inl ⟨_, rfl, rfl⟩)))))) ?_
        refine XW.fam (S' := (41, [(0, .ref 90), (1, .int a), (2, .int b), (3, .int n)], [.int b, .int (a * 8), .ref 92], (sh, I, L, R))) (M := mr_203) rfl (show mcode 203 40 = some (40, .iload_n 2, 1, 0, 0, 0, _) from rfl) (Or.inl ⟨.int b, rfl, rfl⟩) ?_
        refine XW.fam (S' := (42, [(0, .ref 90), (1, .int a), (2, .int b), (3, .int n)], [.int ((a * 8) + b), .ref 92], (sh, I, L, R))) (M := mr_203) rfl (show mcode 203 41 = some (41, .iadd, 1, 0, 0, 0, _) from rfl) (Or.inr (Or.inr (Or.inr (Or.inr (Or.inr (Or.inl ⟨_, rfl, rfl⟩)))))) ?_
        have xhin4 := ix8a (a := a) (b := b) (by omega) (by omega)
        have yhin4 : (((a * 8) + b)).toNatClampNeg = (8 * a.toInt + b.toInt).toNat := by show (((a * 8) + b)).toInt.toNat = _; rw [xhin4]
        have hin4 : inR ((a * 8) + b) 32 = true := inR_of (by omega) (by omega)
        refine XW.fam (S' := (43, [(0, .ref 90), (1, .int a), (2, .int b), (3, .int n)], [.int (I 92 (((a * 8) + b)).toNatClampNeg)], (sh, I, L, R))) (M := mr_203) rfl (show mcode 203 42 = some (42, .iaload, 1, 0, 0, 0, _) from rfl) (Or.inr (Or.inr (Or.inl ⟨_, lda_i c92 hin4, rfl⟩))) ?_
        refine XW.fam (S' := (45, [(4, .int (I 92 (((a * 8) + b)).toNatClampNeg)), (0, .ref 90), (1, .int a), (2, .int b), (3, .int n)], [], (sh, I, L, R))) (M := mr_203) rfl (show mcode 203 43 = some (43, .istore 4, 2, 0, 0, 0, _) from rfl) (Or.inr (Or.inr (Or.inr (Or.inr (Or.inr (Or.inr (Or.inl ⟨_, [], _, rfl, rfl, rfl⟩))))))) ?_
        refine XW.fam (S' := (46, [(4, .int (I 92 (((a * 8) + b)).toNatClampNeg)), (0, .ref 90), (1, .int a), (2, .int b), (3, .int n)], [.ref 90], (sh, I, L, R))) (M := mr_203) rfl (show mcode 203 45 = some (45, .aload_n 0, 1, 0, 0, 0, _) from rfl) (Or.inl ⟨.ref 90, rfl, rfl⟩) ?_
        refine XW.fam (S' := (49, [(4, .int (I 92 (((a * 8) + b)).toNatClampNeg)), (0, .ref 90), (1, .int a), (2, .int b), (3, .int n)], [.ref 92], (sh, I, L, R))) (M := mr_203) rfl (show mcode 203 46 = some (46, .getfield 15, 3, 11, 1, 0, _) from rfl) (Or.inr (Or.inr (Or.inr (Or.inr (Or.inr (Or.inr (Or.inr (Or.inl ⟨_, _, rfl, fl_ld c90 r90_1 (by decide) (by decide), rfl⟩)))))))) ?_
        refine XW.fam (S' := (50, [(4, .int (I 92 (((a * 8) + b)).toNatClampNeg)), (0, .ref 90), (1, .int a), (2, .int b), (3, .int n)], [.int a, .ref 92], (sh, I, L, R))) (M := mr_203) rfl (show mcode 203 49 = some (49, .iload_n 1, 1, 0, 0, 0, _) from rfl) (Or.inl ⟨.int a, rfl, rfl⟩) ?_
        refine XW.fam (S' := (52, [(4, .int (I 92 (((a * 8) + b)).toNatClampNeg)), (0, .ref 90), (1, .int a), (2, .int b), (3, .int n)], [.int 8, .int a, .ref 92], (sh, I, L, R))) (M := mr_203) rfl (show mcode 203 50 = some (50, .bipush 8, 2, 0, 0, 0, _) from rfl) (Or.inl ⟨.int 8, rfl, rfl⟩) ?_
        refine XW.fam (S' := (53, [(4, .int (I 92 (((a * 8) + b)).toNatClampNeg)), (0, .ref 90), (1, .int a), (2, .int b), (3, .int n)], [.int (a * 8), .ref 92], (sh, I, L, R))) (M := mr_203) rfl (show mcode 203 52 = some (52, .imul, 1, 0, 0, 0, _) from rfl) (Or.inr (Or.inr (Or.inr (Or.inr (Or.inr (Or.inl ⟨_, rfl, rfl⟩)))))) ?_
        refine XW.fam (S' := (54, [(4, .int (I 92 (((a * 8) + b)).toNatClampNeg)), (0, .ref 90), (1, .int a), (2, .int b), (3, .int n)], [.int b, .int (a * 8), .ref 92], (sh, I, L, R))) (M := mr_203) rfl (show mcode 203 53 = some (53, .iload_n 2, 1, 0, 0, 0, _) from rfl) (Or.inl ⟨.int b, rfl, rfl⟩) ?_
        refine XW.fam (S' := (55, [(4, .int (I 92 (((a * 8) + b)).toNatClampNeg)), (0, .ref 90), (1, .int a), (2, .int b), (3, .int n)], [.int ((a * 8) + b), .ref 92], (sh, I, L, R))) (M := mr_203) rfl (show mcode 203 54 = some (54, .iadd, 1, 0, 0, 0, _) from rfl) (Or.inr (Or.inr (Or.inr (Or.inr (Or.inr (Or.inl ⟨_, rfl, rfl⟩)))))) ?_
        refine XW.fam (S' := (56, [(4, .int (I 92 (((a * 8) + b)).toNatClampNeg)), (0, .ref 90), (1, .int a), (2, .int b), (3, .int n)], [.int n, .int ((a * 8) + b), .ref 92], (sh, I, L, R))) (M := mr_203) rfl (show mcode 203 55 = some (55, .iload_n 3, 1, 0, 0, 0, _) from rfl) (Or.inl ⟨.int n, rfl, rfl⟩) ?_
        have xhin5 := ix8a (a := a) (b := b) (by omega) (by omega)
        have yhin5 : (((a * 8) + b)).toNatClampNeg = (8 * a.toInt + b.toInt).toNat := by show (((a * 8) + b)).toInt.toNat = _; rw [xhin5]
        have hin5 : inR ((a * 8) + b) 32 = true := inR_of (by omega) (by omega)
        obtain ⟨I6, eI6⟩ : ∃ X, X = up2 I 92 (((a * 8) + b)).toNatClampNeg n := ⟨_, rfl⟩
        refine XW.fam (S' := (57, [(4, .int (I 92 (((a * 8) + b)).toNatClampNeg)), (0, .ref 90), (1, .int a), (2, .int b), (3, .int n)], [], (sh, I6, L, R))) (M := mr_203) rfl (show mcode 203 56 = some (56, .iastore, 1, 0, 0, 0, _) from rfl) (Or.inr (Or.inr (Or.inr (Or.inl ⟨_, _, by rw [eI6]; exact sta_i c92 hin5, rfl⟩)))) ?_
        have hwI6 : wOK (mkT vV []) (wE sh R) (sh, I6, L, R) := by rw [eI6]; exact wOK_u2 (q := 92) (k := (((a * 8) + b)).toNatClampNeg) (x := n) wE_put hw rfl (by show (0 : Int) ≤ _; omega) (by show _ ≤ (9999 : Int); omega)
        have hfI6 : fresh (sh, I6, L, R) := by rw [eI6]; exact fresh_I hf c92
        refine XW.fam (S' := (59, [(4, .int (I 92 (((a * 8) + b)).toNatClampNeg)), (0, .ref 90), (1, .int a), (2, .int b), (3, .int n)], [.int (I 92 (((a * 8) + b)).toNatClampNeg)], (sh, I6, L, R))) (M := mr_203) rfl (show mcode 203 57 = some (57, .iload 4, 2, 0, 0, 0, _) from rfl) (Or.inl ⟨.int (I 92 (((a * 8) + b)).toNatClampNeg), rfl, rfl⟩) ?_
        refine XW.ret (r := some (.int (I 92 (((a * 8) + b)).toNatClampNeg))) ⟨⟨.int, rfl, rfl⟩, by decide +kernel⟩ ?_
        exact ⟨hfI6, ⟨sh, R, hwI6⟩, Or.inr ⟨by omega, by show some (Value.int _) = some (Value.int _); rw [yhin5], by show I6 = _; rw [eI6, yhin5]⟩⟩
theorem tc_berthsC {d : Nat} {sh : List mE} {R : Nat → Nat → Option Nat} {w : mW} {a b n : Int32} (hw : wOK (mkT vV []) (wE sh R) w) (hf : fresh w) : Tc 202 (d + 2) 0 0 [.ref 0, .int a, .int b, .int n] w (Qset 92 ((0 ≤ a.toInt ∧ a.toInt ≤ 3) ∧ (0 ≤ b.toInt ∧ b.toInt ≤ 7) ∧ (0 ≤ n.toInt ∧ n.toInt ≤ 9999)) (8 * a.toInt + b.toInt).toNat n w) := by
  obtain ⟨sh0, I, L, R0⟩ := w
  obtain rfl : sh = sh0 := hw.2.2.2.1.symm
  obtain rfl : R = R0 := hw.2.2.2.2.1.symm
  have c0 : sh[0]? = some (.inr 0) := hw.1 0 _ rfl
  have c90 : sh[90]? = some (.inr 11) := hw.1 90 _ rfl
  have r0_10 : R 0 10 = some 90 := hw.2.1 0 10 _ rfl
  refine Tc.of mr_202 rfl (show 4 ≤ mr_202.2.2.2.1 by decide) ?_
  refine XW.fam (S' := (1, [(0, .ref 0), (1, .int a), (2, .int b), (3, .int n)], [.ref 0], (sh, I, L, R))) (M := mr_202) rfl (show mcode 202 0 = some (0, .aload_n 0, 1, 0, 0, 0, _) from rfl) (Or.inl ⟨.ref 0, rfl, rfl⟩) ?_
  refine XW.fam (S' := (4, [(0, .ref 0), (1, .int a), (2, .int b), (3, .int n)], [.ref 90], (sh, I, L, R))) (M := mr_202) rfl (show mcode 202 1 = some (1, .getfield 92, 3, 0, 10, 0, _) from rfl) (Or.inr (Or.inr (Or.inr (Or.inr (Or.inr (Or.inr (Or.inr (Or.inl ⟨_, _, rfl, fl_ld c0 r0_10 (by decide) (by decide), rfl⟩)))))))) ?_
  refine XW.fam (S' := (5, [(0, .ref 0), (1, .int a), (2, .int b), (3, .int n)], [.int a, .ref 90], (sh, I, L, R))) (M := mr_202) rfl (show mcode 202 4 = some (4, .iload_n 1, 1, 0, 0, 0, _) from rfl) (Or.inl ⟨.int a, rfl, rfl⟩) ?_
  refine XW.fam (S' := (6, [(0, .ref 0), (1, .int a), (2, .int b), (3, .int n)], [.int b, .int a, .ref 90], (sh, I, L, R))) (M := mr_202) rfl (show mcode 202 5 = some (5, .iload_n 2, 1, 0, 0, 0, _) from rfl) (Or.inl ⟨.int b, rfl, rfl⟩) ?_
  refine XW.fam (S' := (7, [(0, .ref 0), (1, .int a), (2, .int b), (3, .int n)], [.int n, .int b, .int a, .ref 90], (sh, I, L, R))) (M := mr_202) rfl (show mcode 202 6 = some (6, .iload_n 3, 1, 0, 0, 0, _) from rfl) (Or.inl ⟨.int n, rfl, rfl⟩) ?_
  refine XW.call (d' := d + 1) (mc' := 0) (ms' := 0) (av := [.ref 90, .int a, .int b, .int n]) (rest := []) (M := mr_202) (Ma := mr_203) rfl (show mcode 202 7 = some (7, .invokevirtual 309, 3, 203, 0, 0, _) from rfl) rfl (by decide) (by decide) ⟨rfl, 90, _, rfl, c90⟩ rfl rfl (show 0 ≤ 8 by decide) (tc_berC (d := d) hw hf) (by omega) (Nat.zero_le _) (Nat.zero_le _) (fun rQ1 wQ1 Q1 => ?_)
  obtain ⟨yQ1, eyQ1⟩ := Qset_int Q1
  subst eyQ1
  refine XW.ret (r := some (.int yQ1)) ⟨⟨.int, rfl, rfl⟩, by decide +kernel⟩ ?_
  exact Q1
theorem tc_berthsM {d : Nat} {sh : List mE} {R : Nat → Nat → Option Nat} {w : mW} {a b n : Int32} (hw : wOK (mkT vV []) (wE sh R) w) (hf : fresh w) : Tc 343 (d + 1) 0 0 [.ref 94, .int a, .int b, .int n] w (Qset 163 ((0 ≤ a.toInt ∧ a.toInt ≤ 3) ∧ (0 ≤ b.toInt ∧ b.toInt ≤ 7) ∧ (0 ≤ n.toInt ∧ n.toInt ≤ 9999)) (8 * a.toInt + b.toInt).toNat n w) := by
  obtain ⟨sh0, I, L, R0⟩ := w
  obtain rfl : sh = sh0 := hw.2.2.2.1.symm
  obtain rfl : R = R0 := hw.2.2.2.2.1.symm
  have c94 : sh[94]? = some (.inr 12) := hw.1 94 _ rfl
  have c163 : sh[163]? = some (.inl (.int, 32)) := hw.1 163 _ rfl
  have r94_103 : R 94 103 = some 163 := hw.2.1 94 103 _ rfl
  have zm1 : ((-1) : Int32).toInt = (-1) := rfl
  have z0 : (0 : Int32).toInt = 0 := rfl
  have z3 : (3 : Int32).toInt = 3 := rfl
  have z7 : (7 : Int32).toInt = 7 := rfl
  have z8 : (8 : Int32).toInt = 8 := rfl
  have z9999 : (9999 : Int32).toInt = 9999 := rfl
  refine Tc.of mr_343 rfl (show 4 ≤ mr_343.2.2.2.1 by decide) ?_
  refine XW.fam (S' := (1, [(0, .ref 94), (1, .int a), (2, .int b), (3, .int n)], [.int a], (sh, I, L, R))) (M := mr_343) rfl (show mcode 343 0 = some (0, .iload_n 1, 1, 0, 0, 0, _) from rfl) (Or.inl ⟨.int a, rfl, rfl⟩) ?_
  refine XW.fam (S' := (2, [(0, .ref 94), (1, .int a), (2, .int b), (3, .int n)], [.int 0, .int a], (sh, I, L, R))) (M := mr_343) rfl (show mcode 343 1 = some (1, .iconst 0, 1, 0, 0, 0, _) from rfl) (Or.inl ⟨.int 0, rfl, rfl⟩) ?_
  refine XW.fam (S' := (3, [(0, .ref 94), (1, .int a), (2, .int b), (3, .int n)], [.int 3, .int 0, .int a], (sh, I, L, R))) (M := mr_343) rfl (show mcode 343 2 = some (2, .iconst 3, 1, 0, 0, 0, _) from rfl) (Or.inl ⟨.int 3, rfl, rfl⟩) ?_
  refine XW.call (d' := d) (mc' := 0) (ms' := 0) (av := [.int a, .int 0, .int 3]) (rest := []) (M := mr_343) (Ma := mr_236) rfl (show mcode 343 3 = some (3, .invokestatic 254, 3, 236, 0, 0, _) from rfl) rfl (by decide) (by decide) rfl rfl rfl (show 0 ≤ 8 by decide) (tc_inM) (by omega) (Nat.zero_le _) (Nat.zero_le _) (fun rQ1 wQ1 Q1 => ?_)
  obtain ⟨hQ1, rfl⟩ := Q1
  rcases hQ1 with ⟨rfl, gQ1⟩ | ⟨rfl, gQ1⟩
  · skip
    refine XW.fam (S' := (30, [(0, .ref 94), (1, .int a), (2, .int b), (3, .int n)], [], (sh, I, L, R))) (M := mr_343) rfl (show mcode 343 6 = some (6, .ifCond .eq 24, 3, 30, 0, 0, _) from rfl) (Or.inr (Or.inl ⟨30, [], rfl, rfl⟩)) ?_
    refine XW.fam (S' := (31, [(0, .ref 94), (1, .int a), (2, .int b), (3, .int n)], [.int (-1)], (sh, I, L, R))) (M := mr_343) rfl (show mcode 343 30 = some (30, .iconst (-1), 1, 0, 0, 0, _) from rfl) (Or.inl ⟨.int (-1), rfl, rfl⟩) ?_
    refine XW.ret (r := some (.int (-1))) ⟨⟨.int, rfl, rfl⟩, by decide +kernel⟩ ?_
    exact ⟨hf, ⟨sh, R, hw⟩, Or.inl ⟨fun q => by omega, rfl, rfl⟩⟩
  · skip
    refine XW.fam (S' := (9, [(0, .ref 94), (1, .int a), (2, .int b), (3, .int n)], [], (sh, I, L, R))) (M := mr_343) rfl (show mcode 343 6 = some (6, .ifCond .eq 24, 3, 30, 0, 0, _) from rfl) (Or.inr (Or.inl ⟨9, [], rfl, rfl⟩)) ?_
    refine XW.fam (S' := (10, [(0, .ref 94), (1, .int a), (2, .int b), (3, .int n)], [.int b], (sh, I, L, R))) (M := mr_343) rfl (show mcode 343 9 = some (9, .iload_n 2, 1, 0, 0, 0, _) from rfl) (Or.inl ⟨.int b, rfl, rfl⟩) ?_
    refine XW.fam (S' := (11, [(0, .ref 94), (1, .int a), (2, .int b), (3, .int n)], [.int 0, .int b], (sh, I, L, R))) (M := mr_343) rfl (show mcode 343 10 = some (10, .iconst 0, 1, 0, 0, 0, _) from rfl) (Or.inl ⟨.int 0, rfl, rfl⟩) ?_
    refine XW.fam (S' := (13, [(0, .ref 94), (1, .int a), (2, .int b), (3, .int n)], [.int 7, .int 0, .int b], (sh, I, L, R))) (M := mr_343) rfl (show mcode 343 11 = some (11, .bipush 7, 2, 0, 0, 0, _) from rfl) (Or.inl ⟨.int 7, rfl, rfl⟩) ?_
    refine XW.call (d' := d) (mc' := 0) (ms' := 0) (av := [.int b, .int 0, .int 7]) (rest := []) (M := mr_343) (Ma := mr_236) rfl (show mcode 343 13 = some (13, .invokestatic 254, 3, 236, 0, 0, _) from rfl) rfl (by decide) (by decide) rfl rfl rfl (show 0 ≤ 8 by decide) (tc_inM) (by omega) (Nat.zero_le _) (Nat.zero_le _) (fun rQ2 wQ2 Q2 => ?_)
    obtain ⟨hQ2, rfl⟩ := Q2
    rcases hQ2 with ⟨rfl, gQ2⟩ | ⟨rfl, gQ2⟩
    · skip
      refine XW.fam (S' := (30, [(0, .ref 94), (1, .int a), (2, .int b), (3, .int n)], [], (sh, I, L, R))) (M := mr_343) rfl (show mcode 343 16 = some (16, .ifCond .eq 14, 3, 30, 0, 0, _) from rfl) (Or.inr (Or.inl ⟨30, [], rfl, rfl⟩)) ?_
      refine XW.fam (S' := (31, [(0, .ref 94), (1, .int a), (2, .int b), (3, .int n)], [.int (-1)], (sh, I, L, R))) (M := mr_343) rfl (show mcode 343 30 = some (30, .iconst (-1), 1, 0, 0, 0, _) from rfl) (Or.inl ⟨.int (-1), rfl, rfl⟩) ?_
      refine XW.ret (r := some (.int (-1))) ⟨⟨.int, rfl, rfl⟩, by decide +kernel⟩ ?_
      exact ⟨hf, ⟨sh, R, hw⟩, Or.inl ⟨fun q => by omega, rfl, rfl⟩⟩
    · skip
      refine XW.fam (S' := (19, [(0, .ref 94), (1, .int a), (2, .int b), (3, .int n)], [], (sh, I, L, R))) (M := mr_343) rfl (show mcode 343 16 = some (16, .ifCond .eq 14, 3, 30, 0, 0, _) from rfl) (Or.inr (Or.inl ⟨19, [], rfl, rfl⟩)) ?_
      refine XW.fam (S' := (20, [(0, .ref 94), (1, .int a), (2, .int b), (3, .int n)], [.int n], (sh, I, L, R))) (M := mr_343) rfl (show mcode 343 19 = some (19, .iload_n 3, 1, 0, 0, 0, _) from rfl) (Or.inl ⟨.int n, rfl, rfl⟩) ?_
      refine XW.fam (S' := (21, [(0, .ref 94), (1, .int a), (2, .int b), (3, .int n)], [.int 0, .int n], (sh, I, L, R))) (M := mr_343) rfl (show mcode 343 20 = some (20, .iconst 0, 1, 0, 0, 0, _) from rfl) (Or.inl ⟨.int 0, rfl, rfl⟩) ?_
      refine XW.fam (S' := (24, [(0, .ref 94), (1, .int a), (2, .int b), (3, .int n)], [.int 9999, .int 0, .int n], (sh, I, L, R))) (M := mr_343) rfl (show mcode 343 21 = some (21, .sipush 9999, 3, 0, 0, 0, _) from rfl) (Or.inl ⟨.int 9999, rfl, rfl⟩) ?_
      refine XW.call (d' := d) (mc' := 0) (ms' := 0) (av := [.int n, .int 0, .int 9999]) (rest := []) (M := mr_343) (Ma := mr_236) rfl (show mcode 343 24 = some (24, .invokestatic 254, 3, 236, 0, 0, _) from rfl) rfl (by decide) (by decide) rfl rfl rfl (show 0 ≤ 8 by decide) (tc_inM) (by omega) (Nat.zero_le _) (Nat.zero_le _) (fun rQ3 wQ3 Q3 => ?_)
      obtain ⟨hQ3, rfl⟩ := Q3
      rcases hQ3 with ⟨rfl, gQ3⟩ | ⟨rfl, gQ3⟩
      · skip
        refine XW.fam (S' := (30, [(0, .ref 94), (1, .int a), (2, .int b), (3, .int n)], [], (sh, I, L, R))) (M := mr_343) rfl (show mcode 343 27 = some (27, .ifCond .ne 5, 3, 32, 0, 0, _) from rfl) (Or.inr (Or.inl ⟨30, [], rfl, rfl⟩)) ?_
        refine XW.fam (S' := (31, [(0, .ref 94), (1, .int a), (2, .int b), (3, .int n)], [.int (-1)], (sh, I, L, R))) (M := mr_343) rfl (show mcode 343 30 = some (30, .iconst (-1), 1, 0, 0, 0, _) from rfl) (Or.inl ⟨.int (-1), rfl, rfl⟩) ?_
        refine XW.ret (r := some (.int (-1))) ⟨⟨.int, rfl, rfl⟩, by decide +kernel⟩ ?_
        exact ⟨hf, ⟨sh, R, hw⟩, Or.inl ⟨fun q => by omega, rfl, rfl⟩⟩
      · skip
        refine XW.fam (S' := (32, [(0, .ref 94), (1, .int a), (2, .int b), (3, .int n)], [], (sh, I, L, R))) (M := mr_343) rfl (show mcode 343 27 = some (27, .ifCond .ne 5, 3, 32, 0, 0, _) from rfl) (Or.inr (Or.inl ⟨32, [], rfl, rfl⟩)) ?_
        refine XW.fam (S' := (33, [(0, .ref 94), (1, .int a), (2, .int b), (3, .int n)], [.ref 94], (sh, I, L, R))) (M := mr_343) rfl (show mcode 343 32 = some (32, .aload_n 0, 1, 0, 0, 0, _) from rfl) (Or.inl ⟨.ref 94, rfl, rfl⟩) ?_
        refine XW.fam (S' := (36, [(0, .ref 94), (1, .int a), (2, .int b), (3, .int n)], [.ref 163], (sh, I, L, R))) (M := mr_343) rfl (show mcode 343 33 = some (33, .getfield 229, 3, 12, 103, 0, _) from rfl) (Or.inr (Or.inr (Or.inr (Or.inr (Or.inr (Or.inr (Or.inr (Or.inl ⟨_, _, rfl, fl_ld c94 r94_103 (by decide) (by decide), rfl⟩)))))))) ?_
        refine XW.fam (S' := (38, [(0, .ref 94), (1, .int a), (2, .int b), (3, .int n)], [.int 8, .ref 163], (sh, I, L, R))) (M := mr_343) rfl (show mcode 343 36 = some (36, .bipush 8, 2, 0, 0, 0, _) from rfl) (Or.inl ⟨.int 8, rfl, rfl⟩) ?_
        refine XW.fam (S' := (39, [(0, .ref 94), (1, .int a), (2, .int b), (3, .int n)], [.int a, .int 8, .ref 163], (sh, I, L, R))) (M := mr_343) rfl (show mcode 343 38 = some (38, .iload_n 1, 1, 0, 0, 0, _) from rfl) (Or.inl ⟨.int a, rfl, rfl⟩) ?_
        refine XW.fam (S' := (40, [(0, .ref 94), (1, .int a), (2, .int b), (3, .int n)], [.int (8 * a), .ref 163], (sh, I, L, R))) (M := mr_343) rfl (show mcode 343 39 = some (39, .imul, 1, 0, 0, 0, _) from rfl) (Or.inr (Or.inr (Or.inr (Or.inr (Or.inr (Or.inl ⟨_, rfl, rfl⟩)))))) ?_
        refine XW.fam (S' := (41, [(0, .ref 94), (1, .int a), (2, .int b), (3, .int n)], [.int b, .int (8 * a), .ref 163], (sh, I, L, R))) (M := mr_343) rfl (show mcode 343 40 = some (40, .iload_n 2, 1, 0, 0, 0, _) from rfl) (Or.inl ⟨.int b, rfl, rfl⟩) ?_
        refine XW.fam (S' := (42, [(0, .ref 94), (1, .int a), (2, .int b), (3, .int n)], [.int ((8 * a) + b), .ref 163], (sh, I, L, R))) (M := mr_343) rfl (show mcode 343 41 = some (41, .iadd, 1, 0, 0, 0, _) from rfl) (Or.inr (Or.inr (Or.inr (Or.inr (Or.inr (Or.inl ⟨_, rfl, rfl⟩)))))) ?_
        have xhin4 := ix8b (a := a) (b := b) (by omega) (by omega)
        have yhin4 : (((8 * a) + b)).toNatClampNeg = (8 * a.toInt + b.toInt).toNat := by show (((8 * a) + b)).toInt.toNat = _; rw [xhin4]
        have hin4 : inR ((8 * a) + b) 32 = true := inR_of (by omega) (by omega)
        refine XW.fam (S' := (43, [(0, .ref 94), (1, .int a), (2, .int b), (3, .int n)], [.int (I 163 (((8 * a) + b)).toNatClampNeg)], (sh, I, L, R))) (M := mr_343) rfl (show mcode 343 42 = some (42, .iaload, 1, 0, 0, 0, _) from rfl) (Or.inr (Or.inr (Or.inl ⟨_, lda_i c163 hin4, rfl⟩))) ?_
        refine XW.fam (S' := (45, [(4, .int (I 163 (((8 * a) + b)).toNatClampNeg)), (0, .ref 94), (1, .int a), (2, .int b), (3, .int n)], [], (sh, I, L, R))) (M := mr_343) rfl (show mcode 343 43 = some (43, .istore 4, 2, 0, 0, 0, _) from rfl) (Or.inr (Or.inr (Or.inr (Or.inr (Or.inr (Or.inr (Or.inl ⟨_, [], _, rfl, rfl, rfl⟩))))))) ?_
        refine XW.fam (S' := (46, [(4, .int (I 163 (((8 * a) + b)).toNatClampNeg)), (0, .ref 94), (1, .int a), (2, .int b), (3, .int n)], [.ref 94], (sh, I, L, R))) (M := mr_343) rfl (show mcode 343 45 = some (45, .aload_n 0, 1, 0, 0, 0, _) from rfl) (Or.inl ⟨.ref 94, rfl, rfl⟩) ?_
        refine XW.fam (S' := (49, [(4, .int (I 163 (((8 * a) + b)).toNatClampNeg)), (0, .ref 94), (1, .int a), (2, .int b), (3, .int n)], [.ref 163], (sh, I, L, R))) (M := mr_343) rfl (show mcode 343 46 = some (46, .getfield 229, 3, 12, 103, 0, _) from rfl) (Or.inr (Or.inr (Or.inr (Or.inr (Or.inr (Or.inr (Or.inr (Or.inl ⟨_, _, rfl, fl_ld c94 r94_103 (by decide) (by decide), rfl⟩)))))))) ?_
        refine XW.fam (S' := (51, [(4, .int (I 163 (((8 * a) + b)).toNatClampNeg)), (0, .ref 94), (1, .int a), (2, .int b), (3, .int n)], [.int 8, .ref 163], (sh, I, L, R))) (M := mr_343) rfl (show mcode 343 49 = some (49, .bipush 8, 2, 0, 0, 0, _) from rfl) (Or.inl ⟨.int 8, rfl, rfl⟩) ?_
        refine XW.fam (S' := (52, [(4, .int (I 163 (((8 * a) + b)).toNatClampNeg)), (0, .ref 94), (1, .int a), (2, .int b), (3, .int n)], [.int a, .int 8, .ref 163], (sh, I, L, R))) (M := mr_343) rfl (show mcode 343 51 = some (51, .iload_n 1, 1, 0, 0, 0, _) from rfl) (Or.inl ⟨.int a, rfl, rfl⟩) ?_
        refine XW.fam (S' := (53, [(4, .int (I 163 (((8 * a) + b)).toNatClampNeg)), (0, .ref 94), (1, .int a), (2, .int b), (3, .int n)], [.int (8 * a), .ref 163], (sh, I, L, R))) (M := mr_343) rfl (show mcode 343 52 = some (52, .imul, 1, 0, 0, 0, _) from rfl) (Or.inr (Or.inr (Or.inr (Or.inr (Or.inr (Or.inl ⟨_, rfl, rfl⟩)))))) ?_
        refine XW.fam (S' := (54, [(4, .int (I 163 (((8 * a) + b)).toNatClampNeg)), (0, .ref 94), (1, .int a), (2, .int b), (3, .int n)], [.int b, .int (8 * a), .ref 163], (sh, I, L, R))) (M := mr_343) rfl (show mcode 343 53 = some (53, .iload_n 2, 1, 0, 0, 0, _) from rfl) (Or.inl ⟨.int b, rfl, rfl⟩) ?_
        refine XW.fam (S' := (55, [(4, .int (I 163 (((8 * a) + b)).toNatClampNeg)), (0, .ref 94), (1, .int a), (2, .int b), (3, .int n)], [.int ((8 * a) + b), .ref 163], (sh, I, L, R))) (M := mr_343) rfl (show mcode 343 54 = some (54, .iadd, 1, 0, 0, 0, _) from rfl) (Or.inr (Or.inr (Or.inr (Or.inr (Or.inr (Or.inl ⟨_, rfl, rfl⟩)))))) ?_
        refine XW.fam (S' := (56, [(4, .int (I 163 (((8 * a) + b)).toNatClampNeg)), (0, .ref 94), (1, .int a), (2, .int b), (3, .int n)], [.int n, .int ((8 * a) + b), .ref 163], (sh, I, L, R))) (M := mr_343) rfl (show mcode 343 55 = some (55, .iload_n 3, 1, 0, 0, 0, _) from rfl) (Or.inl ⟨.int n, rfl, rfl⟩) ?_
        have xhin5 := ix8b (a := a) (b := b) (by omega) (by omega)
        have yhin5 : (((8 * a) + b)).toNatClampNeg = (8 * a.toInt + b.toInt).toNat := by show (((8 * a) + b)).toInt.toNat = _; rw [xhin5]
        have hin5 : inR ((8 * a) + b) 32 = true := inR_of (by omega) (by omega)
        obtain ⟨I6, eI6⟩ : ∃ X, X = up2 I 163 (((8 * a) + b)).toNatClampNeg n := ⟨_, rfl⟩
        refine XW.fam (S' := (57, [(4, .int (I 163 (((8 * a) + b)).toNatClampNeg)), (0, .ref 94), (1, .int a), (2, .int b), (3, .int n)], [], (sh, I6, L, R))) (M := mr_343) rfl (show mcode 343 56 = some (56, .iastore, 1, 0, 0, 0, _) from rfl) (Or.inr (Or.inr (Or.inr (Or.inl ⟨_, _, by rw [eI6]; exact sta_i c163 hin5, rfl⟩)))) ?_
        have hwI6 : wOK (mkT vV []) (wE sh R) (sh, I6, L, R) := by rw [eI6]; exact wOK_u2 (q := 163) (k := (((8 * a) + b)).toNatClampNeg) (x := n) wE_put hw rfl (by show (0 : Int) ≤ _; omega) (by show _ ≤ (9999 : Int); omega)
        have hfI6 : fresh (sh, I6, L, R) := by rw [eI6]; exact fresh_I hf c163
        refine XW.fam (S' := (59, [(4, .int (I 163 (((8 * a) + b)).toNatClampNeg)), (0, .ref 94), (1, .int a), (2, .int b), (3, .int n)], [.int (I 163 (((8 * a) + b)).toNatClampNeg)], (sh, I6, L, R))) (M := mr_343) rfl (show mcode 343 57 = some (57, .iload 4, 2, 0, 0, 0, _) from rfl) (Or.inl ⟨.int (I 163 (((8 * a) + b)).toNatClampNeg), rfl, rfl⟩) ?_
        refine XW.ret (r := some (.int (I 163 (((8 * a) + b)).toNatClampNeg))) ⟨⟨.int, rfl, rfl⟩, by decide +kernel⟩ ?_
        exact ⟨hfI6, ⟨sh, R, hwI6⟩, Or.inr ⟨by omega, by show some (Value.int _) = some (Value.int _); rw [yhin5], by show I6 = _; rw [eI6, yhin5]⟩⟩
