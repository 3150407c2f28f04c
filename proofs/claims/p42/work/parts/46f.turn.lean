/-! ===== turn, shut: lists that know what was told (wip/gentold.py) ===== -/
def told (I : Nat → Nat → Int32) (q : Nat) (n : Int) (v : Int32) : Prop := ∃ k : Nat, (k : Int) < n ∧ I q k = v
theorem told_like {I J : Nat → Nat → Int32} {q q' : Nat} {n n' : Int} {v : Int32} (hn : n = n') (h : ∀ k, I q k = J q' k) : told I q n v ↔ told J q' n' v := by
  constructor
  · rintro ⟨k, hk, e⟩
    exact ⟨k, by omega, by rw [← h k]; exact e⟩
  · rintro ⟨k, hk, e⟩
    exact ⟨k, by omega, by rw [h k]; exact e⟩
theorem dv1000 {x : Int32} (h : 0 ≤ x.toInt) : (x / 1000).toInt = x.toInt / 1000 := by
  have e : (1000 : Int32).toInt = 1000 := rfl
  rw [div32 (y := 1000) (by rw [e]; decide), e]
  exact Int.tdiv_eq_ediv_of_nonneg h
theorem rm1000 {x : Int32} (h : 0 ≤ x.toInt) : (x - x / 1000 * 1000).toInt = x.toInt % 1000 := by
  have e : (1000 : Int32).toInt = 1000 := rfl
  rw [rem32 (y := 1000) (by rw [e]; decide), e]
  exact Int.tmod_eq_emod_of_nonneg h
theorem bit01 (x : Int32) : (x &&& 1).toInt = 0 ∨ (x &&& 1).toInt = 1 := by
  obtain ⟨k, hk, e⟩ := pk_andE x (m := 1) 1 (by decide)
  have : k = 0 ∨ k = 1 := by omega
  rcases this with rfl | rfl
  · left
    rw [e]
    rfl
  · right
    rw [e]
    rfl
theorem bit8 {e : Int32} (h0 : 0 ≤ e.toInt) (h1 : e.toInt ≤ 255) : ((e >>> (8 &&& 31)) &&& 1).toInt = 0 := by
  have hall : ∀ k : Fin 256, (((Int32.ofNat k.val) >>> (8 &&& 31)) &&& 1).toInt = 0 := by decide +kernel
  have he : e = Int32.ofNat e.toInt.toNat := Int32.toInt_inj.mp (by rw [Int32.toInt_ofNat_of_lt (by omega)]; omega)
  have := hall ⟨e.toInt.toNat, by omega⟩
  dsimp only at this
  rw [← he] at this
  exact this
/-- refused, no room, or the list is longer by one: what stands at its end -/
def Qapr (qn kn : Nat) (cap : Int) (ok : Prop) (row : Nat) (x : Int32) (md : aM) (w : mW) (r : Option Value) (w' : mW) : Prop := fresh w' ∧ (∃ sh R, wOK (mkT vV []) (wE sh R) w') ∧ ((¬ ok ∧ r = some (.int (-1)) ∧ w'.2.1 = w.2.1) ∨ (ok ∧ cap ≤ (w.2.1 qn kn).toInt ∧ r = some (.int (-3)) ∧ w'.2.1 = w.2.1) ∨ (ok ∧ (w.2.1 qn kn).toInt < cap ∧ r = some (.int (w.2.1 qn kn + 1)) ∧ w'.2.1 qn kn = w.2.1 qn kn + 1 ∧ w'.2.1 row (w.2.1 qn kn).toNatClampNeg = x ∧ (∀ k, ¬ k = (w.2.1 qn kn).toNatClampNeg → w'.2.1 row k = w.2.1 row k) ∧ ∀ q k, inm md q k = false → w'.2.1 q k = w.2.1 q k))
theorem Qapr_int {qn kn : Nat} {cap : Int} {ok : Prop} {row : Nat} {x : Int32} {md : aM} {w w' : mW} {r : Option Value} (h : Qapr qn kn cap ok row x md w r w') : ∃ y : Int32, r = some (.int y) := by
  rcases h.2.2 with ⟨-, h, -⟩ | ⟨-, -, h, -⟩ | ⟨-, -, h, -⟩
  · exact ⟨_, h⟩
  · exact ⟨_, h⟩
  · exact ⟨_, h⟩
theorem Qapr_keep {qn kn : Nat} {cap : Int} {ok : Prop} {row : Nat} {x : Int32} {md : aM} {w w' : mW} {r : Option Value} (h : Qapr qn kn cap ok row x md w r w') : ∀ q k, inm md q k = false → w'.2.1 q k = w.2.1 q k := by
  intro q k hm
  rcases h.2.2 with ⟨-, -, h⟩ | ⟨-, -, -, h⟩ | ⟨-, -, -, -, -, -, h⟩
  · rw [h]
  · rw [h]
  · exact h q k hm
theorem Qapr_ok {qn kn : Nat} {cap : Int} {ok ok' : Prop} {row : Nat} {x : Int32} {md : aM} {w w' : mW} {r : Option Value} (e : ok ↔ ok') (h : Qapr qn kn cap ok row x md w r w') : Qapr qn kn cap ok' row x md w r w' := by
  rw [propext e] at h
  exact h
theorem apr_like {qc kc qm km : Nat} {cap : Int} {okC okM : Prop} {rc rm : Nat} {x : Int32} {mdC mdM : aM} {w w1 w2 : mW} {r1 r2 : Option Value} (hn : w.2.1 qc kc = w.2.1 qm km) (hr : ∀ k, w.2.1 rc k = w.2.1 rm k) (ic : inm mdC qm km = false) (im : inm mdM qc kc = false) (ic2 : ∀ k, inm mdC rm k = false) (im2 : ∀ k, inm mdM rc k = false) (h1 : Qapr qc kc cap okC rc x mdC w r1 w1) (h2 : Qapr qm km cap okM rm x mdM w1 r2 w2) (hok : okC ↔ okM) : r1 = r2 ∧ w2.2.1 qc kc = w2.2.1 qm km ∧ ∀ k, w2.2.1 rc k = w2.2.1 rm k := by
  have k1 := Qapr_keep h1 qm km ic
  have k2 := Qapr_keep h2 qc kc im
  have k3 : ∀ k, w1.2.1 rm k = w.2.1 rm k := fun k => Qapr_keep h1 rm k (ic2 k)
  have k4 : ∀ k, w2.2.1 rc k = w1.2.1 rc k := fun k => Qapr_keep h2 rc k (im2 k)
  rcases h1.2.2 with ⟨n1, e1, f1⟩ | ⟨n1, m1, e1, f1⟩ | ⟨n1, m1, e1, f1, g1, i1, -⟩
  · rcases h2.2.2 with ⟨n2, e2, f2⟩ | ⟨n2, m2, e2, f2⟩ | ⟨n2, m2, e2, f2, -⟩
    · refine ⟨e1.trans e2.symm, ?_, fun k => ?_⟩
      · rw [f2, f1]
        exact hn
      · rw [f2, f1]
        exact hr k
    · exact absurd (hok.mpr n2) n1
    · exact absurd (hok.mpr n2) n1
  · rcases h2.2.2 with ⟨n2, e2, f2⟩ | ⟨n2, m2, e2, f2⟩ | ⟨n2, m2, e2, f2, -⟩
    · exact absurd (hok.mp n1) n2
    · refine ⟨e1.trans e2.symm, ?_, fun k => ?_⟩
      · rw [f2, f1]
        exact hn
      · rw [f2, f1]
        exact hr k
    · rw [k1, ← hn] at m2
      omega
  · rcases h2.2.2 with ⟨n2, e2, f2⟩ | ⟨n2, m2, e2, f2⟩ | ⟨n2, m2, e2, f2, g2, i2, -⟩
    · exact absurd (hok.mp n1) n2
    · rw [k1, ← hn] at m2
      omega
    · rw [k1, ← hn] at g2 i2
      refine ⟨?_, ?_, fun k => ?_⟩
      · rw [e1, e2, k1, hn]
      · rw [k2, f1, f2, k1, hn]
      · rw [k4]
        by_cases c : k = (w.2.1 qc kc).toNatClampNeg
        · rw [c, g1, g2]
        · rw [i1 k c, i2 k c, k3]
          exact hr k
theorem scan_S {d : Nat} {sh : List mE} {I : Nat → Nat → Int32} {L : Nat → Nat → Int64} {R : Nat → Nat → Option Nat} {n v : Int32} (hw : wOK (mkT vV []) (wE sh R) (sh, I, L, R)) (hn : n.toInt ≤ 3) {Q : Option Value → mW → Prop} (K1 : told I 76 n.toInt v → ∀ t : Int32, XW 180 mr_180 none (d) 0 0 Q (20, [(3, .int t), (0, .ref 76), (1, .int n), (2, .int v)], [], (sh, I, L, R))) (K2 : ¬ told I 76 n.toInt v → ∀ t : Int32, XW 180 mr_180 none (d) 0 0 Q (28, [(3, .int t), (0, .ref 76), (1, .int n), (2, .int v)], [], (sh, I, L, R))) : ∀ (z : Nat) (t : Int32), 0 ≤ t.toInt → t.toInt ≤ 3 → n.toInt - t.toInt < z → (∀ k : Nat, (k : Int) < t.toInt → ¬ I 76 k = v) → XW 180 mr_180 none (d) 0 0 Q (2, [(3, .int t), (0, .ref 76), (1, .int n), (2, .int v)], [], (sh, I, L, R)) := by
  have c76 : sh[76]? = some (.inl (.int, 3)) := hw.1 76 _ rfl
  have z3 : (3 : Int32).toInt = 3 := rfl
  intro z
  induction z with
  | zero =>
    intro t ht ht2 hz hinv
    refine XW.fam (S' := (3, [(3, .int t), (0, .ref 76), (1, .int n), (2, .int v)], [.int t], (sh, I, L, R))) (M := mr_180) rfl (show mcode 180 2 = some (2, .iload_n 3, 1, 0, 0, 0, _) from rfl) (Or.inl ⟨.int t, rfl, rfl⟩) ?_
    refine XW.fam (S' := (4, [(3, .int t), (0, .ref 76), (1, .int n), (2, .int v)], [.int n, .int t], (sh, I, L, R))) (M := mr_180) rfl (show mcode 180 3 = some (3, .iload_n 1, 1, 0, 0, 0, _) from rfl) (Or.inl ⟨.int n, rfl, rfl⟩) ?_
    have k1 : bcmp .ge t n = true := bcT (c := .ge) (a := (t).toInt) (b := (n).toInt) rfl rfl (by show (n).toInt ≤ (t).toInt; omega)
    refine XW.fam (S' := (28, [(3, .int t), (0, .ref 76), (1, .int n), (2, .int v)], [], (sh, I, L, R))) (M := mr_180) rfl (show mcode 180 4 = some (4, .if_icmp .ge 24, 3, 28, 0, 0, _) from rfl) (Or.inr (Or.inl ⟨28, [], by simp [brn, k1], rfl⟩)) ?_
    exact K2 (fun q => by obtain ⟨k, hk, e⟩ := q; exact hinv k (by omega) e) _
  | succ z ih =>
    intro t ht ht2 hz hinv
    refine XW.fam (S' := (3, [(3, .int t), (0, .ref 76), (1, .int n), (2, .int v)], [.int t], (sh, I, L, R))) (M := mr_180) rfl (show mcode 180 2 = some (2, .iload_n 3, 1, 0, 0, 0, _) from rfl) (Or.inl ⟨.int t, rfl, rfl⟩) ?_
    refine XW.fam (S' := (4, [(3, .int t), (0, .ref 76), (1, .int n), (2, .int v)], [.int n, .int t], (sh, I, L, R))) (M := mr_180) rfl (show mcode 180 3 = some (3, .iload_n 1, 1, 0, 0, 0, _) from rfl) (Or.inl ⟨.int n, rfl, rfl⟩) ?_
    cases k1 : bcmp .ge t n with
    | true =>
      have gk1 : (n).toInt ≤ (t).toInt := icT (c := .ge) (a := (t).toInt) (b := (n).toInt) rfl rfl k1
      refine XW.fam (S' := (28, [(3, .int t), (0, .ref 76), (1, .int n), (2, .int v)], [], (sh, I, L, R))) (M := mr_180) rfl (show mcode 180 4 = some (4, .if_icmp .ge 24, 3, 28, 0, 0, _) from rfl) (Or.inr (Or.inl ⟨28, [], by simp [brn, k1], rfl⟩)) ?_
      exact K2 (fun q => by obtain ⟨k, hk, e⟩ := q; exact hinv k (by omega) e) _
    | false =>
      have gk1 : ¬ ((n).toInt ≤ (t).toInt) := icF (c := .ge) (a := (t).toInt) (b := (n).toInt) rfl rfl k1
      refine XW.fam (S' := (7, [(3, .int t), (0, .ref 76), (1, .int n), (2, .int v)], [], (sh, I, L, R))) (M := mr_180) rfl (show mcode 180 4 = some (4, .if_icmp .ge 24, 3, 28, 0, 0, _) from rfl) (Or.inr (Or.inl ⟨7, [], by simp [brn, k1], rfl⟩)) ?_
      refine XW.fam (S' := (8, [(3, .int t), (0, .ref 76), (1, .int n), (2, .int v)], [.int t], (sh, I, L, R))) (M := mr_180) rfl (show mcode 180 7 = some (7, .iload_n 3, 1, 0, 0, 0, _) from rfl) (Or.inl ⟨.int t, rfl, rfl⟩) ?_
      refine XW.fam (S' := (9, [(3, .int t), (0, .ref 76), (1, .int n), (2, .int v)], [.ref 76, .int t], (sh, I, L, R))) (M := mr_180) rfl (show mcode 180 8 = some (8, .aload_n 0, 1, 0, 0, 0, _) from rfl) (Or.inl ⟨.ref 76, rfl, rfl⟩) ?_
      refine XW.fam (S' := (10, [(3, .int t), (0, .ref 76), (1, .int n), (2, .int v)], [.int 3, .int t], (sh, I, L, R))) (M := mr_180) rfl (show mcode 180 9 = some (9, .arraylength, 1, 0, 0, 0, _) from rfl) (Or.inr (Or.inr (Or.inl ⟨_, by simp [lda, c76], rfl⟩))) ?_
      have k2 : bcmp .ge t 3 = false := bcF (c := .ge) (a := (t).toInt) (b := 3) rfl (by decide) (by show ¬ (3 ≤ (t).toInt); omega)
      refine XW.fam (S' := (13, [(3, .int t), (0, .ref 76), (1, .int n), (2, .int v)], [], (sh, I, L, R))) (M := mr_180) rfl (show mcode 180 10 = some (10, .if_icmp .ge 18, 3, 28, 0, 0, _) from rfl) (Or.inr (Or.inl ⟨13, [], by simp [brn, k2], rfl⟩)) ?_
      refine XW.fam (S' := (14, [(3, .int t), (0, .ref 76), (1, .int n), (2, .int v)], [.ref 76], (sh, I, L, R))) (M := mr_180) rfl (show mcode 180 13 = some (13, .aload_n 0, 1, 0, 0, 0, _) from rfl) (Or.inl ⟨.ref 76, rfl, rfl⟩) ?_
      refine XW.fam (S' := (15, [(3, .int t), (0, .ref 76), (1, .int n), (2, .int v)], [.int t, .ref 76], (sh, I, L, R))) (M := mr_180) rfl (show mcode 180 14 = some (14, .iload_n 3, 1, 0, 0, 0, _) from rfl) (Or.inl ⟨.int t, rfl, rfl⟩) ?_
      have hin3 : inR t 3 = true := inR_of (by omega) (by omega)
      refine XW.fam (S' := (16, [(3, .int t), (0, .ref 76), (1, .int n), (2, .int v)], [.int (I 76 (t).toNatClampNeg)], (sh, I, L, R))) (M := mr_180) rfl (show mcode 180 15 = some (15, .iaload, 1, 0, 0, 0, _) from rfl) (Or.inr (Or.inr (Or.inl ⟨_, lda_i c76 hin3, rfl⟩))) ?_
      refine XW.fam (S' := (17, [(3, .int t), (0, .ref 76), (1, .int n), (2, .int v)], [.int v, .int (I 76 (t).toNatClampNeg)], (sh, I, L, R))) (M := mr_180) rfl (show mcode 180 16 = some (16, .iload_n 2, 1, 0, 0, 0, _) from rfl) (Or.inl ⟨.int v, rfl, rfl⟩) ?_
      cases k4 : bcmp .ne (I 76 (t).toNatClampNeg) v with
      | true =>
        have gk4 : ¬ ((I 76 (t).toNatClampNeg)).toInt = (v).toInt := icT (c := .ne) (a := ((I 76 (t).toNatClampNeg)).toInt) (b := (v).toInt) rfl rfl k4
        refine XW.fam (S' := (22, [(3, .int t), (0, .ref 76), (1, .int n), (2, .int v)], [], (sh, I, L, R))) (M := mr_180) rfl (show mcode 180 17 = some (17, .if_icmp .ne 5, 3, 22, 0, 0, _) from rfl) (Or.inr (Or.inl ⟨22, [], by simp [brn, k4], rfl⟩)) ?_
        refine XW.fam (S' := (25, [(3, .int (t + Int32.ofInt 1)), (0, .ref 76), (1, .int n), (2, .int v)], [], (sh, I, L, R))) (M := mr_180) rfl (show mcode 180 22 = some (22, .iinc 3 1, 3, 0, 0, 0, _) from rfl) (Or.inr (Or.inr (Or.inr (Or.inr (Or.inr (Or.inr (Or.inr (Or.inr (Or.inr ⟨3, 1, t, rfl, rfl, by decide, rfl⟩))))))))) ?_
        refine XW.fam (S' := (2, [(3, .int (t + Int32.ofInt 1)), (0, .ref 76), (1, .int n), (2, .int v)], [], (sh, I, L, R))) (M := mr_180) rfl (show mcode 180 25 = some (25, .goto (-23), 3, 2, 0, 0, _) from rfl) (Or.inr (Or.inl ⟨2, [], rfl, rfl⟩)) ?_
        have eo := incO (m := t) (by omega) (by omega)
        refine ih (t + Int32.ofInt 1) (by omega) (by omega) (by omega) (fun k hk e => ?_)
        by_cases c : (k : Int) < t.toInt
        · exact hinv k c e
        · have ek : k = (t).toNatClampNeg := by have hc : (t).toNatClampNeg = t.toInt.toNat := rfl; omega
          rw [ek] at e
          have ee := congrArg Int32.toInt e
          omega
      | false =>
        have gk4 : ¬ (¬ ((I 76 (t).toNatClampNeg)).toInt = (v).toInt) := icF (c := .ne) (a := ((I 76 (t).toNatClampNeg)).toInt) (b := (v).toInt) rfl rfl k4
        refine XW.fam (S' := (20, [(3, .int t), (0, .ref 76), (1, .int n), (2, .int v)], [], (sh, I, L, R))) (M := mr_180) rfl (show mcode 180 17 = some (17, .if_icmp .ne 5, 3, 22, 0, 0, _) from rfl) (Or.inr (Or.inl ⟨20, [], by simp [brn, k4], rfl⟩)) ?_
        exact K1 ⟨(t).toNatClampNeg, by have hc : (t).toNatClampNeg = t.toInt.toNat := rfl; omega, Int32.toInt_inj.mp (by omega)⟩ _
theorem tc_toldS {d : Nat} {sh : List mE} {I : Nat → Nat → Int32} {L : Nat → Nat → Int64} {R : Nat → Nat → Option Nat} {n v : Int32} (hw : wOK (mkT vV []) (wE sh R) (sh, I, L, R)) (hn : n.toInt ≤ 3) : Tc 180 d 0 0 [.ref 76, .int n, .int v] (sh, I, L, R) (fun r w' => ((r = some (.int 0) ∧ ¬ told I 76 n.toInt v) ∨ (r = some (.int 1) ∧ told I 76 n.toInt v)) ∧ w' = (sh, I, L, R)) := by
  have z0 : (0 : Int32).toInt = 0 := rfl
  have z1 : (1 : Int32).toInt = 1 := rfl
  refine Tc.of mr_180 rfl (show 3 ≤ mr_180.2.2.2.1 by decide) ?_
  refine XW.fam (S' := (1, [(0, .ref 76), (1, .int n), (2, .int v)], [.int 0], (sh, I, L, R))) (M := mr_180) rfl (show mcode 180 0 = some (0, .iconst 0, 1, 0, 0, 0, _) from rfl) (Or.inl ⟨.int 0, rfl, rfl⟩) ?_
  refine XW.fam (S' := (2, [(3, .int 0), (0, .ref 76), (1, .int n), (2, .int v)], [], (sh, I, L, R))) (M := mr_180) rfl (show mcode 180 1 = some (1, .istore_n 3, 1, 0, 0, 0, _) from rfl) (Or.inr (Or.inr (Or.inr (Or.inr (Or.inr (Or.inr (Or.inl ⟨_, [], _, rfl, rfl, rfl⟩))))))) ?_
  refine scan_S (d := d) hw hn (fun ht t => ?_) (fun ht t => ?_) 4 0 (by decide) (by decide) (by have z0 : (0 : Int32).toInt = 0 := rfl; omega) (fun k hk => by exfalso; have z0 : (0 : Int32).toInt = 0 := rfl; omega)
  · skip
    refine XW.fam (S' := (21, [(3, .int t), (0, .ref 76), (1, .int n), (2, .int v)], [.int 1], (sh, I, L, R))) (M := mr_180) rfl (show mcode 180 20 = some (20, .iconst 1, 1, 0, 0, 0, _) from rfl) (Or.inl ⟨.int 1, rfl, rfl⟩) ?_
    refine XW.ret (r := some (.int 1)) ⟨⟨.boolean, rfl, rfl⟩, by decide +kernel⟩ ?_
    exact ⟨Or.inr ⟨rfl, ht⟩, rfl⟩
  · skip
    refine XW.fam (S' := (29, [(3, .int t), (0, .ref 76), (1, .int n), (2, .int v)], [.int 0], (sh, I, L, R))) (M := mr_180) rfl (show mcode 180 28 = some (28, .iconst 0, 1, 0, 0, 0, _) from rfl) (Or.inl ⟨.int 0, rfl, rfl⟩) ?_
    refine XW.ret (r := some (.int 0)) ⟨⟨.boolean, rfl, rfl⟩, by decide +kernel⟩ ?_
    exact ⟨Or.inl ⟨rfl, ht⟩, rfl⟩
theorem scan_P {d : Nat} {sh : List mE} {I : Nat → Nat → Int32} {L : Nat → Nat → Int64} {R : Nat → Nat → Option Nat} {n v : Int32} (hw : wOK (mkT vV []) (wE sh R) (sh, I, L, R)) (hn : n.toInt ≤ 3) {Q : Option Value → mW → Prop} (K1 : told I 77 n.toInt v → ∀ t : Int32, XW 180 mr_180 none (d) 0 0 Q (20, [(3, .int t), (0, .ref 77), (1, .int n), (2, .int v)], [], (sh, I, L, R))) (K2 : ¬ told I 77 n.toInt v → ∀ t : Int32, XW 180 mr_180 none (d) 0 0 Q (28, [(3, .int t), (0, .ref 77), (1, .int n), (2, .int v)], [], (sh, I, L, R))) : ∀ (z : Nat) (t : Int32), 0 ≤ t.toInt → t.toInt ≤ 3 → n.toInt - t.toInt < z → (∀ k : Nat, (k : Int) < t.toInt → ¬ I 77 k = v) → XW 180 mr_180 none (d) 0 0 Q (2, [(3, .int t), (0, .ref 77), (1, .int n), (2, .int v)], [], (sh, I, L, R)) := by
  have c77 : sh[77]? = some (.inl (.int, 3)) := hw.1 77 _ rfl
  have z3 : (3 : Int32).toInt = 3 := rfl
  intro z
  induction z with
  | zero =>
    intro t ht ht2 hz hinv
    refine XW.fam (S' := (3, [(3, .int t), (0, .ref 77), (1, .int n), (2, .int v)], [.int t], (sh, I, L, R))) (M := mr_180) rfl (show mcode 180 2 = some (2, .iload_n 3, 1, 0, 0, 0, _) from rfl) (Or.inl ⟨.int t, rfl, rfl⟩) ?_
    refine XW.fam (S' := (4, [(3, .int t), (0, .ref 77), (1, .int n), (2, .int v)], [.int n, .int t], (sh, I, L, R))) (M := mr_180) rfl (show mcode 180 3 = some (3, .iload_n 1, 1, 0, 0, 0, _) from rfl) (Or.inl ⟨.int n, rfl, rfl⟩) ?_
    have k1 : bcmp .ge t n = true := bcT (c := .ge) (a := (t).toInt) (b := (n).toInt) rfl rfl (by show (n).toInt ≤ (t).toInt; omega)
    refine XW.fam (S' := (28, [(3, .int t), (0, .ref 77), (1, .int n), (2, .int v)], [], (sh, I, L, R))) (M := mr_180) rfl (show mcode 180 4 = some (4, .if_icmp .ge 24, 3, 28, 0, 0, _) from rfl) (Or.inr (Or.inl ⟨28, [], by simp [brn, k1], rfl⟩)) ?_
    exact K2 (fun q => by obtain ⟨k, hk, e⟩ := q; exact hinv k (by omega) e) _
  | succ z ih =>
    intro t ht ht2 hz hinv
    refine XW.fam (S' := (3, [(3, .int t), (0, .ref 77), (1, .int n), (2, .int v)], [.int t], (sh, I, L, R))) (M := mr_180) rfl (show mcode 180 2 = some (2, .iload_n 3, 1, 0, 0, 0, _) from rfl) (Or.inl ⟨.int t, rfl, rfl⟩) ?_
    refine XW.fam (S' := (4, [(3, .int t), (0, .ref 77), (1, .int n), (2, .int v)], [.int n, .int t], (sh, I, L, R))) (M := mr_180) rfl (show mcode 180 3 = some (3, .iload_n 1, 1, 0, 0, 0, _) from rfl) (Or.inl ⟨.int n, rfl, rfl⟩) ?_
    cases k1 : bcmp .ge t n with
    | true =>
      have gk1 : (n).toInt ≤ (t).toInt := icT (c := .ge) (a := (t).toInt) (b := (n).toInt) rfl rfl k1
      refine XW.fam (S' := (28, [(3, .int t), (0, .ref 77), (1, .int n), (2, .int v)], [], (sh, I, L, R))) (M := mr_180) rfl (show mcode 180 4 = some (4, .if_icmp .ge 24, 3, 28, 0, 0, _) from rfl) (Or.inr (Or.inl ⟨28, [], by simp [brn, k1], rfl⟩)) ?_
      exact K2 (fun q => by obtain ⟨k, hk, e⟩ := q; exact hinv k (by omega) e) _
    | false =>
      have gk1 : ¬ ((n).toInt ≤ (t).toInt) := icF (c := .ge) (a := (t).toInt) (b := (n).toInt) rfl rfl k1
      refine XW.fam (S' := (7, [(3, .int t), (0, .ref 77), (1, .int n), (2, .int v)], [], (sh, I, L, R))) (M := mr_180) rfl (show mcode 180 4 = some (4, .if_icmp .ge 24, 3, 28, 0, 0, _) from rfl) (Or.inr (Or.inl ⟨7, [], by simp [brn, k1], rfl⟩)) ?_
      refine XW.fam (S' := (8, [(3, .int t), (0, .ref 77), (1, .int n), (2, .int v)], [.int t], (sh, I, L, R))) (M := mr_180) rfl (show mcode 180 7 = some (7, .iload_n 3, 1, 0, 0, 0, _) from rfl) (Or.inl ⟨.int t, rfl, rfl⟩) ?_
      refine XW.fam (S' := (9, [(3, .int t), (0, .ref 77), (1, .int n), (2, .int v)], [.ref 77, .int t], (sh, I, L, R))) (M := mr_180) rfl (show mcode 180 8 = some (8, .aload_n 0, 1, 0, 0, 0, _) from rfl) (Or.inl ⟨.ref 77, rfl, rfl⟩) ?_
      refine XW.fam (S' := (10, [(3, .int t), (0, .ref 77), (1, .int n), (2, .int v)], [.int 3, .int t], (sh, I, L, R))) (M := mr_180) rfl (show mcode 180 9 = some (9, .arraylength, 1, 0, 0, 0, _) from rfl) (Or.inr (Or.inr (Or.inl ⟨_, by simp [lda, c77], rfl⟩))) ?_
      have k2 : bcmp .ge t 3 = false := bcF (c := .ge) (a := (t).toInt) (b := 3) rfl (by decide) (by show ¬ (3 ≤ (t).toInt); omega)
      refine XW.fam (S' := (13, [(3, .int t), (0, .ref 77), (1, .int n), (2, .int v)], [], (sh, I, L, R))) (M := mr_180) rfl (show mcode 180 10 = some (10, .if_icmp .ge 18, 3, 28, 0, 0, _) from rfl) (Or.inr (Or.inl ⟨13, [], by simp [brn, k2], rfl⟩)) ?_
      refine XW.fam (S' := (14, [(3, .int t), (0, .ref 77), (1, .int n), (2, .int v)], [.ref 77], (sh, I, L, R))) (M := mr_180) rfl (show mcode 180 13 = some (13, .aload_n 0, 1, 0, 0, 0, _) from rfl) (Or.inl ⟨.ref 77, rfl, rfl⟩) ?_
      refine XW.fam (S' := (15, [(3, .int t), (0, .ref 77), (1, .int n), (2, .int v)], [.int t, .ref 77], (sh, I, L, R))) (M := mr_180) rfl (show mcode 180 14 = some (14, .iload_n 3, 1, 0, 0, 0, _) from rfl) (Or.inl ⟨.int t, rfl, rfl⟩) ?_
      have hin3 : inR t 3 = true := inR_of (by omega) (by omega)
      refine XW.fam (S' := (16, [(3, .int t), (0, .ref 77), (1, .int n), (2, .int v)], [.int (I 77 (t).toNatClampNeg)], (sh, I, L, R))) (M := mr_180) rfl (show mcode 180 15 = some (15, .iaload, 1, 0, 0, 0, _) from rfl) (Or.inr (Or.inr (Or.inl ⟨_, lda_i c77 hin3, rfl⟩))) ?_
      refine XW.fam (S' := (17, [(3, .int t), (0, .ref 77), (1, .int n), (2, .int v)], [.int v, .int (I 77 (t).toNatClampNeg)], (sh, I, L, R))) (M := mr_180) rfl (show mcode 180 16 = some (16, .iload_n 2, 1, 0, 0, 0, _) from rfl) (Or.inl ⟨.int v, rfl, rfl⟩) ?_
      cases k4 : bcmp .ne (I 77 (t).toNatClampNeg) v with
      | true =>
        have gk4 : ¬ ((I 77 (t).toNatClampNeg)).toInt = (v).toInt := icT (c := .ne) (a := ((I 77 (t).toNatClampNeg)).toInt) (b := (v).toInt) rfl rfl k4
        refine XW.fam (S' := (22, [(3, .int t), (0, .ref 77), (1, .int n), (2, .int v)], [], (sh, I, L, R))) (M := mr_180) rfl (show mcode 180 17 = some (17, .if_icmp .ne 5, 3, 22, 0, 0, _) from rfl) (Or.inr (Or.inl ⟨22, [], by simp [brn, k4], rfl⟩)) ?_
        refine XW.fam (S' := (25, [(3, .int (t + Int32.ofInt 1)), (0, .ref 77), (1, .int n), (2, .int v)], [], (sh, I, L, R))) (M := mr_180) rfl (show mcode 180 22 = some (22, .iinc 3 1, 3, 0, 0, 0, _) from rfl) (Or.inr (Or.inr (Or.inr (Or.inr (Or.inr (Or.inr (Or.inr (Or.inr (Or.inr ⟨3, 1, t, rfl, rfl, by decide, rfl⟩))))))))) ?_
        refine XW.fam (S' := (2, [(3, .int (t + Int32.ofInt 1)), (0, .ref 77), (1, .int n), (2, .int v)], [], (sh, I, L, R))) (M := mr_180) rfl (show mcode 180 25 = some (25, .goto (-23), 3, 2, 0, 0, _) from rfl) (Or.inr (Or.inl ⟨2, [], rfl, rfl⟩)) ?_
        have eo := incO (m := t) (by omega) (by omega)
        refine ih (t + Int32.ofInt 1) (by omega) (by omega) (by omega) (fun k hk e => ?_)
        by_cases c : (k : Int) < t.toInt
        · exact hinv k c e
        · have ek : k = (t).toNatClampNeg := by have hc : (t).toNatClampNeg = t.toInt.toNat := rfl; omega
          rw [ek] at e
          have ee := congrArg Int32.toInt e
          omega
      | false =>
        have gk4 : ¬ (¬ ((I 77 (t).toNatClampNeg)).toInt = (v).toInt) := icF (c := .ne) (a := ((I 77 (t).toNatClampNeg)).toInt) (b := (v).toInt) rfl rfl k4
        refine XW.fam (S' := (20, [(3, .int t), (0, .ref 77), (1, .int n), (2, .int v)], [], (sh, I, L, R))) (M := mr_180) rfl (show mcode 180 17 = some (17, .if_icmp .ne 5, 3, 22, 0, 0, _) from rfl) (Or.inr (Or.inl ⟨20, [], by simp [brn, k4], rfl⟩)) ?_
        exact K1 ⟨(t).toNatClampNeg, by have hc : (t).toNatClampNeg = t.toInt.toNat := rfl; omega, Int32.toInt_inj.mp (by omega)⟩ _
theorem tc_toldP {d : Nat} {sh : List mE} {I : Nat → Nat → Int32} {L : Nat → Nat → Int64} {R : Nat → Nat → Option Nat} {n v : Int32} (hw : wOK (mkT vV []) (wE sh R) (sh, I, L, R)) (hn : n.toInt ≤ 3) : Tc 180 d 0 0 [.ref 77, .int n, .int v] (sh, I, L, R) (fun r w' => ((r = some (.int 0) ∧ ¬ told I 77 n.toInt v) ∨ (r = some (.int 1) ∧ told I 77 n.toInt v)) ∧ w' = (sh, I, L, R)) := by
  have z0 : (0 : Int32).toInt = 0 := rfl
  have z1 : (1 : Int32).toInt = 1 := rfl
  refine Tc.of mr_180 rfl (show 3 ≤ mr_180.2.2.2.1 by decide) ?_
  refine XW.fam (S' := (1, [(0, .ref 77), (1, .int n), (2, .int v)], [.int 0], (sh, I, L, R))) (M := mr_180) rfl (show mcode 180 0 = some (0, .iconst 0, 1, 0, 0, 0, _) from rfl) (Or.inl ⟨.int 0, rfl, rfl⟩) ?_
  refine XW.fam (S' := (2, [(3, .int 0), (0, .ref 77), (1, .int n), (2, .int v)], [], (sh, I, L, R))) (M := mr_180) rfl (show mcode 180 1 = some (1, .istore_n 3, 1, 0, 0, 0, _) from rfl) (Or.inr (Or.inr (Or.inr (Or.inr (Or.inr (Or.inr (Or.inl ⟨_, [], _, rfl, rfl, rfl⟩))))))) ?_
  refine scan_P (d := d) hw hn (fun ht t => ?_) (fun ht t => ?_) 4 0 (by decide) (by decide) (by have z0 : (0 : Int32).toInt = 0 := rfl; omega) (fun k hk => by exfalso; have z0 : (0 : Int32).toInt = 0 := rfl; omega)
  · skip
    refine XW.fam (S' := (21, [(3, .int t), (0, .ref 77), (1, .int n), (2, .int v)], [.int 1], (sh, I, L, R))) (M := mr_180) rfl (show mcode 180 20 = some (20, .iconst 1, 1, 0, 0, 0, _) from rfl) (Or.inl ⟨.int 1, rfl, rfl⟩) ?_
    refine XW.ret (r := some (.int 1)) ⟨⟨.boolean, rfl, rfl⟩, by decide +kernel⟩ ?_
    exact ⟨Or.inr ⟨rfl, ht⟩, rfl⟩
  · skip
    refine XW.fam (S' := (29, [(3, .int t), (0, .ref 77), (1, .int n), (2, .int v)], [.int 0], (sh, I, L, R))) (M := mr_180) rfl (show mcode 180 28 = some (28, .iconst 0, 1, 0, 0, 0, _) from rfl) (Or.inl ⟨.int 0, rfl, rfl⟩) ?_
    refine XW.ret (r := some (.int 0)) ⟨⟨.boolean, rfl, rfl⟩, by decide +kernel⟩ ?_
    exact ⟨Or.inl ⟨rfl, ht⟩, rfl⟩
def mdVC : aM := [(75, some 2), (76, none)]
def mdWC : aM := [(75, some 3), (77, none), (78, none)]
def mdVM : aM := [(94, some 79), (148, none)]
def mdWM : aM := [(94, some 81), (149, none), (150, none)]
theorem tc_tellShip {d : Nat} {sh : List mE} {I : Nat → Nat → Int32} {L : Nat → Nat → Int64} {R : Nat → Nat → Option Nat} {v : Int32} (hw : wOK (mkT vV []) (wE sh R) (sh, I, L, R)) (hf : fresh (sh, I, L, R)) (hv : 0 ≤ v.toInt ∧ v.toInt ≤ 15) : Tc 179 (d + 1) 0 0 [.ref 75, .int v] (sh, I, L, R) (Qapr 75 2 3 (¬ told I 76 (I 75 2).toInt v) 76 v mdVC (sh, I, L, R)) := by
  have c75 : sh[75]? = some (.inr 9) := hw.1 75 _ rfl
  have c76 : sh[76]? = some (.inl (.int, 3)) := hw.1 76 _ rfl
  have r75_4 : R 75 4 = some 76 := hw.2.1 75 4 _ rfl
  have zm3 : ((-3) : Int32).toInt = (-3) := rfl
  have zm1 : ((-1) : Int32).toInt = (-1) := rfl
  have z1 : (1 : Int32).toInt = 1 := rfl
  have z3 : (3 : Int32).toInt = 3 := rfl
  have hmc : 0 ≤ (I 75 2).toInt ∧ (I 75 2).toInt ≤ 3 := hw.2.2.1 75 2
  obtain ⟨m, em⟩ : ∃ m, I 75 2 = m := ⟨_, rfl⟩
  rw [em] at hmc
  refine Tc.of mr_179 rfl (show 2 ≤ mr_179.2.2.2.1 by decide) ?_
  refine XW.fam (S' := (1, [(0, .ref 75), (1, .int v)], [.ref 75], (sh, I, L, R))) (M := mr_179) rfl (show mcode 179 0 = some (0, .aload_n 0, 1, 0, 0, 0, _) from rfl) (Or.inl ⟨.ref 75, rfl, rfl⟩) ?_
  refine XW.fam (S' := (4, [(0, .ref 75), (1, .int v)], [.ref 76], (sh, I, L, R))) (M := mr_179) rfl (show mcode 179 1 = some (1, .getfield 11, 3, 9, 4, 0, _) from rfl) (Or.inr (Or.inr (Or.inr (Or.inr (Or.inr (Or.inr (Or.inr (Or.inl ⟨_, _, rfl, fl_ld c75 r75_4 (by decide) (by decide), rfl⟩)))))))) ?_
  refine XW.fam (S' := (5, [(0, .ref 75), (1, .int v)], [.ref 75, .ref 76], (sh, I, L, R))) (M := mr_179) rfl (show mcode 179 4 = some (4, .aload_n 0, 1, 0, 0, 0, _) from rfl) (Or.inl ⟨.ref 75, rfl, rfl⟩) ?_
  refine XW.fam (S' := (8, [(0, .ref 75), (1, .int v)], [.int (I 75 2), .ref 76], (sh, I, L, R))) (M := mr_179) rfl (show mcode 179 5 = some (5, .getfield 60, 3, 9, 2, 0, _) from rfl) (Or.inr (Or.inr (Or.inr (Or.inr (Or.inr (Or.inr (Or.inr (Or.inl ⟨_, _, rfl, fl_ldI c75 (by decide) (by decide), rfl⟩)))))))) ?_
  rw [em]
  refine XW.fam (S' := (9, [(0, .ref 75), (1, .int v)], [.int v, .int m, .ref 76], (sh, I, L, R))) (M := mr_179) rfl (show mcode 179 8 = some (8, .iload_n 1, 1, 0, 0, 0, _) from rfl) (Or.inl ⟨.int v, rfl, rfl⟩) ?_
  refine XW.call (d' := d) (mc' := 0) (ms' := 0) (av := [.ref 76, .int m, .int v]) (rest := []) (M := mr_179) (Ma := mr_180) rfl (show mcode 179 9 = some (9, .invokestatic 64, 3, 180, 0, 0, _) from rfl) rfl (by decide) (by decide) rfl rfl rfl (show 0 ≤ 8 by decide) (tc_toldS (d := d) hw (by omega)) (by omega) (Nat.zero_le _) (Nat.zero_le _) (fun rQ1 wQ1 Q1 => ?_)
  obtain ⟨hQ1, rfl⟩ := Q1
  rcases hQ1 with ⟨rfl, ht⟩ | ⟨rfl, ht⟩
  · skip
    refine XW.fam (S' := (17, [(0, .ref 75), (1, .int v)], [], (sh, I, L, R))) (M := mr_179) rfl (show mcode 179 12 = some (12, .ifCond .eq 5, 3, 17, 0, 0, _) from rfl) (Or.inr (Or.inl ⟨17, [], rfl, rfl⟩)) ?_
    refine XW.fam (S' := (18, [(0, .ref 75), (1, .int v)], [.ref 75], (sh, I, L, R))) (M := mr_179) rfl (show mcode 179 17 = some (17, .aload_n 0, 1, 0, 0, 0, _) from rfl) (Or.inl ⟨.ref 75, rfl, rfl⟩) ?_
    refine XW.fam (S' := (21, [(0, .ref 75), (1, .int v)], [.int (I 75 2)], (sh, I, L, R))) (M := mr_179) rfl (show mcode 179 18 = some (18, .getfield 60, 3, 9, 2, 0, _) from rfl) (Or.inr (Or.inr (Or.inr (Or.inr (Or.inr (Or.inr (Or.inr (Or.inl ⟨_, _, rfl, fl_ldI c75 (by decide) (by decide), rfl⟩)))))))) ?_
    rw [em]
    refine XW.fam (S' := (22, [(0, .ref 75), (1, .int v)], [.int 3, .int m], (sh, I, L, R))) (M := mr_179) rfl (show mcode 179 21 = some (21, .iconst 3, 1, 0, 0, 0, _) from rfl) (Or.inl ⟨.int 3, rfl, rfl⟩) ?_
    cases k2 : bcmp .lt m 3 with
    | true =>
      have gk2 : (m).toInt < 3 := icT (c := .lt) (a := (m).toInt) (b := 3) rfl (by decide) k2
      refine XW.fam (S' := (28, [(0, .ref 75), (1, .int v)], [], (sh, I, L, R))) (M := mr_179) rfl (show mcode 179 22 = some (22, .if_icmp .lt 6, 3, 28, 0, 0, _) from rfl) (Or.inr (Or.inl ⟨28, [], by simp [brn, k2], rfl⟩)) ?_
      refine XW.fam (S' := (29, [(0, .ref 75), (1, .int v)], [.ref 75], (sh, I, L, R))) (M := mr_179) rfl (show mcode 179 28 = some (28, .aload_n 0, 1, 0, 0, 0, _) from rfl) (Or.inl ⟨.ref 75, rfl, rfl⟩) ?_
      refine XW.fam (S' := (32, [(0, .ref 75), (1, .int v)], [.ref 76], (sh, I, L, R))) (M := mr_179) rfl (show mcode 179 29 = some (29, .getfield 11, 3, 9, 4, 0, _) from rfl) (Or.inr (Or.inr (Or.inr (Or.inr (Or.inr (Or.inr (Or.inr (Or.inl ⟨_, _, rfl, fl_ld c75 r75_4 (by decide) (by decide), rfl⟩)))))))) ?_
      refine XW.fam (S' := (33, [(0, .ref 75), (1, .int v)], [.ref 75, .ref 76], (sh, I, L, R))) (M := mr_179) rfl (show mcode 179 32 = some (32, .aload_n 0, 1, 0, 0, 0, _) from rfl) (Or.inl ⟨.ref 75, rfl, rfl⟩) ?_
      refine XW.fam (S' := (36, [(0, .ref 75), (1, .int v)], [.int (I 75 2), .ref 76], (sh, I, L, R))) (M := mr_179) rfl (show mcode 179 33 = some (33, .getfield 60, 3, 9, 2, 0, _) from rfl) (Or.inr (Or.inr (Or.inr (Or.inr (Or.inr (Or.inr (Or.inr (Or.inl ⟨_, _, rfl, fl_ldI c75 (by decide) (by decide), rfl⟩)))))))) ?_
      rw [em]
      refine XW.fam (S' := (37, [(0, .ref 75), (1, .int v)], [.int v, .int m, .ref 76], (sh, I, L, R))) (M := mr_179) rfl (show mcode 179 36 = some (36, .iload_n 1, 1, 0, 0, 0, _) from rfl) (Or.inl ⟨.int v, rfl, rfl⟩) ?_
      have hin3 : inR m 3 = true := inR_of (by omega) (by omega)
      obtain ⟨I4, eI4⟩ : ∃ X, X = up2 I 76 (m).toNatClampNeg v := ⟨_, rfl⟩
      refine XW.fam (S' := (38, [(0, .ref 75), (1, .int v)], [], (sh, I4, L, R))) (M := mr_179) rfl (show mcode 179 37 = some (37, .iastore, 1, 0, 0, 0, _) from rfl) (Or.inr (Or.inr (Or.inr (Or.inl ⟨_, _, by rw [eI4]; exact sta_i c76 hin3, rfl⟩)))) ?_
      have hwI4 : wOK (mkT vV []) (wE sh R) (sh, I4, L, R) := by rw [eI4]; exact wOK_u2 (q := 76) (k := (m).toNatClampNeg) (x := v) wE_put hw rfl (by show (0 : Int) ≤ _; omega) (by show _ ≤ (15 : Int); omega)
      have hfI4 : fresh (sh, I4, L, R) := by rw [eI4]; exact fresh_I hf c76
      have v5 : I4 75 2 = m := by rw [eI4, up2_ne (fun e => by cases e.1)]; exact em
      have v6 : I4 76 (m).toNatClampNeg = v := by rw [eI4]; exact up2_eq
      refine XW.fam (S' := (39, [(0, .ref 75), (1, .int v)], [.ref 75], (sh, I4, L, R))) (M := mr_179) rfl (show mcode 179 38 = some (38, .aload_n 0, 1, 0, 0, 0, _) from rfl) (Or.inl ⟨.ref 75, rfl, rfl⟩) ?_
      refine XW.fam (S' := (40, [(0, .ref 75), (1, .int v)], [.ref 75, .ref 75], (sh, I4, L, R))) (M := mr_179) rfl (show mcode 179 39 = some (39, .dup, 1, 0, 0, 0, _) from rfl) (Or.inr (Or.inr (Or.inr (Or.inr (Or.inr (Or.inl ⟨_, rfl, rfl⟩)))))) ?_
      refine XW.fam (S' := (43, [(0, .ref 75), (1, .int v)], [.int (I4 75 2), .ref 75], (sh, I4, L, R))) (M := mr_179) rfl (show mcode 179 40 = some (40, .getfield 60, 3, 9, 2, 0, _) from rfl) (Or.inr (Or.inr (Or.inr (Or.inr (Or.inr (Or.inr (Or.inr (Or.inl ⟨_, _, rfl, fl_ldI c75 (by decide) (by decide), rfl⟩)))))))) ?_
      rw [v5]
      refine XW.fam (S' := (44, [(0, .ref 75), (1, .int v)], [.int 1, .int m, .ref 75], (sh, I4, L, R))) (M := mr_179) rfl (show mcode 179 43 = some (43, .iconst 1, 1, 0, 0, 0, _) from rfl) (Or.inl ⟨.int 1, rfl, rfl⟩) ?_
      refine XW.fam (S' := (45, [(0, .ref 75), (1, .int v)], [.int (m + 1), .ref 75], (sh, I4, L, R))) (M := mr_179) rfl (show mcode 179 44 = some (44, .iadd, 1, 0, 0, 0, _) from rfl) (Or.inr (Or.inr (Or.inr (Or.inr (Or.inr (Or.inl ⟨_, rfl, rfl⟩)))))) ?_
      obtain ⟨I7, eI7⟩ : ∃ X, X = up2 I4 75 2 (m + 1) := ⟨_, rfl⟩
      refine XW.fam (S' := (48, [(0, .ref 75), (1, .int v)], [], (sh, I7, L, R))) (M := mr_179) rfl (show mcode 179 45 = some (45, .putfield 60, 3, 9, 2, 0, _) from rfl) (Or.inr (Or.inr (Or.inr (Or.inr (Or.inr (Or.inr (Or.inr (Or.inr (Or.inl ⟨_, _, _, rfl, by rw [eI7]; exact stf_I c75 (by decide) (by decide) (by decide), rfl⟩))))))))) ?_
      have xi := inc32 (m := m) (by omega) (by omega)
      have hwI7 : wOK (mkT vV []) (wE sh R) (sh, I7, L, R) := by rw [eI7]; exact wOK_u2 (q := 75) (k := 2) (x := (m + 1)) wE_put hwI4 rfl (by show (0 : Int) ≤ _; omega) (by show _ ≤ (3 : Int); omega)
      have hfI7 : fresh (sh, I7, L, R) := by rw [eI7]; exact fresh_I hfI4 c75
      have v9 : I7 76 (m).toNatClampNeg = v := by rw [eI7, up2_ne (fun e => by cases e.1)]; exact v6
      have v10 : I7 75 2 = (m + 1) := by rw [eI7]; exact up2_eq
      refine XW.fam (S' := (49, [(0, .ref 75), (1, .int v)], [.ref 75], (sh, I7, L, R))) (M := mr_179) rfl (show mcode 179 48 = some (48, .aload_n 0, 1, 0, 0, 0, _) from rfl) (Or.inl ⟨.ref 75, rfl, rfl⟩) ?_
      refine XW.fam (S' := (52, [(0, .ref 75), (1, .int v)], [.int (I7 75 2)], (sh, I7, L, R))) (M := mr_179) rfl (show mcode 179 49 = some (49, .getfield 60, 3, 9, 2, 0, _) from rfl) (Or.inr (Or.inr (Or.inr (Or.inr (Or.inr (Or.inr (Or.inr (Or.inl ⟨_, _, rfl, fl_ldI c75 (by decide) (by decide), rfl⟩)))))))) ?_
      rw [v10]
      refine XW.ret (r := some (.int (m + 1))) ⟨⟨.int, rfl, rfl⟩, by decide +kernel⟩ ?_
      have hkp : ∀ q k, inm mdVC q k = false → I7 q k = I q k := by
        intro q k h
        rw [eI7, up2_ne (fun e => by rw [e.1, e.2] at h; cases h), eI4, up2_ne (fun e => by rw [e.1] at h; cases h)]
      have hrw : ∀ k, I7 76 k = I4 76 k := by
        intro k
        rw [eI7, up2_ne (fun e => by cases e.1)]
      refine ⟨hfI7, ⟨sh, R, hwI7⟩, Or.inr (Or.inr ⟨ht, by show (I 75 2).toInt < (3 : Int); rw [em]; omega, ?_, ?_, ?_, fun k hk => ?_, hkp⟩)⟩
      · show some (Value.int _) = some (Value.int (I 75 2 + 1))
        rw [em]
      · show I7 75 2 = I 75 2 + 1
        rw [em]
        exact v10
      · show I7 76 (I 75 2).toNatClampNeg = _
        rw [hrw, em, eI4, up2_eq]
      · have hk : ¬ k = (I 75 2).toNatClampNeg := hk
        rw [em] at hk
        show I7 76 k = I 76 k
        rw [hrw, eI4, up2_ne (fun e => hk e.2)]
    | false =>
      have gk2 : ¬ ((m).toInt < 3) := icF (c := .lt) (a := (m).toInt) (b := 3) rfl (by decide) k2
      refine XW.fam (S' := (25, [(0, .ref 75), (1, .int v)], [], (sh, I, L, R))) (M := mr_179) rfl (show mcode 179 22 = some (22, .if_icmp .lt 6, 3, 28, 0, 0, _) from rfl) (Or.inr (Or.inl ⟨25, [], by simp [brn, k2], rfl⟩)) ?_
      refine XW.fam (S' := (27, [(0, .ref 75), (1, .int v)], [.int (-3)], (sh, I, L, R))) (M := mr_179) rfl (show mcode 179 25 = some (25, .bipush (-3), 2, 0, 0, 0, _) from rfl) (Or.inl ⟨.int (-3), rfl, rfl⟩) ?_
      refine XW.ret (r := some (.int (-3))) ⟨⟨.int, rfl, rfl⟩, by decide +kernel⟩ ?_
      exact ⟨hf, ⟨sh, R, hw⟩, Or.inr (Or.inl ⟨ht, by show (3 : Int) ≤ (I 75 2).toInt; rw [em]; omega, rfl, rfl⟩)⟩
  · skip
    refine XW.fam (S' := (15, [(0, .ref 75), (1, .int v)], [], (sh, I, L, R))) (M := mr_179) rfl (show mcode 179 12 = some (12, .ifCond .eq 5, 3, 17, 0, 0, _) from rfl) (Or.inr (Or.inl ⟨15, [], rfl, rfl⟩)) ?_
    refine XW.fam (S' := (16, [(0, .ref 75), (1, .int v)], [.int (-1)], (sh, I, L, R))) (M := mr_179) rfl (show mcode 179 15 = some (15, .iconst (-1), 1, 0, 0, 0, _) from rfl) (Or.inl ⟨.int (-1), rfl, rfl⟩) ?_
    refine XW.ret (r := some (.int (-1))) ⟨⟨.int, rfl, rfl⟩, by decide +kernel⟩ ?_
    exact ⟨hf, ⟨sh, R, hw⟩, Or.inl ⟨fun q => q ht, rfl, rfl⟩⟩
theorem tc_tellPort {d : Nat} {sh : List mE} {I : Nat → Nat → Int32} {L : Nat → Nat → Int64} {R : Nat → Nat → Option Nat} {v u : Int32} (hw : wOK (mkT vV []) (wE sh R) (sh, I, L, R)) (hf : fresh (sh, I, L, R)) (hv : 0 ≤ v.toInt ∧ v.toInt ≤ 2147483) : Tc 181 (d + 1) 0 0 [.ref 75, .int v, .int u] (sh, I, L, R) (Qapr 75 3 3 (¬ told I 77 (I 75 3).toInt v) 77 v mdWC (sh, I, L, R)) := by
  have c75 : sh[75]? = some (.inr 9) := hw.1 75 _ rfl
  have c77 : sh[77]? = some (.inl (.int, 3)) := hw.1 77 _ rfl
  have c78 : sh[78]? = some (.inl (.int, 3)) := hw.1 78 _ rfl
  have r75_5 : R 75 5 = some 77 := hw.2.1 75 5 _ rfl
  have r75_6 : R 75 6 = some 78 := hw.2.1 75 6 _ rfl
  have zm3 : ((-3) : Int32).toInt = (-3) := rfl
  have zm1 : ((-1) : Int32).toInt = (-1) := rfl
  have z1 : (1 : Int32).toInt = 1 := rfl
  have z3 : (3 : Int32).toInt = 3 := rfl
  have hmc : 0 ≤ (I 75 3).toInt ∧ (I 75 3).toInt ≤ 3 := hw.2.2.1 75 3
  obtain ⟨m, em⟩ : ∃ m, I 75 3 = m := ⟨_, rfl⟩
  rw [em] at hmc
  refine Tc.of mr_181 rfl (show 3 ≤ mr_181.2.2.2.1 by decide) ?_
  refine XW.fam (S' := (1, [(0, .ref 75), (1, .int v), (2, .int u)], [.ref 75], (sh, I, L, R))) (M := mr_181) rfl (show mcode 181 0 = some (0, .aload_n 0, 1, 0, 0, 0, _) from rfl) (Or.inl ⟨.ref 75, rfl, rfl⟩) ?_
  refine XW.fam (S' := (4, [(0, .ref 75), (1, .int v), (2, .int u)], [.ref 77], (sh, I, L, R))) (M := mr_181) rfl (show mcode 181 1 = some (1, .getfield 15, 3, 9, 5, 0, _) from rfl) (Or.inr (Or.inr (Or.inr (Or.inr (Or.inr (Or.inr (Or.inr (Or.inl ⟨_, _, rfl, fl_ld c75 r75_5 (by decide) (by decide), rfl⟩)))))))) ?_
  refine XW.fam (S' := (5, [(0, .ref 75), (1, .int v), (2, .int u)], [.ref 75, .ref 77], (sh, I, L, R))) (M := mr_181) rfl (show mcode 181 4 = some (4, .aload_n 0, 1, 0, 0, 0, _) from rfl) (Or.inl ⟨.ref 75, rfl, rfl⟩) ?_
  refine XW.fam (S' := (8, [(0, .ref 75), (1, .int v), (2, .int u)], [.int (I 75 3), .ref 77], (sh, I, L, R))) (M := mr_181) rfl (show mcode 181 5 = some (5, .getfield 68, 3, 9, 3, 0, _) from rfl) (Or.inr (Or.inr (Or.inr (Or.inr (Or.inr (Or.inr (Or.inr (Or.inl ⟨_, _, rfl, fl_ldI c75 (by decide) (by decide), rfl⟩)))))))) ?_
  rw [em]
  refine XW.fam (S' := (9, [(0, .ref 75), (1, .int v), (2, .int u)], [.int v, .int m, .ref 77], (sh, I, L, R))) (M := mr_181) rfl (show mcode 181 8 = some (8, .iload_n 1, 1, 0, 0, 0, _) from rfl) (Or.inl ⟨.int v, rfl, rfl⟩) ?_
  refine XW.call (d' := d) (mc' := 0) (ms' := 0) (av := [.ref 77, .int m, .int v]) (rest := []) (M := mr_181) (Ma := mr_180) rfl (show mcode 181 9 = some (9, .invokestatic 64, 3, 180, 0, 0, _) from rfl) rfl (by decide) (by decide) rfl rfl rfl (show 0 ≤ 8 by decide) (tc_toldP (d := d) hw (by omega)) (by omega) (Nat.zero_le _) (Nat.zero_le _) (fun rQ1 wQ1 Q1 => ?_)
  obtain ⟨hQ1, rfl⟩ := Q1
  rcases hQ1 with ⟨rfl, ht⟩ | ⟨rfl, ht⟩
  · skip
    refine XW.fam (S' := (17, [(0, .ref 75), (1, .int v), (2, .int u)], [], (sh, I, L, R))) (M := mr_181) rfl (show mcode 181 12 = some (12, .ifCond .eq 5, 3, 17, 0, 0, _) from rfl) (Or.inr (Or.inl ⟨17, [], rfl, rfl⟩)) ?_
    refine XW.fam (S' := (18, [(0, .ref 75), (1, .int v), (2, .int u)], [.ref 75], (sh, I, L, R))) (M := mr_181) rfl (show mcode 181 17 = some (17, .aload_n 0, 1, 0, 0, 0, _) from rfl) (Or.inl ⟨.ref 75, rfl, rfl⟩) ?_
    refine XW.fam (S' := (21, [(0, .ref 75), (1, .int v), (2, .int u)], [.int (I 75 3)], (sh, I, L, R))) (M := mr_181) rfl (show mcode 181 18 = some (18, .getfield 68, 3, 9, 3, 0, _) from rfl) (Or.inr (Or.inr (Or.inr (Or.inr (Or.inr (Or.inr (Or.inr (Or.inl ⟨_, _, rfl, fl_ldI c75 (by decide) (by decide), rfl⟩)))))))) ?_
    rw [em]
    refine XW.fam (S' := (22, [(0, .ref 75), (1, .int v), (2, .int u)], [.int 3, .int m], (sh, I, L, R))) (M := mr_181) rfl (show mcode 181 21 = some (21, .iconst 3, 1, 0, 0, 0, _) from rfl) (Or.inl ⟨.int 3, rfl, rfl⟩) ?_
    cases k2 : bcmp .lt m 3 with
    | true =>
      have gk2 : (m).toInt < 3 := icT (c := .lt) (a := (m).toInt) (b := 3) rfl (by decide) k2
      refine XW.fam (S' := (28, [(0, .ref 75), (1, .int v), (2, .int u)], [], (sh, I, L, R))) (M := mr_181) rfl (show mcode 181 22 = some (22, .if_icmp .lt 6, 3, 28, 0, 0, _) from rfl) (Or.inr (Or.inl ⟨28, [], by simp [brn, k2], rfl⟩)) ?_
      refine XW.fam (S' := (29, [(0, .ref 75), (1, .int v), (2, .int u)], [.ref 75], (sh, I, L, R))) (M := mr_181) rfl (show mcode 181 28 = some (28, .aload_n 0, 1, 0, 0, 0, _) from rfl) (Or.inl ⟨.ref 75, rfl, rfl⟩) ?_
      refine XW.fam (S' := (32, [(0, .ref 75), (1, .int v), (2, .int u)], [.ref 77], (sh, I, L, R))) (M := mr_181) rfl (show mcode 181 29 = some (29, .getfield 15, 3, 9, 5, 0, _) from rfl) (Or.inr (Or.inr (Or.inr (Or.inr (Or.inr (Or.inr (Or.inr (Or.inl ⟨_, _, rfl, fl_ld c75 r75_5 (by decide) (by decide), rfl⟩)))))))) ?_
      refine XW.fam (S' := (33, [(0, .ref 75), (1, .int v), (2, .int u)], [.ref 75, .ref 77], (sh, I, L, R))) (M := mr_181) rfl (show mcode 181 32 = some (32, .aload_n 0, 1, 0, 0, 0, _) from rfl) (Or.inl ⟨.ref 75, rfl, rfl⟩) ?_
      refine XW.fam (S' := (36, [(0, .ref 75), (1, .int v), (2, .int u)], [.int (I 75 3), .ref 77], (sh, I, L, R))) (M := mr_181) rfl (show mcode 181 33 = some (33, .getfield 68, 3, 9, 3, 0, _) from rfl) (Or.inr (Or.inr (Or.inr (Or.inr (Or.inr (Or.inr (Or.inr (Or.inl ⟨_, _, rfl, fl_ldI c75 (by decide) (by decide), rfl⟩)))))))) ?_
      rw [em]
      refine XW.fam (S' := (37, [(0, .ref 75), (1, .int v), (2, .int u)], [.int v, .int m, .ref 77], (sh, I, L, R))) (M := mr_181) rfl (show mcode 181 36 = some (36, .iload_n 1, 1, 0, 0, 0, _) from rfl) (Or.inl ⟨.int v, rfl, rfl⟩) ?_
      have hin3 : inR m 3 = true := inR_of (by omega) (by omega)
      obtain ⟨I4, eI4⟩ : ∃ X, X = up2 I 77 (m).toNatClampNeg v := ⟨_, rfl⟩
      refine XW.fam (S' := (38, [(0, .ref 75), (1, .int v), (2, .int u)], [], (sh, I4, L, R))) (M := mr_181) rfl (show mcode 181 37 = some (37, .iastore, 1, 0, 0, 0, _) from rfl) (Or.inr (Or.inr (Or.inr (Or.inl ⟨_, _, by rw [eI4]; exact sta_i c77 hin3, rfl⟩)))) ?_
      have hwI4 : wOK (mkT vV []) (wE sh R) (sh, I4, L, R) := by rw [eI4]; exact wOK_u2 (q := 77) (k := (m).toNatClampNeg) (x := v) wE_put hw rfl (by show (0 : Int) ≤ _; omega) (by show _ ≤ (2147483 : Int); omega)
      have hfI4 : fresh (sh, I4, L, R) := by rw [eI4]; exact fresh_I hf c77
      have v5 : I4 75 3 = m := by rw [eI4, up2_ne (fun e => by cases e.1)]; exact em
      have v6 : I4 77 (m).toNatClampNeg = v := by rw [eI4]; exact up2_eq
      refine XW.fam (S' := (39, [(0, .ref 75), (1, .int v), (2, .int u)], [.ref 75], (sh, I4, L, R))) (M := mr_181) rfl (show mcode 181 38 = some (38, .aload_n 0, 1, 0, 0, 0, _) from rfl) (Or.inl ⟨.ref 75, rfl, rfl⟩) ?_
      refine XW.fam (S' := (42, [(0, .ref 75), (1, .int v), (2, .int u)], [.ref 78], (sh, I4, L, R))) (M := mr_181) rfl (show mcode 181 39 = some (39, .getfield 18, 3, 9, 6, 0, _) from rfl) (Or.inr (Or.inr (Or.inr (Or.inr (Or.inr (Or.inr (Or.inr (Or.inl ⟨_, _, rfl, fl_ld c75 r75_6 (by decide) (by decide), rfl⟩)))))))) ?_
      refine XW.fam (S' := (43, [(0, .ref 75), (1, .int v), (2, .int u)], [.ref 75, .ref 78], (sh, I4, L, R))) (M := mr_181) rfl (show mcode 181 42 = some (42, .aload_n 0, 1, 0, 0, 0, _) from rfl) (Or.inl ⟨.ref 75, rfl, rfl⟩) ?_
      refine XW.fam (S' := (46, [(0, .ref 75), (1, .int v), (2, .int u)], [.int (I4 75 3), .ref 78], (sh, I4, L, R))) (M := mr_181) rfl (show mcode 181 43 = some (43, .getfield 68, 3, 9, 3, 0, _) from rfl) (Or.inr (Or.inr (Or.inr (Or.inr (Or.inr (Or.inr (Or.inr (Or.inl ⟨_, _, rfl, fl_ldI c75 (by decide) (by decide), rfl⟩)))))))) ?_
      rw [v5]
      refine XW.fam (S' := (47, [(0, .ref 75), (1, .int v), (2, .int u)], [.int u, .int m, .ref 78], (sh, I4, L, R))) (M := mr_181) rfl (show mcode 181 46 = some (46, .iload_n 2, 1, 0, 0, 0, _) from rfl) (Or.inl ⟨.int u, rfl, rfl⟩) ?_
      have hin7 : inR m 3 = true := inR_of (by omega) (by omega)
      obtain ⟨I8, eI8⟩ : ∃ X, X = up2 I4 78 (m).toNatClampNeg u := ⟨_, rfl⟩
      refine XW.fam (S' := (48, [(0, .ref 75), (1, .int v), (2, .int u)], [], (sh, I8, L, R))) (M := mr_181) rfl (show mcode 181 47 = some (47, .iastore, 1, 0, 0, 0, _) from rfl) (Or.inr (Or.inr (Or.inr (Or.inl ⟨_, _, by rw [eI8]; exact sta_i c78 hin7, rfl⟩)))) ?_
      have xb := i32b (u)
      unfold lo32 hi32 at xb
      have hwI8 : wOK (mkT vV []) (wE sh R) (sh, I8, L, R) := by rw [eI8]; exact wOK_u2 (q := 78) (k := (m).toNatClampNeg) (x := u) wE_put hwI4 rfl (by show ((-2147483648) : Int) ≤ _; omega) (by show _ ≤ (2147483647 : Int); omega)
      have hfI8 : fresh (sh, I8, L, R) := by rw [eI8]; exact fresh_I hfI4 c78
      have v9 : I8 75 3 = m := by rw [eI8, up2_ne (fun e => by cases e.1)]; exact v5
      have v10 : I8 77 (m).toNatClampNeg = v := by rw [eI8, up2_ne (fun e => by cases e.1)]; exact v6
      have v11 : I8 78 (m).toNatClampNeg = u := by rw [eI8]; exact up2_eq
      refine XW.fam (S' := (49, [(0, .ref 75), (1, .int v), (2, .int u)], [.ref 75], (sh, I8, L, R))) (M := mr_181) rfl (show mcode 181 48 = some (48, .aload_n 0, 1, 0, 0, 0, _) from rfl) (Or.inl ⟨.ref 75, rfl, rfl⟩) ?_
      refine XW.fam (S' := (50, [(0, .ref 75), (1, .int v), (2, .int u)], [.ref 75, .ref 75], (sh, I8, L, R))) (M := mr_181) rfl (show mcode 181 49 = some (49, .dup, 1, 0, 0, 0, _) from rfl) (Or.inr (Or.inr (Or.inr (Or.inr (Or.inr (Or.inl ⟨_, rfl, rfl⟩)))))) ?_
      refine XW.fam (S' := (53, [(0, .ref 75), (1, .int v), (2, .int u)], [.int (I8 75 3), .ref 75], (sh, I8, L, R))) (M := mr_181) rfl (show mcode 181 50 = some (50, .getfield 68, 3, 9, 3, 0, _) from rfl) (Or.inr (Or.inr (Or.inr (Or.inr (Or.inr (Or.inr (Or.inr (Or.inl ⟨_, _, rfl, fl_ldI c75 (by decide) (by decide), rfl⟩)))))))) ?_
      rw [v9]
      refine XW.fam (S' := (54, [(0, .ref 75), (1, .int v), (2, .int u)], [.int 1, .int m, .ref 75], (sh, I8, L, R))) (M := mr_181) rfl (show mcode 181 53 = some (53, .iconst 1, 1, 0, 0, 0, _) from rfl) (Or.inl ⟨.int 1, rfl, rfl⟩) ?_
      refine XW.fam (S' := (55, [(0, .ref 75), (1, .int v), (2, .int u)], [.int (m + 1), .ref 75], (sh, I8, L, R))) (M := mr_181) rfl (show mcode 181 54 = some (54, .iadd, 1, 0, 0, 0, _) from rfl) (Or.inr (Or.inr (Or.inr (Or.inr (Or.inr (Or.inl ⟨_, rfl, rfl⟩)))))) ?_
      obtain ⟨I12, eI12⟩ : ∃ X, X = up2 I8 75 3 (m + 1) := ⟨_, rfl⟩
      refine XW.fam (S' := (58, [(0, .ref 75), (1, .int v), (2, .int u)], [], (sh, I12, L, R))) (M := mr_181) rfl (show mcode 181 55 = some (55, .putfield 68, 3, 9, 3, 0, _) from rfl) (Or.inr (Or.inr (Or.inr (Or.inr (Or.inr (Or.inr (Or.inr (Or.inr (Or.inl ⟨_, _, _, rfl, by rw [eI12]; exact stf_I c75 (by decide) (by decide) (by decide), rfl⟩))))))))) ?_
      have xi := inc32 (m := m) (by omega) (by omega)
      have hwI12 : wOK (mkT vV []) (wE sh R) (sh, I12, L, R) := by rw [eI12]; exact wOK_u2 (q := 75) (k := 3) (x := (m + 1)) wE_put hwI8 rfl (by show (0 : Int) ≤ _; omega) (by show _ ≤ (3 : Int); omega)
      have hfI12 : fresh (sh, I12, L, R) := by rw [eI12]; exact fresh_I hfI8 c75
      have v14 : I12 77 (m).toNatClampNeg = v := by rw [eI12, up2_ne (fun e => by cases e.1)]; exact v10
      have v15 : I12 78 (m).toNatClampNeg = u := by rw [eI12, up2_ne (fun e => by cases e.1)]; exact v11
      have v16 : I12 75 3 = (m + 1) := by rw [eI12]; exact up2_eq
      refine XW.fam (S' := (59, [(0, .ref 75), (1, .int v), (2, .int u)], [.ref 75], (sh, I12, L, R))) (M := mr_181) rfl (show mcode 181 58 = some (58, .aload_n 0, 1, 0, 0, 0, _) from rfl) (Or.inl ⟨.ref 75, rfl, rfl⟩) ?_
      refine XW.fam (S' := (62, [(0, .ref 75), (1, .int v), (2, .int u)], [.int (I12 75 3)], (sh, I12, L, R))) (M := mr_181) rfl (show mcode 181 59 = some (59, .getfield 68, 3, 9, 3, 0, _) from rfl) (Or.inr (Or.inr (Or.inr (Or.inr (Or.inr (Or.inr (Or.inr (Or.inl ⟨_, _, rfl, fl_ldI c75 (by decide) (by decide), rfl⟩)))))))) ?_
      rw [v16]
      refine XW.ret (r := some (.int (m + 1))) ⟨⟨.int, rfl, rfl⟩, by decide +kernel⟩ ?_
      have hkp : ∀ q k, inm mdWC q k = false → I12 q k = I q k := by
        intro q k h
        rw [eI12, up2_ne (fun e => by rw [e.1, e.2] at h; cases h), eI8, up2_ne (fun e => by rw [e.1] at h; cases h), eI4, up2_ne (fun e => by rw [e.1] at h; cases h)]
      have hrw : ∀ k, I12 77 k = I4 77 k := by
        intro k
        rw [eI12, up2_ne (fun e => by cases e.1), eI8, up2_ne (fun e => by cases e.1)]
      refine ⟨hfI12, ⟨sh, R, hwI12⟩, Or.inr (Or.inr ⟨ht, by show (I 75 3).toInt < (3 : Int); rw [em]; omega, ?_, ?_, ?_, fun k hk => ?_, hkp⟩)⟩
      · show some (Value.int _) = some (Value.int (I 75 3 + 1))
        rw [em]
      · show I12 75 3 = I 75 3 + 1
        rw [em]
        exact v16
      · show I12 77 (I 75 3).toNatClampNeg = _
        rw [hrw, em, eI4, up2_eq]
      · have hk : ¬ k = (I 75 3).toNatClampNeg := hk
        rw [em] at hk
        show I12 77 k = I 77 k
        rw [hrw, eI4, up2_ne (fun e => hk e.2)]
    | false =>
      have gk2 : ¬ ((m).toInt < 3) := icF (c := .lt) (a := (m).toInt) (b := 3) rfl (by decide) k2
      refine XW.fam (S' := (25, [(0, .ref 75), (1, .int v), (2, .int u)], [], (sh, I, L, R))) (M := mr_181) rfl (show mcode 181 22 = some (22, .if_icmp .lt 6, 3, 28, 0, 0, _) from rfl) (Or.inr (Or.inl ⟨25, [], by simp [brn, k2], rfl⟩)) ?_
      refine XW.fam (S' := (27, [(0, .ref 75), (1, .int v), (2, .int u)], [.int (-3)], (sh, I, L, R))) (M := mr_181) rfl (show mcode 181 25 = some (25, .bipush (-3), 2, 0, 0, 0, _) from rfl) (Or.inl ⟨.int (-3), rfl, rfl⟩) ?_
      refine XW.ret (r := some (.int (-3))) ⟨⟨.int, rfl, rfl⟩, by decide +kernel⟩ ?_
      exact ⟨hf, ⟨sh, R, hw⟩, Or.inr (Or.inl ⟨ht, by show (3 : Int) ≤ (I 75 3).toInt; rw [em]; omega, rfl, rfl⟩)⟩
  · skip
    refine XW.fam (S' := (15, [(0, .ref 75), (1, .int v), (2, .int u)], [], (sh, I, L, R))) (M := mr_181) rfl (show mcode 181 12 = some (12, .ifCond .eq 5, 3, 17, 0, 0, _) from rfl) (Or.inr (Or.inl ⟨15, [], rfl, rfl⟩)) ?_
    refine XW.fam (S' := (16, [(0, .ref 75), (1, .int v), (2, .int u)], [.int (-1)], (sh, I, L, R))) (M := mr_181) rfl (show mcode 181 15 = some (15, .iconst (-1), 1, 0, 0, 0, _) from rfl) (Or.inl ⟨.int (-1), rfl, rfl⟩) ?_
    refine XW.ret (r := some (.int (-1))) ⟨⟨.int, rfl, rfl⟩, by decide +kernel⟩ ?_
    exact ⟨hf, ⟨sh, R, hw⟩, Or.inl ⟨fun q => q ht, rfl, rfl⟩⟩
theorem tc_isShC {d : Nat} {sh : List mE} {I : Nat → Nat → Int32} {L : Nat → Nat → Int64} {R : Nat → Nat → Option Nat} {p : Int32} (hw : wOK (mkT vV []) (wE sh R) (sh, I, L, R)) : Tc 62 (d) 0 0 [.ref 53, .int p] (sh, I, L, R) (fun r w' => ((r = some (.int 0) ∧ ¬ (0 ≤ p.toInt ∧ p.toInt < (I 53 3).toInt)) ∨ (r = some (.int 1) ∧ 0 ≤ p.toInt ∧ p.toInt < (I 53 3).toInt)) ∧ w' = (sh, I, L, R)) := by
  have c53 : sh[53]? = some (.inr 7) := hw.1 53 _ rfl
  have z0 : (0 : Int32).toInt = 0 := rfl
  have z1 : (1 : Int32).toInt = 1 := rfl
  have hm : 0 ≤ (I 53 3).toInt ∧ (I 53 3).toInt ≤ 16 := hw.2.2.1 53 3
  refine Tc.of mr_62 rfl (show 2 ≤ mr_62.2.2.2.1 by decide) ?_
  refine XW.fam (S' := (1, [(0, .ref 53), (1, .int p)], [.int p], (sh, I, L, R))) (M := mr_62) rfl (show mcode 62 0 = some (0, .iload_n 1, 1, 0, 0, 0, _) from rfl) (Or.inl ⟨.int p, rfl, rfl⟩) ?_
  cases k1 : bcmp .lt p 0 with
  | true =>
    have gk1 : (p).toInt < 0 := icT (c := .lt) (a := (p).toInt) (b := 0) rfl (by decide) k1
    refine XW.fam (S' := (16, [(0, .ref 53), (1, .int p)], [], (sh, I, L, R))) (M := mr_62) rfl (show mcode 62 1 = some (1, .ifCond .lt 15, 3, 16, 0, 0, _) from rfl) (Or.inr (Or.inl ⟨16, [], by simp [brn, k1], rfl⟩)) ?_
    refine XW.fam (S' := (17, [(0, .ref 53), (1, .int p)], [.int 0], (sh, I, L, R))) (M := mr_62) rfl (show mcode 62 16 = some (16, .iconst 0, 1, 0, 0, 0, _) from rfl) (Or.inl ⟨.int 0, rfl, rfl⟩) ?_
    refine XW.ret (r := some (.int 0)) ⟨⟨.boolean, rfl, rfl⟩, by decide +kernel⟩ ?_
    exact ⟨Or.inl ⟨rfl, fun q => by omega⟩, rfl⟩
  | false =>
    have gk1 : ¬ ((p).toInt < 0) := icF (c := .lt) (a := (p).toInt) (b := 0) rfl (by decide) k1
    refine XW.fam (S' := (4, [(0, .ref 53), (1, .int p)], [], (sh, I, L, R))) (M := mr_62) rfl (show mcode 62 1 = some (1, .ifCond .lt 15, 3, 16, 0, 0, _) from rfl) (Or.inr (Or.inl ⟨4, [], by simp [brn, k1], rfl⟩)) ?_
    refine XW.fam (S' := (5, [(0, .ref 53), (1, .int p)], [.int p], (sh, I, L, R))) (M := mr_62) rfl (show mcode 62 4 = some (4, .iload_n 1, 1, 0, 0, 0, _) from rfl) (Or.inl ⟨.int p, rfl, rfl⟩) ?_
    refine XW.fam (S' := (6, [(0, .ref 53), (1, .int p)], [.ref 53, .int p], (sh, I, L, R))) (M := mr_62) rfl (show mcode 62 5 = some (5, .aload_n 0, 1, 0, 0, 0, _) from rfl) (Or.inl ⟨.ref 53, rfl, rfl⟩) ?_
    refine XW.fam (S' := (9, [(0, .ref 53), (1, .int p)], [.int (I 53 3), .int p], (sh, I, L, R))) (M := mr_62) rfl (show mcode 62 6 = some (6, .getfield 61, 3, 7, 3, 0, _) from rfl) (Or.inr (Or.inr (Or.inr (Or.inr (Or.inr (Or.inr (Or.inr (Or.inl ⟨_, _, rfl, fl_ldI c53 (by decide) (by decide), rfl⟩)))))))) ?_
    cases k2 : bcmp .ge p (I 53 3) with
    | true =>
      have gk2 : ((I 53 3)).toInt ≤ (p).toInt := icT (c := .ge) (a := (p).toInt) (b := ((I 53 3)).toInt) rfl rfl k2
      refine XW.fam (S' := (16, [(0, .ref 53), (1, .int p)], [], (sh, I, L, R))) (M := mr_62) rfl (show mcode 62 9 = some (9, .if_icmp .ge 7, 3, 16, 0, 0, _) from rfl) (Or.inr (Or.inl ⟨16, [], by simp [brn, k2], rfl⟩)) ?_
      refine XW.fam (S' := (17, [(0, .ref 53), (1, .int p)], [.int 0], (sh, I, L, R))) (M := mr_62) rfl (show mcode 62 16 = some (16, .iconst 0, 1, 0, 0, 0, _) from rfl) (Or.inl ⟨.int 0, rfl, rfl⟩) ?_
      refine XW.ret (r := some (.int 0)) ⟨⟨.boolean, rfl, rfl⟩, by decide +kernel⟩ ?_
      exact ⟨Or.inl ⟨rfl, fun q => by omega⟩, rfl⟩
    | false =>
      have gk2 : ¬ (((I 53 3)).toInt ≤ (p).toInt) := icF (c := .ge) (a := (p).toInt) (b := ((I 53 3)).toInt) rfl rfl k2
      refine XW.fam (S' := (12, [(0, .ref 53), (1, .int p)], [], (sh, I, L, R))) (M := mr_62) rfl (show mcode 62 9 = some (9, .if_icmp .ge 7, 3, 16, 0, 0, _) from rfl) (Or.inr (Or.inl ⟨12, [], by simp [brn, k2], rfl⟩)) ?_
      refine XW.fam (S' := (13, [(0, .ref 53), (1, .int p)], [.int 1], (sh, I, L, R))) (M := mr_62) rfl (show mcode 62 12 = some (12, .iconst 1, 1, 0, 0, 0, _) from rfl) (Or.inl ⟨.int 1, rfl, rfl⟩) ?_
      refine XW.fam (S' := (17, [(0, .ref 53), (1, .int p)], [.int 1], (sh, I, L, R))) (M := mr_62) rfl (show mcode 62 13 = some (13, .goto 4, 3, 17, 0, 0, _) from rfl) (Or.inr (Or.inl ⟨17, [.int 1], rfl, rfl⟩)) ?_
      refine XW.ret (r := some (.int 1)) ⟨⟨.boolean, rfl, rfl⟩, by decide +kernel⟩ ?_
      exact ⟨Or.inr ⟨rfl, by omega⟩, rfl⟩
theorem tc_isShM {d : Nat} {sh : List mE} {I : Nat → Nat → Int32} {L : Nat → Nat → Int64} {R : Nat → Nat → Option Nat} {p : Int32} (hw : wOK (mkT vV []) (wE sh R) (sh, I, L, R)) : Tc 311 (d + 1) 0 0 [.ref 94, .int p] (sh, I, L, R) (fun r w' => ((r = some (.int 0) ∧ ¬ (0 ≤ p.toInt ∧ p.toInt ≤ (I 94 60).toInt - 1)) ∨ (r = some (.int 1) ∧ 0 ≤ p.toInt ∧ p.toInt ≤ (I 94 60).toInt - 1)) ∧ w' = (sh, I, L, R)) := by
  have c94 : sh[94]? = some (.inr 12) := hw.1 94 _ rfl
  have z0 : (0 : Int32).toInt = 0 := rfl
  have z1 : (1 : Int32).toInt = 1 := rfl
  have hm : 0 ≤ (I 94 60).toInt ∧ (I 94 60).toInt ≤ 16 := hw.2.2.1 94 60
  have xs := sub1I (m := I 94 60) (by omega) (by omega)
  refine Tc.of mr_311 rfl (show 2 ≤ mr_311.2.2.2.1 by decide) ?_
  refine XW.fam (S' := (1, [(0, .ref 94), (1, .int p)], [.int p], (sh, I, L, R))) (M := mr_311) rfl (show mcode 311 0 = some (0, .iload_n 1, 1, 0, 0, 0, _) from rfl) (Or.inl ⟨.int p, rfl, rfl⟩) ?_
  refine XW.fam (S' := (2, [(0, .ref 94), (1, .int p)], [.int 0, .int p], (sh, I, L, R))) (M := mr_311) rfl (show mcode 311 1 = some (1, .iconst 0, 1, 0, 0, 0, _) from rfl) (Or.inl ⟨.int 0, rfl, rfl⟩) ?_
  refine XW.fam (S' := (3, [(0, .ref 94), (1, .int p)], [.ref 94, .int 0, .int p], (sh, I, L, R))) (M := mr_311) rfl (show mcode 311 2 = some (2, .aload_n 0, 1, 0, 0, 0, _) from rfl) (Or.inl ⟨.ref 94, rfl, rfl⟩) ?_
  refine XW.fam (S' := (6, [(0, .ref 94), (1, .int p)], [.int (I 94 60), .int 0, .int p], (sh, I, L, R))) (M := mr_311) rfl (show mcode 311 3 = some (3, .getfield 493, 3, 12, 60, 0, _) from rfl) (Or.inr (Or.inr (Or.inr (Or.inr (Or.inr (Or.inr (Or.inr (Or.inl ⟨_, _, rfl, fl_ldI c94 (by decide) (by decide), rfl⟩)))))))) ?_
  refine XW.fam (S' := (7, [(0, .ref 94), (1, .int p)], [.int 1, .int (I 94 60), .int 0, .int p], (sh, I, L, R))) (M := mr_311) rfl (show mcode 311 6 = some (6, .iconst 1, 1, 0, 0, 0, _) from rfl) (Or.inl ⟨.int 1, rfl, rfl⟩) ?_
  refine XW.fam (S' := (8, [(0, .ref 94), (1, .int p)], [.int ((I 94 60) - 1), .int 0, .int p], (sh, I, L, R))) (M := mr_311) rfl (show mcode 311 7 = some (7, .isub, 1, 0, 0, 0, _) from rfl) (Or.inr (Or.inr (Or.inr (Or.inr (Or.inr (Or.inl ⟨_, rfl, rfl⟩)))))) ?_
  refine XW.call (d' := d) (mc' := 0) (ms' := 0) (av := [.int p, .int 0, .int ((I 94 60) - 1)]) (rest := []) (M := mr_311) (Ma := mr_236) rfl (show mcode 311 8 = some (8, .invokestatic 254, 3, 236, 0, 0, _) from rfl) rfl (by decide) (by decide) rfl rfl rfl (show 0 ≤ 8 by decide) (tc_inM) (by omega) (Nat.zero_le _) (Nat.zero_le _) (fun rQ1 wQ1 Q1 => ?_)
  obtain ⟨hQ1, rfl⟩ := Q1
  rcases hQ1 with ⟨rfl, gQ1⟩ | ⟨rfl, gQ1⟩
  · skip
    refine XW.ret (r := some (.int 0)) ⟨⟨.boolean, rfl, rfl⟩, by decide +kernel⟩ ?_
    exact ⟨Or.inl ⟨rfl, fun q => by omega⟩, rfl⟩
  · skip
    refine XW.ret (r := some (.int 1)) ⟨⟨.boolean, rfl, rfl⟩, by decide +kernel⟩ ?_
    exact ⟨Or.inr ⟨rfl, by omega⟩, rfl⟩
def okVC (I : Nat → Nat → Int32) (v : Int32) : Prop := 0 ≤ v.toInt ∧ v.toInt < (I 53 3).toInt
def okVM (I : Nat → Nat → Int32) (v : Int32) : Prop := 0 ≤ v.toInt ∧ v.toInt ≤ (I 94 60).toInt - 1
def okWC (I : Nat → Nat → Int32) (v : Int32) : Prop := (0 ≤ (v / 1000).toInt ∧ (v / 1000).toInt < (I 1 1).toInt) ∧ (I 3 (v / 1000).toNatClampNeg).toInt = 1
def okWM (I : Nat → Nat → Int32) (v : Int32) : Prop := (0 ≤ (v / 1000).toInt ∧ (v / 1000).toInt ≤ (I 94 2).toInt - 1) ∧ ¬ (I 96 (v / 1000).toNatClampNeg).toInt = 0
/-- turn: a ship's list, a port's list, or nothing -/
def Qturn (sort v : Int32) (QS QP : Option Value → mW → Prop) (w : mW) (r : Option Value) (w' : mW) : Prop := (sort.toInt = 0 ∧ QS r w') ∨ (sort.toInt = 1 ∧ 0 ≤ v.toInt ∧ QP r w') ∨ (¬ sort.toInt = 0 ∧ ¬ (sort.toInt = 1 ∧ 0 ≤ v.toInt) ∧ fresh w' ∧ (∃ sh R, wOK (mkT vV []) (wE sh R) w') ∧ r = some (.int (-1)) ∧ w'.2.1 = w.2.1)
def QSC (v : Int32) (w : mW) : Option Value → mW → Prop := Qapr 75 2 3 (okVC w.2.1 v ∧ ¬ told w.2.1 76 (w.2.1 75 2).toInt v) 76 v mdVC w
def QSM (v : Int32) (w : mW) : Option Value → mW → Prop := Qapr 94 79 3 (okVM w.2.1 v ∧ ¬ told w.2.1 148 (w.2.1 94 79).toInt v) 148 v mdVM w
def QPC (v : Int32) (w : mW) : Option Value → mW → Prop := Qapr 75 3 3 (okWC w.2.1 v ∧ ¬ told w.2.1 77 (w.2.1 75 3).toInt (v / 1000)) 77 (v / 1000) mdWC w
def QPM (v : Int32) (w : mW) : Option Value → mW → Prop := Qapr 94 81 3 (okWM w.2.1 v ∧ ¬ told w.2.1 149 (w.2.1 94 81).toInt (v / 1000)) 149 (v / 1000) mdWM w
def QTC (sort v : Int32) (w : mW) : Option Value → mW → Prop := Qturn sort v (QSC v w) (QPC v w) w
def QTM (sort v : Int32) (w : mW) : Option Value → mW → Prop := Qturn sort v (QSM v w) (QPM v w) w
theorem QTC_of {sort v : Int32} {w w' : mW} {r : Option Value} (h : QTC sort v w r w') : fresh w' ∧ (∃ sh R, wOK (mkT vV []) (wE sh R) w') ∧ (∃ y : Int32, r = some (.int y)) ∧ ∀ q k, inm (mdVC ++ mdWC) q k = false → w'.2.1 q k = w.2.1 q k := by
  have sub : ∀ q k, inm (mdVC ++ mdWC) q k = false → inm mdVC q k = false ∧ inm mdWC q k = false := by
    intro q k h
    unfold inm at h ⊢
    rw [List.any_append, Bool.or_eq_false_iff] at h
    exact h
  rcases h with ⟨-, h⟩ | ⟨-, -, h⟩ | ⟨-, -, h1, h2, h3, h4⟩
  · exact ⟨h.1, h.2.1, Qapr_int h, fun q k e => Qapr_keep h q k (sub q k e).1⟩
  · exact ⟨h.1, h.2.1, Qapr_int h, fun q k e => Qapr_keep h q k (sub q k e).2⟩
  · exact ⟨h1, h2, ⟨_, h3⟩, fun q k _ => by rw [h4]⟩
theorem QTM_of {sort v : Int32} {w w' : mW} {r : Option Value} (h : QTM sort v w r w') : fresh w' ∧ (∃ sh R, wOK (mkT vV []) (wE sh R) w') ∧ (∃ y : Int32, r = some (.int y)) ∧ ∀ q k, inm (mdVM ++ mdWM) q k = false → w'.2.1 q k = w.2.1 q k := by
  have sub : ∀ q k, inm (mdVM ++ mdWM) q k = false → inm mdVM q k = false ∧ inm mdWM q k = false := by
    intro q k h
    unfold inm at h ⊢
    rw [List.any_append, Bool.or_eq_false_iff] at h
    exact h
  rcases h with ⟨-, h⟩ | ⟨-, -, h⟩ | ⟨-, -, h1, h2, h3, h4⟩
  · exact ⟨h.1, h.2.1, Qapr_int h, fun q k e => Qapr_keep h q k (sub q k e).1⟩
  · exact ⟨h.1, h.2.1, Qapr_int h, fun q k e => Qapr_keep h q k (sub q k e).2⟩
  · exact ⟨h1, h2, ⟨_, h3⟩, fun q k _ => by rw [h4]⟩
theorem turn_like {sort v : Int32} {w w1 w2 : mW} {r1 r2 : Option Value} (hc : w.2.1 1 1 = w.2.1 94 2) (hK : ∀ k, w.2.1 3 k = w.2.1 96 k) (hs : w.2.1 53 3 = w.2.1 94 60) (hns : w.2.1 75 2 = w.2.1 94 79) (hrs : ∀ k, w.2.1 76 k = w.2.1 148 k) (hnp : w.2.1 75 3 = w.2.1 94 81) (hrp : ∀ k, w.2.1 77 k = w.2.1 149 k) (hb : ∀ k, 0 ≤ (w1.2.1 96 k).toInt ∧ (w1.2.1 96 k).toInt ≤ 1) (h1 : QTC sort v w r1 w1) (h2 : QTM sort v w1 r2 w2) : r1 = r2 ∧ w2.2.1 75 2 = w2.2.1 94 79 ∧ (∀ k, w2.2.1 76 k = w2.2.1 148 k) ∧ w2.2.1 75 3 = w2.2.1 94 81 ∧ ∀ k, w2.2.1 77 k = w2.2.1 149 k := by
  have kc := (QTC_of h1).2.2.2
  have km := (QTM_of h2).2.2.2
  have c2 : w1.2.1 94 2 = w.2.1 94 2 := kc 94 2 rfl
  have c60 : w1.2.1 94 60 = w.2.1 94 60 := kc 94 60 rfl
  have c79 : w1.2.1 94 79 = w.2.1 94 79 := kc 94 79 rfl
  have c81 : w1.2.1 94 81 = w.2.1 94 81 := kc 94 81 rfl
  have c148 : ∀ k, w1.2.1 148 k = w.2.1 148 k := fun k => kc 148 k rfl
  have c149 : ∀ k, w1.2.1 149 k = w.2.1 149 k := fun k => kc 149 k rfl
  have c96 : ∀ k, w1.2.1 96 k = w.2.1 96 k := fun k => kc 96 k rfl
  have m2 : w2.2.1 75 2 = w1.2.1 75 2 := km 75 2 rfl
  have m3 : w2.2.1 75 3 = w1.2.1 75 3 := km 75 3 rfl
  have m76 : ∀ k, w2.2.1 76 k = w1.2.1 76 k := fun k => km 76 k rfl
  have m77 : ∀ k, w2.2.1 77 k = w1.2.1 77 k := fun k => km 77 k rfl
  rcases h1 with ⟨s1, h1⟩ | ⟨s1, v1, h1⟩ | ⟨s1, v1, -, -, e1, f1⟩
  · rcases h2 with ⟨s2, h2⟩ | ⟨s2, v2, h2⟩ | ⟨s2, v2, -, -, e2, f2⟩
    · have hok : (okVC w.2.1 v ∧ ¬ told w.2.1 76 (w.2.1 75 2).toInt v) ↔ (okVM w1.2.1 v ∧ ¬ told w1.2.1 148 (w1.2.1 94 79).toInt v) := by
        have a : okVC w.2.1 v ↔ okVM w1.2.1 v := by
          unfold okVC okVM
          rw [c60, hs]
          constructor
          · intro h
            omega
          · intro h
            omega
        have b : told w.2.1 76 (w.2.1 75 2).toInt v ↔ told w1.2.1 148 (w1.2.1 94 79).toInt v := told_like (by rw [c79, hns]) (fun k => (hrs k).trans (c148 k).symm)
        rw [a, b]
      obtain ⟨e, f, g⟩ := apr_like hns hrs rfl rfl (fun _ => rfl) (fun _ => rfl) h1 h2 hok
      have p1 : w2.2.1 75 3 = w.2.1 75 3 := m3.trans (Qapr_keep h1 75 3 rfl)
      have p2 : w2.2.1 94 81 = w.2.1 94 81 := (Qapr_keep h2 94 81 rfl).trans c81
      have p3 : ∀ k, w2.2.1 77 k = w.2.1 77 k := fun k => (m77 k).trans (Qapr_keep h1 77 k rfl)
      have p4 : ∀ k, w2.2.1 149 k = w.2.1 149 k := fun k => (Qapr_keep h2 149 k rfl).trans (c149 k)
      exact ⟨e, f, g, by rw [p1, p2]; exact hnp, fun k => by rw [p3, p4]; exact hrp k⟩
    · omega
    · exact absurd s1 s2
  · rcases h2 with ⟨s2, h2⟩ | ⟨s2, v2, h2⟩ | ⟨s2, v2, -, -, e2, f2⟩
    · omega
    · have hok : (okWC w.2.1 v ∧ ¬ told w.2.1 77 (w.2.1 75 3).toInt (v / 1000)) ↔ (okWM w1.2.1 v ∧ ¬ told w1.2.1 149 (w1.2.1 94 81).toInt (v / 1000)) := by
        have a : okWC w.2.1 v ↔ okWM w1.2.1 v := by
          have hb' := hb (v / 1000).toNatClampNeg
          unfold okWC okWM
          rw [c96] at hb' ⊢
          rw [c2, hc, hK]
          constructor
          · intro h
            omega
          · intro h
            omega
        have b : told w.2.1 77 (w.2.1 75 3).toInt (v / 1000) ↔ told w1.2.1 149 (w1.2.1 94 81).toInt (v / 1000) := told_like (by rw [c81, hnp]) (fun k => (hrp k).trans (c149 k).symm)
        rw [a, b]
      obtain ⟨e, f, g⟩ := apr_like hnp hrp rfl rfl (fun _ => rfl) (fun _ => rfl) h1 h2 hok
      have p1 : w2.2.1 75 2 = w.2.1 75 2 := m2.trans (Qapr_keep h1 75 2 rfl)
      have p2 : w2.2.1 94 79 = w.2.1 94 79 := (Qapr_keep h2 94 79 rfl).trans c79
      have p3 : ∀ k, w2.2.1 76 k = w.2.1 76 k := fun k => (m76 k).trans (Qapr_keep h1 76 k rfl)
      have p4 : ∀ k, w2.2.1 148 k = w.2.1 148 k := fun k => (Qapr_keep h2 148 k rfl).trans (c148 k)
      exact ⟨e, by rw [p1, p2]; exact hns, fun k => by rw [p3, p4]; exact hrs k, f, g⟩
    · exact absurd ⟨s1, v1⟩ v2
  · rcases h2 with ⟨s2, h2⟩ | ⟨s2, v2, h2⟩ | ⟨s2, v2, -, -, e2, f2⟩
    · exact absurd s2 s1
    · exact absurd ⟨s2, v2⟩ v1
    · refine ⟨e1.trans e2.symm, ?_, fun k => ?_, ?_, fun k => ?_⟩
      · rw [f2, f1]
        exact hns
      · rw [f2, f1]
        exact hrs k
      · rw [f2, f1]
        exact hnp
      · rw [f2, f1]
        exact hrp k
theorem tc_tell {d : Nat} {sh : List mE} {I : Nat → Nat → Int32} {L : Nat → Nat → Int64} {R : Nat → Nat → Option Nat} {sort v : Int32} (hw : wOK (mkT vV []) (wE sh R) (sh, I, L, R)) (hf : fresh (sh, I, L, R)) : Tc 178 (d + 2) 0 0 [.ref 75, .int sort, .int v] (sh, I, L, R) (QTC sort v (sh, I, L, R)) := by
  have c1 : sh[1]? = some (.inr 1) := hw.1 1 _ rfl
  have c53 : sh[53]? = some (.inr 7) := hw.1 53 _ rfl
  have c75 : sh[75]? = some (.inr 9) := hw.1 75 _ rfl
  have r75_0 : R 75 0 = some 1 := hw.2.1 75 0 _ rfl
  have r75_1 : R 75 1 = some 53 := hw.2.1 75 1 _ rfl
  have zm1 : ((-1) : Int32).toInt = (-1) := rfl
  have z0 : (0 : Int32).toInt = 0 := rfl
  have z1 : (1 : Int32).toInt = 1 := rfl
  have z1000 : (1000 : Int32).toInt = 1000 := rfl
  have hsh : 0 ≤ (I 53 3).toInt ∧ (I 53 3).toInt ≤ 16 := hw.2.2.1 53 3
  have hm : 0 ≤ (I 1 1).toInt ∧ (I 1 1).toInt ≤ 20 := hw.2.2.1 1 1
  refine Tc.of mr_178 rfl (show 3 ≤ mr_178.2.2.2.1 by decide) ?_
  refine XW.fam (S' := (1, [(0, .ref 75), (1, .int sort), (2, .int v)], [.int sort], (sh, I, L, R))) (M := mr_178) rfl (show mcode 178 0 = some (0, .iload_n 1, 1, 0, 0, 0, _) from rfl) (Or.inl ⟨.int sort, rfl, rfl⟩) ?_
  cases k1 : bcmp .ne sort 0 with
  | true =>
    have gk1 : ¬ (sort).toInt = 0 := icT (c := .ne) (a := (sort).toInt) (b := 0) rfl (by decide) k1
    refine XW.fam (S' := (25, [(0, .ref 75), (1, .int sort), (2, .int v)], [], (sh, I, L, R))) (M := mr_178) rfl (show mcode 178 1 = some (1, .ifCond .ne 24, 3, 25, 0, 0, _) from rfl) (Or.inr (Or.inl ⟨25, [], by simp [brn, k1], rfl⟩)) ?_
    refine XW.fam (S' := (26, [(0, .ref 75), (1, .int sort), (2, .int v)], [.int sort], (sh, I, L, R))) (M := mr_178) rfl (show mcode 178 25 = some (25, .iload_n 1, 1, 0, 0, 0, _) from rfl) (Or.inl ⟨.int sort, rfl, rfl⟩) ?_
    refine XW.fam (S' := (27, [(0, .ref 75), (1, .int sort), (2, .int v)], [.int 1, .int sort], (sh, I, L, R))) (M := mr_178) rfl (show mcode 178 26 = some (26, .iconst 1, 1, 0, 0, 0, _) from rfl) (Or.inl ⟨.int 1, rfl, rfl⟩) ?_
    cases k2 : bcmp .ne sort 1 with
    | true =>
      have gk2 : ¬ (sort).toInt = 1 := icT (c := .ne) (a := (sort).toInt) (b := 1) rfl (by decide) k2
      refine XW.fam (S' := (49, [(0, .ref 75), (1, .int sort), (2, .int v)], [], (sh, I, L, R))) (M := mr_178) rfl (show mcode 178 27 = some (27, .if_icmp .ne 22, 3, 49, 0, 0, _) from rfl) (Or.inr (Or.inl ⟨49, [], by simp [brn, k2], rfl⟩)) ?_
      refine XW.fam (S' := (50, [(0, .ref 75), (1, .int sort), (2, .int v)], [.int (-1)], (sh, I, L, R))) (M := mr_178) rfl (show mcode 178 49 = some (49, .iconst (-1), 1, 0, 0, 0, _) from rfl) (Or.inl ⟨.int (-1), rfl, rfl⟩) ?_
      refine XW.ret (r := some (.int (-1))) ⟨⟨.int, rfl, rfl⟩, by decide +kernel⟩ ?_
      exact Or.inr (Or.inr ⟨by omega, fun q => by omega, hf, ⟨sh, R, hw⟩, rfl, rfl⟩)
    | false =>
      have gk2 : ¬ (¬ (sort).toInt = 1) := icF (c := .ne) (a := (sort).toInt) (b := 1) rfl (by decide) k2
      refine XW.fam (S' := (30, [(0, .ref 75), (1, .int sort), (2, .int v)], [], (sh, I, L, R))) (M := mr_178) rfl (show mcode 178 27 = some (27, .if_icmp .ne 22, 3, 49, 0, 0, _) from rfl) (Or.inr (Or.inl ⟨30, [], by simp [brn, k2], rfl⟩)) ?_
      refine XW.fam (S' := (31, [(0, .ref 75), (1, .int sort), (2, .int v)], [.int v], (sh, I, L, R))) (M := mr_178) rfl (show mcode 178 30 = some (30, .iload_n 2, 1, 0, 0, 0, _) from rfl) (Or.inl ⟨.int v, rfl, rfl⟩) ?_
      cases k3 : bcmp .lt v 0 with
      | true =>
        have gk3 : (v).toInt < 0 := icT (c := .lt) (a := (v).toInt) (b := 0) rfl (by decide) k3
        refine XW.fam (S' := (49, [(0, .ref 75), (1, .int sort), (2, .int v)], [], (sh, I, L, R))) (M := mr_178) rfl (show mcode 178 31 = some (31, .ifCond .lt 18, 3, 49, 0, 0, _) from rfl) (Or.inr (Or.inl ⟨49, [], by simp [brn, k3], rfl⟩)) ?_
        refine XW.fam (S' := (50, [(0, .ref 75), (1, .int sort), (2, .int v)], [.int (-1)], (sh, I, L, R))) (M := mr_178) rfl (show mcode 178 49 = some (49, .iconst (-1), 1, 0, 0, 0, _) from rfl) (Or.inl ⟨.int (-1), rfl, rfl⟩) ?_
        refine XW.ret (r := some (.int (-1))) ⟨⟨.int, rfl, rfl⟩, by decide +kernel⟩ ?_
        exact Or.inr (Or.inr ⟨by omega, fun q => by omega, hf, ⟨sh, R, hw⟩, rfl, rfl⟩)
      | false =>
        have gk3 : ¬ ((v).toInt < 0) := icF (c := .lt) (a := (v).toInt) (b := 0) rfl (by decide) k3
        refine XW.fam (S' := (34, [(0, .ref 75), (1, .int sort), (2, .int v)], [], (sh, I, L, R))) (M := mr_178) rfl (show mcode 178 31 = some (31, .ifCond .lt 18, 3, 49, 0, 0, _) from rfl) (Or.inr (Or.inl ⟨34, [], by simp [brn, k3], rfl⟩)) ?_
        refine XW.fam (S' := (35, [(0, .ref 75), (1, .int sort), (2, .int v)], [.ref 75], (sh, I, L, R))) (M := mr_178) rfl (show mcode 178 34 = some (34, .aload_n 0, 1, 0, 0, 0, _) from rfl) (Or.inl ⟨.ref 75, rfl, rfl⟩) ?_
        refine XW.fam (S' := (38, [(0, .ref 75), (1, .int sort), (2, .int v)], [.ref 1], (sh, I, L, R))) (M := mr_178) rfl (show mcode 178 35 = some (35, .getfield 33, 3, 9, 0, 0, _) from rfl) (Or.inr (Or.inr (Or.inr (Or.inr (Or.inr (Or.inr (Or.inr (Or.inl ⟨_, _, rfl, fl_ld c75 r75_0 (by decide) (by decide), rfl⟩)))))))) ?_
        refine XW.fam (S' := (39, [(0, .ref 75), (1, .int sort), (2, .int v)], [.int v, .ref 1], (sh, I, L, R))) (M := mr_178) rfl (show mcode 178 38 = some (38, .iload_n 2, 1, 0, 0, 0, _) from rfl) (Or.inl ⟨.int v, rfl, rfl⟩) ?_
        refine XW.fam (S' := (42, [(0, .ref 75), (1, .int sort), (2, .int v)], [.int 1000, .int v, .ref 1], (sh, I, L, R))) (M := mr_178) rfl (show mcode 178 39 = some (39, .sipush 1000, 3, 0, 0, 0, _) from rfl) (Or.inl ⟨.int 1000, rfl, rfl⟩) ?_
        refine XW.fam (S' := (43, [(0, .ref 75), (1, .int sort), (2, .int v)], [.int (v / 1000), .ref 1], (sh, I, L, R))) (M := mr_178) rfl (show mcode 178 42 = some (42, .idiv, 1, 0, 0, 0, _) from rfl) (Or.inr (Or.inr (Or.inr (Or.inr (Or.inr (Or.inl ⟨_, stk_bin (by simp only [ibin]; rw [if_neg (by decide)]), rfl⟩)))))) ?_
        refine XW.call (d' := d + 1) (mc' := 0) (ms' := 0) (av := [.ref 1, .int (v / 1000)]) (rest := []) (M := mr_178) (Ma := mr_128) rfl (show mcode 178 43 = some (43, .invokevirtual 51, 3, 128, 0, 0, _) from rfl) rfl (by decide) (by decide) ⟨rfl, 1, _, rfl, c1⟩ rfl rfl (show 0 ≤ 8 by decide) (tc_isPoC (d := d) hw) (by omega) (Nat.zero_le _) (Nat.zero_le _) (fun rQ4 wQ4 Q4 => ?_)
        obtain ⟨hQ4, rfl⟩ := Q4
        rcases hQ4 with ⟨rfl, gQ4⟩ | ⟨rfl, gQ4⟩
        · skip
          refine XW.fam (S' := (49, [(0, .ref 75), (1, .int sort), (2, .int v)], [], (sh, I, L, R))) (M := mr_178) rfl (show mcode 178 46 = some (46, .ifCond .ne 5, 3, 51, 0, 0, _) from rfl) (Or.inr (Or.inl ⟨49, [], rfl, rfl⟩)) ?_
          refine XW.fam (S' := (50, [(0, .ref 75), (1, .int sort), (2, .int v)], [.int (-1)], (sh, I, L, R))) (M := mr_178) rfl (show mcode 178 49 = some (49, .iconst (-1), 1, 0, 0, 0, _) from rfl) (Or.inl ⟨.int (-1), rfl, rfl⟩) ?_
          refine XW.ret (r := some (.int (-1))) ⟨⟨.int, rfl, rfl⟩, by decide +kernel⟩ ?_
          exact Or.inr (Or.inl ⟨by omega, by omega, hf, ⟨sh, R, hw⟩, Or.inl ⟨fun q => by have q1 : okWC I v := q.1; unfold okWC at q1; omega, rfl, rfl⟩⟩)
        · skip
          refine XW.fam (S' := (51, [(0, .ref 75), (1, .int sort), (2, .int v)], [], (sh, I, L, R))) (M := mr_178) rfl (show mcode 178 46 = some (46, .ifCond .ne 5, 3, 51, 0, 0, _) from rfl) (Or.inr (Or.inl ⟨51, [], rfl, rfl⟩)) ?_
          refine XW.fam (S' := (52, [(0, .ref 75), (1, .int sort), (2, .int v)], [.ref 75], (sh, I, L, R))) (M := mr_178) rfl (show mcode 178 51 = some (51, .aload_n 0, 1, 0, 0, 0, _) from rfl) (Or.inl ⟨.ref 75, rfl, rfl⟩) ?_
          refine XW.fam (S' := (53, [(0, .ref 75), (1, .int sort), (2, .int v)], [.int v, .ref 75], (sh, I, L, R))) (M := mr_178) rfl (show mcode 178 52 = some (52, .iload_n 2, 1, 0, 0, 0, _) from rfl) (Or.inl ⟨.int v, rfl, rfl⟩) ?_
          refine XW.fam (S' := (56, [(0, .ref 75), (1, .int sort), (2, .int v)], [.int 1000, .int v, .ref 75], (sh, I, L, R))) (M := mr_178) rfl (show mcode 178 53 = some (53, .sipush 1000, 3, 0, 0, 0, _) from rfl) (Or.inl ⟨.int 1000, rfl, rfl⟩) ?_
          refine XW.fam (S' := (57, [(0, .ref 75), (1, .int sort), (2, .int v)], [.int (v / 1000), .ref 75], (sh, I, L, R))) (M := mr_178) rfl (show mcode 178 56 = some (56, .idiv, 1, 0, 0, 0, _) from rfl) (Or.inr (Or.inr (Or.inr (Or.inr (Or.inr (Or.inl ⟨_, stk_bin (by simp only [ibin]; rw [if_neg (by decide)]), rfl⟩)))))) ?_
          refine XW.fam (S' := (58, [(0, .ref 75), (1, .int sort), (2, .int v)], [.int v, .int (v / 1000), .ref 75], (sh, I, L, R))) (M := mr_178) rfl (show mcode 178 57 = some (57, .iload_n 2, 1, 0, 0, 0, _) from rfl) (Or.inl ⟨.int v, rfl, rfl⟩) ?_
          refine XW.fam (S' := (61, [(0, .ref 75), (1, .int sort), (2, .int v)], [.int 1000, .int v, .int (v / 1000), .ref 75], (sh, I, L, R))) (M := mr_178) rfl (show mcode 178 58 = some (58, .sipush 1000, 3, 0, 0, 0, _) from rfl) (Or.inl ⟨.int 1000, rfl, rfl⟩) ?_
          refine XW.fam (S' := (62, [(0, .ref 75), (1, .int sort), (2, .int v)], [.int (v - v / 1000 * 1000), .int (v / 1000), .ref 75], (sh, I, L, R))) (M := mr_178) rfl (show mcode 178 61 = some (61, .irem, 1, 0, 0, 0, _) from rfl) (Or.inr (Or.inr (Or.inr (Or.inr (Or.inr (Or.inl ⟨_, stk_bin (by simp only [ibin]; rw [if_neg (by decide)]), rfl⟩)))))) ?_
          have xd := dv1000 (x := v) (by omega)
          have xv : v.toInt ≤ 2147483647 := by have h := i32b v; unfold lo32 hi32 at h; omega
          refine XW.call (d' := d + 1) (mc' := 0) (ms' := 0) (av := [.ref 75, .int (v / 1000), .int (v - v / 1000 * 1000)]) (rest := []) (M := mr_178) (Ma := mr_181) rfl (show mcode 178 62 = some (62, .invokevirtual 56, 3, 181, 0, 0, _) from rfl) rfl (by decide) (by decide) ⟨rfl, 75, _, rfl, c75⟩ rfl rfl (show 0 ≤ 8 by decide) (tc_tellPort (d := d) hw hf (by omega)) (by omega) (Nat.zero_le _) (Nat.zero_le _) (fun rQ5 wQ5 Q5 => ?_)
          have Q5b := Qapr_ok (ok' := okWC I v ∧ ¬ told I 77 (I 75 3).toInt (v / 1000)) ⟨fun q => ⟨by unfold okWC; omega, q⟩, fun q => q.2⟩ Q5
          obtain ⟨yQ5, eyQ5⟩ := Qapr_int Q5
          subst eyQ5
          refine XW.ret (r := some (.int yQ5)) ⟨⟨.int, rfl, rfl⟩, by decide +kernel⟩ ?_
          exact Or.inr (Or.inl ⟨by omega, by omega, Q5b⟩)
  | false =>
    have gk1 : ¬ (¬ (sort).toInt = 0) := icF (c := .ne) (a := (sort).toInt) (b := 0) rfl (by decide) k1
    refine XW.fam (S' := (4, [(0, .ref 75), (1, .int sort), (2, .int v)], [], (sh, I, L, R))) (M := mr_178) rfl (show mcode 178 1 = some (1, .ifCond .ne 24, 3, 25, 0, 0, _) from rfl) (Or.inr (Or.inl ⟨4, [], by simp [brn, k1], rfl⟩)) ?_
    refine XW.fam (S' := (5, [(0, .ref 75), (1, .int sort), (2, .int v)], [.ref 75], (sh, I, L, R))) (M := mr_178) rfl (show mcode 178 4 = some (4, .aload_n 0, 1, 0, 0, 0, _) from rfl) (Or.inl ⟨.ref 75, rfl, rfl⟩) ?_
    refine XW.fam (S' := (8, [(0, .ref 75), (1, .int sort), (2, .int v)], [.ref 53], (sh, I, L, R))) (M := mr_178) rfl (show mcode 178 5 = some (5, .getfield 37, 3, 9, 1, 0, _) from rfl) (Or.inr (Or.inr (Or.inr (Or.inr (Or.inr (Or.inr (Or.inr (Or.inl ⟨_, _, rfl, fl_ld c75 r75_1 (by decide) (by decide), rfl⟩)))))))) ?_
    refine XW.fam (S' := (9, [(0, .ref 75), (1, .int sort), (2, .int v)], [.int v, .ref 53], (sh, I, L, R))) (M := mr_178) rfl (show mcode 178 8 = some (8, .iload_n 2, 1, 0, 0, 0, _) from rfl) (Or.inl ⟨.int v, rfl, rfl⟩) ?_
    refine XW.call (d' := d) (mc' := 0) (ms' := 0) (av := [.ref 53, .int v]) (rest := []) (M := mr_178) (Ma := mr_62) rfl (show mcode 178 9 = some (9, .invokevirtual 41, 3, 62, 0, 0, _) from rfl) rfl (by decide) (by decide) ⟨rfl, 53, _, rfl, c53⟩ rfl rfl (show 0 ≤ 8 by decide) (tc_isShC (d := d) hw) (by omega) (Nat.zero_le _) (Nat.zero_le _) (fun rQ6 wQ6 Q6 => ?_)
    obtain ⟨hQ6, rfl⟩ := Q6
    rcases hQ6 with ⟨rfl, gQ6⟩ | ⟨rfl, gQ6⟩
    · skip
      refine XW.fam (S' := (23, [(0, .ref 75), (1, .int sort), (2, .int v)], [], (sh, I, L, R))) (M := mr_178) rfl (show mcode 178 12 = some (12, .ifCond .eq 11, 3, 23, 0, 0, _) from rfl) (Or.inr (Or.inl ⟨23, [], rfl, rfl⟩)) ?_
      refine XW.fam (S' := (24, [(0, .ref 75), (1, .int sort), (2, .int v)], [.int (-1)], (sh, I, L, R))) (M := mr_178) rfl (show mcode 178 23 = some (23, .iconst (-1), 1, 0, 0, 0, _) from rfl) (Or.inl ⟨.int (-1), rfl, rfl⟩) ?_
      refine XW.ret (r := some (.int (-1))) ⟨⟨.int, rfl, rfl⟩, by decide +kernel⟩ ?_
      exact Or.inl ⟨by omega, hf, ⟨sh, R, hw⟩, Or.inl ⟨fun q => by have q1 : okVC I v := q.1; unfold okVC at q1; omega, rfl, rfl⟩⟩
    · skip
      refine XW.fam (S' := (15, [(0, .ref 75), (1, .int sort), (2, .int v)], [], (sh, I, L, R))) (M := mr_178) rfl (show mcode 178 12 = some (12, .ifCond .eq 11, 3, 23, 0, 0, _) from rfl) (Or.inr (Or.inl ⟨15, [], rfl, rfl⟩)) ?_
      refine XW.fam (S' := (16, [(0, .ref 75), (1, .int sort), (2, .int v)], [.ref 75], (sh, I, L, R))) (M := mr_178) rfl (show mcode 178 15 = some (15, .aload_n 0, 1, 0, 0, 0, _) from rfl) (Or.inl ⟨.ref 75, rfl, rfl⟩) ?_
      refine XW.fam (S' := (17, [(0, .ref 75), (1, .int sort), (2, .int v)], [.int v, .ref 75], (sh, I, L, R))) (M := mr_178) rfl (show mcode 178 16 = some (16, .iload_n 2, 1, 0, 0, 0, _) from rfl) (Or.inl ⟨.int v, rfl, rfl⟩) ?_
      refine XW.call (d' := d + 1) (mc' := 0) (ms' := 0) (av := [.ref 75, .int v]) (rest := []) (M := mr_178) (Ma := mr_179) rfl (show mcode 178 17 = some (17, .invokevirtual 47, 3, 179, 0, 0, _) from rfl) rfl (by decide) (by decide) ⟨rfl, 75, _, rfl, c75⟩ rfl rfl (show 0 ≤ 8 by decide) (tc_tellShip (d := d) hw hf (by omega)) (by omega) (Nat.zero_le _) (Nat.zero_le _) (fun rQ7 wQ7 Q7 => ?_)
      have Q7b := Qapr_ok (ok' := okVC I v ∧ ¬ told I 76 (I 75 2).toInt v) ⟨fun q => ⟨by unfold okVC; omega, q⟩, fun q => q.2⟩ Q7
      obtain ⟨yQ7, eyQ7⟩ := Qapr_int Q7
      subst eyQ7
      refine XW.fam (S' := (24, [(0, .ref 75), (1, .int sort), (2, .int v)], [.int yQ7], wQ7)) (M := mr_178) rfl (show mcode 178 20 = some (20, .goto 4, 3, 24, 0, 0, _) from rfl) (Or.inr (Or.inl ⟨24, [.int yQ7], rfl, rfl⟩)) ?_
      refine XW.ret (r := some (.int yQ7)) ⟨⟨.int, rfl, rfl⟩, by decide +kernel⟩ ?_
      exact Or.inl ⟨by omega, Q7b⟩
theorem tc_turnC {d : Nat} {sh : List mE} {R : Nat → Nat → Option Nat} {w : mW} {sort v : Int32} (hw : wOK (mkT vV []) (wE sh R) w) (hf : fresh w) : Tc 177 (d + 3) 0 0 [.ref 0, .int sort, .int v] w (QTC sort v w) := by
  obtain ⟨sh0, I, L, R0⟩ := w
  obtain rfl : sh = sh0 := hw.2.2.2.1.symm
  obtain rfl : R = R0 := hw.2.2.2.2.1.symm
  have c0 : sh[0]? = some (.inr 0) := hw.1 0 _ rfl
  have c75 : sh[75]? = some (.inr 9) := hw.1 75 _ rfl
  have r0_8 : R 0 8 = some 75 := hw.2.1 0 8 _ rfl
  refine Tc.of mr_177 rfl (show 3 ≤ mr_177.2.2.2.1 by decide) ?_
  refine XW.fam (S' := (1, [(0, .ref 0), (1, .int sort), (2, .int v)], [.ref 0], (sh, I, L, R))) (M := mr_177) rfl (show mcode 177 0 = some (0, .aload_n 0, 1, 0, 0, 0, _) from rfl) (Or.inl ⟨.ref 0, rfl, rfl⟩) ?_
  refine XW.fam (S' := (4, [(0, .ref 0), (1, .int sort), (2, .int v)], [.ref 75], (sh, I, L, R))) (M := mr_177) rfl (show mcode 177 1 = some (1, .getfield 78, 3, 0, 8, 0, _) from rfl) (Or.inr (Or.inr (Or.inr (Or.inr (Or.inr (Or.inr (Or.inr (Or.inl ⟨_, _, rfl, fl_ld c0 r0_8 (by decide) (by decide), rfl⟩)))))))) ?_
  refine XW.fam (S' := (5, [(0, .ref 0), (1, .int sort), (2, .int v)], [.int sort, .ref 75], (sh, I, L, R))) (M := mr_177) rfl (show mcode 177 4 = some (4, .iload_n 1, 1, 0, 0, 0, _) from rfl) (Or.inl ⟨.int sort, rfl, rfl⟩) ?_
  refine XW.fam (S' := (6, [(0, .ref 0), (1, .int sort), (2, .int v)], [.int v, .int sort, .ref 75], (sh, I, L, R))) (M := mr_177) rfl (show mcode 177 5 = some (5, .iload_n 2, 1, 0, 0, 0, _) from rfl) (Or.inl ⟨.int v, rfl, rfl⟩) ?_
  refine XW.call (d' := d + 2) (mc' := 0) (ms' := 0) (av := [.ref 75, .int sort, .int v]) (rest := []) (M := mr_177) (Ma := mr_178) rfl (show mcode 177 6 = some (6, .invokevirtual 292, 3, 178, 0, 0, _) from rfl) rfl (by decide) (by decide) ⟨rfl, 75, _, rfl, c75⟩ rfl rfl (show 0 ≤ 8 by decide) (tc_tell (d := d) hw hf) (by omega) (Nat.zero_le _) (Nat.zero_le _) (fun rQ1 wQ1 Q1 => ?_)
  obtain ⟨yQ1, eyQ1⟩ := (QTC_of Q1).2.2.1
  subst eyQ1
  refine XW.ret (r := some (.int yQ1)) ⟨⟨.int, rfl, rfl⟩, by decide +kernel⟩ ?_
  exact Q1
theorem scan_SM {d : Nat} {sh : List mE} {I : Nat → Nat → Int32} {L : Nat → Nat → Int64} {R : Nat → Nat → Option Nat} {sort v : Int32} (hw : wOK (mkT vV []) (wE sh R) (sh, I, L, R)) (hn : (I 94 79).toInt ≤ 3) {Q : Option Value → mW → Prop} (K1 : told I 148 (I 94 79).toInt v → ∀ t : Int32, XW 333 mr_333 none (d + 3) 0 0 Q (45, [(3, .int t), (0, .ref 94), (1, .int sort), (2, .int v)], [], (sh, I, L, R))) (K2 : ¬ told I 148 (I 94 79).toInt v → ∀ t : Int32, XW 333 mr_333 none (d + 3) 0 0 Q (53, [(3, .int t), (0, .ref 94), (1, .int sort), (2, .int v)], [], (sh, I, L, R))) : ∀ (z : Nat) (t : Int32), 0 ≤ t.toInt → t.toInt ≤ 3 → (I 94 79).toInt - t.toInt < z → (∀ k : Nat, (k : Int) < t.toInt → ¬ I 148 k = v) → XW 333 mr_333 none (d + 3) 0 0 Q (27, [(3, .int t), (0, .ref 94), (1, .int sort), (2, .int v)], [], (sh, I, L, R)) := by
  have c94 : sh[94]? = some (.inr 12) := hw.1 94 _ rfl
  have c148 : sh[148]? = some (.inl (.int, 3)) := hw.1 148 _ rfl
  have r94_80 : R 94 80 = some 148 := hw.2.1 94 80 _ rfl
  intro z
  induction z with
  | zero =>
    intro t ht ht2 hz hinv
    refine XW.fam (S' := (28, [(3, .int t), (0, .ref 94), (1, .int sort), (2, .int v)], [.int t], (sh, I, L, R))) (M := mr_333) rfl (show mcode 333 27 = some (27, .iload_n 3, 1, 0, 0, 0, _) from rfl) (Or.inl ⟨.int t, rfl, rfl⟩) ?_
    refine XW.fam (S' := (29, [(3, .int t), (0, .ref 94), (1, .int sort), (2, .int v)], [.ref 94, .int t], (sh, I, L, R))) (M := mr_333) rfl (show mcode 333 28 = some (28, .aload_n 0, 1, 0, 0, 0, _) from rfl) (Or.inl ⟨.ref 94, rfl, rfl⟩) ?_
    refine XW.fam (S' := (32, [(3, .int t), (0, .ref 94), (1, .int sort), (2, .int v)], [.int (I 94 79), .int t], (sh, I, L, R))) (M := mr_333) rfl (show mcode 333 29 = some (29, .getfield 551, 3, 12, 79, 0, _) from rfl) (Or.inr (Or.inr (Or.inr (Or.inr (Or.inr (Or.inr (Or.inr (Or.inl ⟨_, _, rfl, fl_ldI c94 (by decide) (by decide), rfl⟩)))))))) ?_
    have k1 : bcmp .ge t (I 94 79) = true := bcT (c := .ge) (a := (t).toInt) (b := ((I 94 79)).toInt) rfl rfl (by show ((I 94 79)).toInt ≤ (t).toInt; omega)
    refine XW.fam (S' := (53, [(3, .int t), (0, .ref 94), (1, .int sort), (2, .int v)], [], (sh, I, L, R))) (M := mr_333) rfl (show mcode 333 32 = some (32, .if_icmp .ge 21, 3, 53, 0, 0, _) from rfl) (Or.inr (Or.inl ⟨53, [], by simp [brn, k1], rfl⟩)) ?_
    exact K2 (fun q => by obtain ⟨k, hk, e⟩ := q; exact hinv k (by omega) e) _
  | succ z ih =>
    intro t ht ht2 hz hinv
    refine XW.fam (S' := (28, [(3, .int t), (0, .ref 94), (1, .int sort), (2, .int v)], [.int t], (sh, I, L, R))) (M := mr_333) rfl (show mcode 333 27 = some (27, .iload_n 3, 1, 0, 0, 0, _) from rfl) (Or.inl ⟨.int t, rfl, rfl⟩) ?_
    refine XW.fam (S' := (29, [(3, .int t), (0, .ref 94), (1, .int sort), (2, .int v)], [.ref 94, .int t], (sh, I, L, R))) (M := mr_333) rfl (show mcode 333 28 = some (28, .aload_n 0, 1, 0, 0, 0, _) from rfl) (Or.inl ⟨.ref 94, rfl, rfl⟩) ?_
    refine XW.fam (S' := (32, [(3, .int t), (0, .ref 94), (1, .int sort), (2, .int v)], [.int (I 94 79), .int t], (sh, I, L, R))) (M := mr_333) rfl (show mcode 333 29 = some (29, .getfield 551, 3, 12, 79, 0, _) from rfl) (Or.inr (Or.inr (Or.inr (Or.inr (Or.inr (Or.inr (Or.inr (Or.inl ⟨_, _, rfl, fl_ldI c94 (by decide) (by decide), rfl⟩)))))))) ?_
    cases k1 : bcmp .ge t (I 94 79) with
    | true =>
      have gk1 : ((I 94 79)).toInt ≤ (t).toInt := icT (c := .ge) (a := (t).toInt) (b := ((I 94 79)).toInt) rfl rfl k1
      refine XW.fam (S' := (53, [(3, .int t), (0, .ref 94), (1, .int sort), (2, .int v)], [], (sh, I, L, R))) (M := mr_333) rfl (show mcode 333 32 = some (32, .if_icmp .ge 21, 3, 53, 0, 0, _) from rfl) (Or.inr (Or.inl ⟨53, [], by simp [brn, k1], rfl⟩)) ?_
      exact K2 (fun q => by obtain ⟨k, hk, e⟩ := q; exact hinv k (by omega) e) _
    | false =>
      have gk1 : ¬ (((I 94 79)).toInt ≤ (t).toInt) := icF (c := .ge) (a := (t).toInt) (b := ((I 94 79)).toInt) rfl rfl k1
      refine XW.fam (S' := (35, [(3, .int t), (0, .ref 94), (1, .int sort), (2, .int v)], [], (sh, I, L, R))) (M := mr_333) rfl (show mcode 333 32 = some (32, .if_icmp .ge 21, 3, 53, 0, 0, _) from rfl) (Or.inr (Or.inl ⟨35, [], by simp [brn, k1], rfl⟩)) ?_
      refine XW.fam (S' := (36, [(3, .int t), (0, .ref 94), (1, .int sort), (2, .int v)], [.ref 94], (sh, I, L, R))) (M := mr_333) rfl (show mcode 333 35 = some (35, .aload_n 0, 1, 0, 0, 0, _) from rfl) (Or.inl ⟨.ref 94, rfl, rfl⟩) ?_
      refine XW.fam (S' := (39, [(3, .int t), (0, .ref 94), (1, .int sort), (2, .int v)], [.ref 148], (sh, I, L, R))) (M := mr_333) rfl (show mcode 333 36 = some (36, .getfield 178, 3, 12, 80, 0, _) from rfl) (Or.inr (Or.inr (Or.inr (Or.inr (Or.inr (Or.inr (Or.inr (Or.inl ⟨_, _, rfl, fl_ld c94 r94_80 (by decide) (by decide), rfl⟩)))))))) ?_
      refine XW.fam (S' := (40, [(3, .int t), (0, .ref 94), (1, .int sort), (2, .int v)], [.int t, .ref 148], (sh, I, L, R))) (M := mr_333) rfl (show mcode 333 39 = some (39, .iload_n 3, 1, 0, 0, 0, _) from rfl) (Or.inl ⟨.int t, rfl, rfl⟩) ?_
      have hin2 : inR t 3 = true := inR_of (by omega) (by omega)
      refine XW.fam (S' := (41, [(3, .int t), (0, .ref 94), (1, .int sort), (2, .int v)], [.int (I 148 (t).toNatClampNeg)], (sh, I, L, R))) (M := mr_333) rfl (show mcode 333 40 = some (40, .iaload, 1, 0, 0, 0, _) from rfl) (Or.inr (Or.inr (Or.inl ⟨_, lda_i c148 hin2, rfl⟩))) ?_
      refine XW.fam (S' := (42, [(3, .int t), (0, .ref 94), (1, .int sort), (2, .int v)], [.int v, .int (I 148 (t).toNatClampNeg)], (sh, I, L, R))) (M := mr_333) rfl (show mcode 333 41 = some (41, .iload_n 2, 1, 0, 0, 0, _) from rfl) (Or.inl ⟨.int v, rfl, rfl⟩) ?_
      cases k3 : bcmp .ne (I 148 (t).toNatClampNeg) v with
      | true =>
        have gk3 : ¬ ((I 148 (t).toNatClampNeg)).toInt = (v).toInt := icT (c := .ne) (a := ((I 148 (t).toNatClampNeg)).toInt) (b := (v).toInt) rfl rfl k3
        refine XW.fam (S' := (47, [(3, .int t), (0, .ref 94), (1, .int sort), (2, .int v)], [], (sh, I, L, R))) (M := mr_333) rfl (show mcode 333 42 = some (42, .if_icmp .ne 5, 3, 47, 0, 0, _) from rfl) (Or.inr (Or.inl ⟨47, [], by simp [brn, k3], rfl⟩)) ?_
        refine XW.fam (S' := (50, [(3, .int (t + Int32.ofInt 1)), (0, .ref 94), (1, .int sort), (2, .int v)], [], (sh, I, L, R))) (M := mr_333) rfl (show mcode 333 47 = some (47, .iinc 3 1, 3, 0, 0, 0, _) from rfl) (Or.inr (Or.inr (Or.inr (Or.inr (Or.inr (Or.inr (Or.inr (Or.inr (Or.inr ⟨3, 1, t, rfl, rfl, by decide, rfl⟩))))))))) ?_
        refine XW.fam (S' := (27, [(3, .int (t + Int32.ofInt 1)), (0, .ref 94), (1, .int sort), (2, .int v)], [], (sh, I, L, R))) (M := mr_333) rfl (show mcode 333 50 = some (50, .goto (-23), 3, 27, 0, 0, _) from rfl) (Or.inr (Or.inl ⟨27, [], rfl, rfl⟩)) ?_
        have eo := incO (m := t) (by omega) (by omega)
        refine ih (t + Int32.ofInt 1) (by omega) (by omega) (by omega) (fun k hk e => ?_)
        by_cases c : (k : Int) < t.toInt
        · exact hinv k c e
        · have ek : k = (t).toNatClampNeg := by have hc : (t).toNatClampNeg = t.toInt.toNat := rfl; omega
          rw [ek] at e
          have ee := congrArg Int32.toInt e
          omega
      | false =>
        have gk3 : ¬ (¬ ((I 148 (t).toNatClampNeg)).toInt = (v).toInt) := icF (c := .ne) (a := ((I 148 (t).toNatClampNeg)).toInt) (b := (v).toInt) rfl rfl k3
        refine XW.fam (S' := (45, [(3, .int t), (0, .ref 94), (1, .int sort), (2, .int v)], [], (sh, I, L, R))) (M := mr_333) rfl (show mcode 333 42 = some (42, .if_icmp .ne 5, 3, 47, 0, 0, _) from rfl) (Or.inr (Or.inl ⟨45, [], by simp [brn, k3], rfl⟩)) ?_
        exact K1 ⟨(t).toNatClampNeg, by have hc : (t).toNatClampNeg = t.toInt.toNat := rfl; omega, Int32.toInt_inj.mp (by omega)⟩ _
theorem scan_PM {d : Nat} {sh : List mE} {I : Nat → Nat → Int32} {L : Nat → Nat → Int64} {R : Nat → Nat → Option Nat} {sort v : Int32} (hw : wOK (mkT vV []) (wE sh R) (sh, I, L, R)) (hn : (I 94 81).toInt ≤ 3) {Q : Option Value → mW → Prop} (K1 : told I 149 (I 94 81).toInt (v / 1000) → ∀ t : Int32, XW 333 mr_333 none (d + 3) 0 0 Q (131, [(3, .int t), (0, .ref 94), (1, .int sort), (2, .int v)], [], (sh, I, L, R))) (K2 : ¬ told I 149 (I 94 81).toInt (v / 1000) → ∀ t : Int32, XW 333 mr_333 none (d + 3) 0 0 Q (139, [(3, .int t), (0, .ref 94), (1, .int sort), (2, .int v)], [], (sh, I, L, R))) : ∀ (z : Nat) (t : Int32), 0 ≤ t.toInt → t.toInt ≤ 3 → (I 94 81).toInt - t.toInt < z → (∀ k : Nat, (k : Int) < t.toInt → ¬ I 149 k = (v / 1000)) → XW 333 mr_333 none (d + 3) 0 0 Q (109, [(3, .int t), (0, .ref 94), (1, .int sort), (2, .int v)], [], (sh, I, L, R)) := by
  have c94 : sh[94]? = some (.inr 12) := hw.1 94 _ rfl
  have c149 : sh[149]? = some (.inl (.int, 3)) := hw.1 149 _ rfl
  have r94_82 : R 94 82 = some 149 := hw.2.1 94 82 _ rfl
  have z1000 : (1000 : Int32).toInt = 1000 := rfl
  intro z
  induction z with
  | zero =>
    intro t ht ht2 hz hinv
    refine XW.fam (S' := (110, [(3, .int t), (0, .ref 94), (1, .int sort), (2, .int v)], [.int t], (sh, I, L, R))) (M := mr_333) rfl (show mcode 333 109 = some (109, .iload_n 3, 1, 0, 0, 0, _) from rfl) (Or.inl ⟨.int t, rfl, rfl⟩) ?_
    refine XW.fam (S' := (111, [(3, .int t), (0, .ref 94), (1, .int sort), (2, .int v)], [.ref 94, .int t], (sh, I, L, R))) (M := mr_333) rfl (show mcode 333 110 = some (110, .aload_n 0, 1, 0, 0, 0, _) from rfl) (Or.inl ⟨.ref 94, rfl, rfl⟩) ?_
    refine XW.fam (S' := (114, [(3, .int t), (0, .ref 94), (1, .int sort), (2, .int v)], [.int (I 94 81), .int t], (sh, I, L, R))) (M := mr_333) rfl (show mcode 333 111 = some (111, .getfield 554, 3, 12, 81, 0, _) from rfl) (Or.inr (Or.inr (Or.inr (Or.inr (Or.inr (Or.inr (Or.inr (Or.inl ⟨_, _, rfl, fl_ldI c94 (by decide) (by decide), rfl⟩)))))))) ?_
    have k1 : bcmp .ge t (I 94 81) = true := bcT (c := .ge) (a := (t).toInt) (b := ((I 94 81)).toInt) rfl rfl (by show ((I 94 81)).toInt ≤ (t).toInt; omega)
    refine XW.fam (S' := (139, [(3, .int t), (0, .ref 94), (1, .int sort), (2, .int v)], [], (sh, I, L, R))) (M := mr_333) rfl (show mcode 333 114 = some (114, .if_icmp .ge 25, 3, 139, 0, 0, _) from rfl) (Or.inr (Or.inl ⟨139, [], by simp [brn, k1], rfl⟩)) ?_
    exact K2 (fun q => by obtain ⟨k, hk, e⟩ := q; exact hinv k (by omega) e) _
  | succ z ih =>
    intro t ht ht2 hz hinv
    refine XW.fam (S' := (110, [(3, .int t), (0, .ref 94), (1, .int sort), (2, .int v)], [.int t], (sh, I, L, R))) (M := mr_333) rfl (show mcode 333 109 = some (109, .iload_n 3, 1, 0, 0, 0, _) from rfl) (Or.inl ⟨.int t, rfl, rfl⟩) ?_
    refine XW.fam (S' := (111, [(3, .int t), (0, .ref 94), (1, .int sort), (2, .int v)], [.ref 94, .int t], (sh, I, L, R))) (M := mr_333) rfl (show mcode 333 110 = some (110, .aload_n 0, 1, 0, 0, 0, _) from rfl) (Or.inl ⟨.ref 94, rfl, rfl⟩) ?_
    refine XW.fam (S' := (114, [(3, .int t), (0, .ref 94), (1, .int sort), (2, .int v)], [.int (I 94 81), .int t], (sh, I, L, R))) (M := mr_333) rfl (show mcode 333 111 = some (111, .getfield 554, 3, 12, 81, 0, _) from rfl) (Or.inr (Or.inr (Or.inr (Or.inr (Or.inr (Or.inr (Or.inr (Or.inl ⟨_, _, rfl, fl_ldI c94 (by decide) (by decide), rfl⟩)))))))) ?_
    cases k1 : bcmp .ge t (I 94 81) with
    | true =>
      have gk1 : ((I 94 81)).toInt ≤ (t).toInt := icT (c := .ge) (a := (t).toInt) (b := ((I 94 81)).toInt) rfl rfl k1
      refine XW.fam (S' := (139, [(3, .int t), (0, .ref 94), (1, .int sort), (2, .int v)], [], (sh, I, L, R))) (M := mr_333) rfl (show mcode 333 114 = some (114, .if_icmp .ge 25, 3, 139, 0, 0, _) from rfl) (Or.inr (Or.inl ⟨139, [], by simp [brn, k1], rfl⟩)) ?_
      exact K2 (fun q => by obtain ⟨k, hk, e⟩ := q; exact hinv k (by omega) e) _
    | false =>
      have gk1 : ¬ (((I 94 81)).toInt ≤ (t).toInt) := icF (c := .ge) (a := (t).toInt) (b := ((I 94 81)).toInt) rfl rfl k1
      refine XW.fam (S' := (117, [(3, .int t), (0, .ref 94), (1, .int sort), (2, .int v)], [], (sh, I, L, R))) (M := mr_333) rfl (show mcode 333 114 = some (114, .if_icmp .ge 25, 3, 139, 0, 0, _) from rfl) (Or.inr (Or.inl ⟨117, [], by simp [brn, k1], rfl⟩)) ?_
      refine XW.fam (S' := (118, [(3, .int t), (0, .ref 94), (1, .int sort), (2, .int v)], [.ref 94], (sh, I, L, R))) (M := mr_333) rfl (show mcode 333 117 = some (117, .aload_n 0, 1, 0, 0, 0, _) from rfl) (Or.inl ⟨.ref 94, rfl, rfl⟩) ?_
      refine XW.fam (S' := (121, [(3, .int t), (0, .ref 94), (1, .int sort), (2, .int v)], [.ref 149], (sh, I, L, R))) (M := mr_333) rfl (show mcode 333 118 = some (118, .getfield 181, 3, 12, 82, 0, _) from rfl) (Or.inr (Or.inr (Or.inr (Or.inr (Or.inr (Or.inr (Or.inr (Or.inl ⟨_, _, rfl, fl_ld c94 r94_82 (by decide) (by decide), rfl⟩)))))))) ?_
      refine XW.fam (S' := (122, [(3, .int t), (0, .ref 94), (1, .int sort), (2, .int v)], [.int t, .ref 149], (sh, I, L, R))) (M := mr_333) rfl (show mcode 333 121 = some (121, .iload_n 3, 1, 0, 0, 0, _) from rfl) (Or.inl ⟨.int t, rfl, rfl⟩) ?_
      have hin2 : inR t 3 = true := inR_of (by omega) (by omega)
      refine XW.fam (S' := (123, [(3, .int t), (0, .ref 94), (1, .int sort), (2, .int v)], [.int (I 149 (t).toNatClampNeg)], (sh, I, L, R))) (M := mr_333) rfl (show mcode 333 122 = some (122, .iaload, 1, 0, 0, 0, _) from rfl) (Or.inr (Or.inr (Or.inl ⟨_, lda_i c149 hin2, rfl⟩))) ?_
      refine XW.fam (S' := (124, [(3, .int t), (0, .ref 94), (1, .int sort), (2, .int v)], [.int v, .int (I 149 (t).toNatClampNeg)], (sh, I, L, R))) (M := mr_333) rfl (show mcode 333 123 = some (123, .iload_n 2, 1, 0, 0, 0, _) from rfl) (Or.inl ⟨.int v, rfl, rfl⟩) ?_
      refine XW.fam (S' := (127, [(3, .int t), (0, .ref 94), (1, .int sort), (2, .int v)], [.int 1000, .int v, .int (I 149 (t).toNatClampNeg)], (sh, I, L, R))) (M := mr_333) rfl (show mcode 333 124 = some (124, .sipush 1000, 3, 0, 0, 0, _) from rfl) (Or.inl ⟨.int 1000, rfl, rfl⟩) ?_
      refine XW.fam (S' := (128, [(3, .int t), (0, .ref 94), (1, .int sort), (2, .int v)], [.int (v / 1000), .int (I 149 (t).toNatClampNeg)], (sh, I, L, R))) (M := mr_333) rfl (show mcode 333 127 = some (127, .idiv, 1, 0, 0, 0, _) from rfl) (Or.inr (Or.inr (Or.inr (Or.inr (Or.inr (Or.inl ⟨_, stk_bin (by simp only [ibin]; rw [if_neg (by decide)]), rfl⟩)))))) ?_
      cases k3 : bcmp .ne (I 149 (t).toNatClampNeg) (v / 1000) with
      | true =>
        have gk3 : ¬ ((I 149 (t).toNatClampNeg)).toInt = ((v / 1000)).toInt := icT (c := .ne) (a := ((I 149 (t).toNatClampNeg)).toInt) (b := ((v / 1000)).toInt) rfl rfl k3
        refine XW.fam (S' := (133, [(3, .int t), (0, .ref 94), (1, .int sort), (2, .int v)], [], (sh, I, L, R))) (M := mr_333) rfl (show mcode 333 128 = some (128, .if_icmp .ne 5, 3, 133, 0, 0, _) from rfl) (Or.inr (Or.inl ⟨133, [], by simp [brn, k3], rfl⟩)) ?_
        refine XW.fam (S' := (136, [(3, .int (t + Int32.ofInt 1)), (0, .ref 94), (1, .int sort), (2, .int v)], [], (sh, I, L, R))) (M := mr_333) rfl (show mcode 333 133 = some (133, .iinc 3 1, 3, 0, 0, 0, _) from rfl) (Or.inr (Or.inr (Or.inr (Or.inr (Or.inr (Or.inr (Or.inr (Or.inr (Or.inr ⟨3, 1, t, rfl, rfl, by decide, rfl⟩))))))))) ?_
        refine XW.fam (S' := (109, [(3, .int (t + Int32.ofInt 1)), (0, .ref 94), (1, .int sort), (2, .int v)], [], (sh, I, L, R))) (M := mr_333) rfl (show mcode 333 136 = some (136, .goto (-27), 3, 109, 0, 0, _) from rfl) (Or.inr (Or.inl ⟨109, [], rfl, rfl⟩)) ?_
        have eo := incO (m := t) (by omega) (by omega)
        refine ih (t + Int32.ofInt 1) (by omega) (by omega) (by omega) (fun k hk e => ?_)
        by_cases c : (k : Int) < t.toInt
        · exact hinv k c e
        · have ek : k = (t).toNatClampNeg := by have hc : (t).toNatClampNeg = t.toInt.toNat := rfl; omega
          rw [ek] at e
          have ee := congrArg Int32.toInt e
          omega
      | false =>
        have gk3 : ¬ (¬ ((I 149 (t).toNatClampNeg)).toInt = ((v / 1000)).toInt) := icF (c := .ne) (a := ((I 149 (t).toNatClampNeg)).toInt) (b := ((v / 1000)).toInt) rfl rfl k3
        refine XW.fam (S' := (131, [(3, .int t), (0, .ref 94), (1, .int sort), (2, .int v)], [], (sh, I, L, R))) (M := mr_333) rfl (show mcode 333 128 = some (128, .if_icmp .ne 5, 3, 133, 0, 0, _) from rfl) (Or.inr (Or.inl ⟨131, [], by simp [brn, k3], rfl⟩)) ?_
        exact K1 ⟨(t).toNatClampNeg, by have hc : (t).toNatClampNeg = t.toInt.toNat := rfl; omega, Int32.toInt_inj.mp (by omega)⟩ _
theorem tc_turnM {d : Nat} {sh : List mE} {R : Nat → Nat → Option Nat} {w : mW} {sort v : Int32} (hw : wOK (mkT vV []) (wE sh R) w) (hf : fresh w) : Tc 333 (d + 3) 0 0 [.ref 94, .int sort, .int v] w (QTM sort v w) := by
  obtain ⟨sh0, I, L, R0⟩ := w
  obtain rfl : sh = sh0 := hw.2.2.2.1.symm
  obtain rfl : R = R0 := hw.2.2.2.2.1.symm
  have c94 : sh[94]? = some (.inr 12) := hw.1 94 _ rfl
  have c148 : sh[148]? = some (.inl (.int, 3)) := hw.1 148 _ rfl
  have c149 : sh[149]? = some (.inl (.int, 3)) := hw.1 149 _ rfl
  have c150 : sh[150]? = some (.inl (.int, 3)) := hw.1 150 _ rfl
  have r94_80 : R 94 80 = some 148 := hw.2.1 94 80 _ rfl
  have r94_82 : R 94 82 = some 149 := hw.2.1 94 82 _ rfl
  have r94_83 : R 94 83 = some 150 := hw.2.1 94 83 _ rfl
  have zm3 : ((-3) : Int32).toInt = (-3) := rfl
  have zm1 : ((-1) : Int32).toInt = (-1) := rfl
  have z0 : (0 : Int32).toInt = 0 := rfl
  have z1 : (1 : Int32).toInt = 1 := rfl
  have z3 : (3 : Int32).toInt = 3 := rfl
  have z1000 : (1000 : Int32).toInt = 1000 := rfl
  have hmc : 0 ≤ (I 94 79).toInt ∧ (I 94 79).toInt ≤ 3 := hw.2.2.1 94 79
  obtain ⟨m, em⟩ : ∃ m, I 94 79 = m := ⟨_, rfl⟩
  rw [em] at hmc
  have hmp : 0 ≤ (I 94 81).toInt ∧ (I 94 81).toInt ≤ 3 := hw.2.2.1 94 81
  obtain ⟨mp, emp⟩ : ∃ m, I 94 81 = m := ⟨_, rfl⟩
  rw [emp] at hmp
  have hsh : 0 ≤ (I 94 60).toInt ∧ (I 94 60).toInt ≤ 16 := hw.2.2.1 94 60
  have hm : 0 ≤ (I 94 2).toInt ∧ (I 94 2).toInt ≤ 20 := hw.2.2.1 94 2
  refine Tc.of mr_333 rfl (show 3 ≤ mr_333.2.2.2.1 by decide) ?_
  refine XW.fam (S' := (1, [(0, .ref 94), (1, .int sort), (2, .int v)], [.int sort], (sh, I, L, R))) (M := mr_333) rfl (show mcode 333 0 = some (0, .iload_n 1, 1, 0, 0, 0, _) from rfl) (Or.inl ⟨.int sort, rfl, rfl⟩) ?_
  refine XW.fam (S' := (2, [(0, .ref 94), (1, .int sort), (2, .int v)], [.int 0, .int sort], (sh, I, L, R))) (M := mr_333) rfl (show mcode 333 1 = some (1, .iconst 0, 1, 0, 0, 0, _) from rfl) (Or.inl ⟨.int 0, rfl, rfl⟩) ?_
  refine XW.fam (S' := (3, [(0, .ref 94), (1, .int sort), (2, .int v)], [.int 1, .int 0, .int sort], (sh, I, L, R))) (M := mr_333) rfl (show mcode 333 2 = some (2, .iconst 1, 1, 0, 0, 0, _) from rfl) (Or.inl ⟨.int 1, rfl, rfl⟩) ?_
  refine XW.call (d' := d) (mc' := 0) (ms' := 0) (av := [.int sort, .int 0, .int 1]) (rest := []) (M := mr_333) (Ma := mr_236) rfl (show mcode 333 3 = some (3, .invokestatic 254, 3, 236, 0, 0, _) from rfl) rfl (by decide) (by decide) rfl rfl rfl (show 0 ≤ 8 by decide) (tc_inM) (by omega) (Nat.zero_le _) (Nat.zero_le _) (fun rQ1 wQ1 Q1 => ?_)
  obtain ⟨hQ1, rfl⟩ := Q1
  rcases hQ1 with ⟨rfl, gQ1⟩ | ⟨rfl, gQ1⟩
  · skip
    refine XW.fam (S' := (9, [(0, .ref 94), (1, .int sort), (2, .int v)], [], (sh, I, L, R))) (M := mr_333) rfl (show mcode 333 6 = some (6, .ifCond .ne 5, 3, 11, 0, 0, _) from rfl) (Or.inr (Or.inl ⟨9, [], rfl, rfl⟩)) ?_
    refine XW.fam (S' := (10, [(0, .ref 94), (1, .int sort), (2, .int v)], [.int (-1)], (sh, I, L, R))) (M := mr_333) rfl (show mcode 333 9 = some (9, .iconst (-1), 1, 0, 0, 0, _) from rfl) (Or.inl ⟨.int (-1), rfl, rfl⟩) ?_
    refine XW.ret (r := some (.int (-1))) ⟨⟨.int, rfl, rfl⟩, by decide +kernel⟩ ?_
    exact Or.inr (Or.inr ⟨by omega, fun q => by omega, hf, ⟨sh, R, hw⟩, rfl, rfl⟩)
  · skip
    refine XW.fam (S' := (11, [(0, .ref 94), (1, .int sort), (2, .int v)], [], (sh, I, L, R))) (M := mr_333) rfl (show mcode 333 6 = some (6, .ifCond .ne 5, 3, 11, 0, 0, _) from rfl) (Or.inr (Or.inl ⟨11, [], rfl, rfl⟩)) ?_
    refine XW.fam (S' := (12, [(0, .ref 94), (1, .int sort), (2, .int v)], [.int sort], (sh, I, L, R))) (M := mr_333) rfl (show mcode 333 11 = some (11, .iload_n 1, 1, 0, 0, 0, _) from rfl) (Or.inl ⟨.int sort, rfl, rfl⟩) ?_
    cases k2 : bcmp .ne sort 0 with
    | true =>
      have gk2 : ¬ (sort).toInt = 0 := icT (c := .ne) (a := (sort).toInt) (b := 0) rfl (by decide) k2
      refine XW.fam (S' := (89, [(0, .ref 94), (1, .int sort), (2, .int v)], [], (sh, I, L, R))) (M := mr_333) rfl (show mcode 333 12 = some (12, .ifCond .ne 77, 3, 89, 0, 0, _) from rfl) (Or.inr (Or.inl ⟨89, [], by simp [brn, k2], rfl⟩)) ?_
      refine XW.fam (S' := (90, [(0, .ref 94), (1, .int sort), (2, .int v)], [.int v], (sh, I, L, R))) (M := mr_333) rfl (show mcode 333 89 = some (89, .iload_n 2, 1, 0, 0, 0, _) from rfl) (Or.inl ⟨.int v, rfl, rfl⟩) ?_
      cases k3 : bcmp .lt v 0 with
      | true =>
        have gk3 : (v).toInt < 0 := icT (c := .lt) (a := (v).toInt) (b := 0) rfl (by decide) k3
        refine XW.fam (S' := (105, [(0, .ref 94), (1, .int sort), (2, .int v)], [], (sh, I, L, R))) (M := mr_333) rfl (show mcode 333 90 = some (90, .ifCond .lt 15, 3, 105, 0, 0, _) from rfl) (Or.inr (Or.inl ⟨105, [], by simp [brn, k3], rfl⟩)) ?_
        refine XW.fam (S' := (106, [(0, .ref 94), (1, .int sort), (2, .int v)], [.int (-1)], (sh, I, L, R))) (M := mr_333) rfl (show mcode 333 105 = some (105, .iconst (-1), 1, 0, 0, 0, _) from rfl) (Or.inl ⟨.int (-1), rfl, rfl⟩) ?_
        refine XW.ret (r := some (.int (-1))) ⟨⟨.int, rfl, rfl⟩, by decide +kernel⟩ ?_
        exact Or.inr (Or.inr ⟨by omega, fun q => by omega, hf, ⟨sh, R, hw⟩, rfl, rfl⟩)
      | false =>
        have gk3 : ¬ ((v).toInt < 0) := icF (c := .lt) (a := (v).toInt) (b := 0) rfl (by decide) k3
        refine XW.fam (S' := (93, [(0, .ref 94), (1, .int sort), (2, .int v)], [], (sh, I, L, R))) (M := mr_333) rfl (show mcode 333 90 = some (90, .ifCond .lt 15, 3, 105, 0, 0, _) from rfl) (Or.inr (Or.inl ⟨93, [], by simp [brn, k3], rfl⟩)) ?_
        refine XW.fam (S' := (94, [(0, .ref 94), (1, .int sort), (2, .int v)], [.ref 94], (sh, I, L, R))) (M := mr_333) rfl (show mcode 333 93 = some (93, .aload_n 0, 1, 0, 0, 0, _) from rfl) (Or.inl ⟨.ref 94, rfl, rfl⟩) ?_
        refine XW.fam (S' := (95, [(0, .ref 94), (1, .int sort), (2, .int v)], [.int v, .ref 94], (sh, I, L, R))) (M := mr_333) rfl (show mcode 333 94 = some (94, .iload_n 2, 1, 0, 0, 0, _) from rfl) (Or.inl ⟨.int v, rfl, rfl⟩) ?_
        refine XW.fam (S' := (98, [(0, .ref 94), (1, .int sort), (2, .int v)], [.int 1000, .int v, .ref 94], (sh, I, L, R))) (M := mr_333) rfl (show mcode 333 95 = some (95, .sipush 1000, 3, 0, 0, 0, _) from rfl) (Or.inl ⟨.int 1000, rfl, rfl⟩) ?_
        refine XW.fam (S' := (99, [(0, .ref 94), (1, .int sort), (2, .int v)], [.int (v / 1000), .ref 94], (sh, I, L, R))) (M := mr_333) rfl (show mcode 333 98 = some (98, .idiv, 1, 0, 0, 0, _) from rfl) (Or.inr (Or.inr (Or.inr (Or.inr (Or.inr (Or.inl ⟨_, stk_bin (by simp only [ibin]; rw [if_neg (by decide)]), rfl⟩)))))) ?_
        refine XW.call (d' := d + 2) (mc' := 0) (ms' := 0) (av := [.ref 94, .int (v / 1000)]) (rest := []) (M := mr_333) (Ma := mr_309) rfl (show mcode 333 99 = some (99, .invokevirtual 496, 3, 309, 0, 0, _) from rfl) rfl (by decide) (by decide) ⟨rfl, 94, _, rfl, c94⟩ rfl rfl (show 0 ≤ 8 by decide) (tc_isPoM (d := d) hw) (by omega) (Nat.zero_le _) (Nat.zero_le _) (fun rQ4 wQ4 Q4 => ?_)
        obtain ⟨hQ4, rfl⟩ := Q4
        rcases hQ4 with ⟨rfl, gQ4⟩ | ⟨rfl, gQ4⟩
        · skip
          refine XW.fam (S' := (105, [(0, .ref 94), (1, .int sort), (2, .int v)], [], (sh, I, L, R))) (M := mr_333) rfl (show mcode 333 102 = some (102, .ifCond .ne 5, 3, 107, 0, 0, _) from rfl) (Or.inr (Or.inl ⟨105, [], rfl, rfl⟩)) ?_
          refine XW.fam (S' := (106, [(0, .ref 94), (1, .int sort), (2, .int v)], [.int (-1)], (sh, I, L, R))) (M := mr_333) rfl (show mcode 333 105 = some (105, .iconst (-1), 1, 0, 0, 0, _) from rfl) (Or.inl ⟨.int (-1), rfl, rfl⟩) ?_
          refine XW.ret (r := some (.int (-1))) ⟨⟨.int, rfl, rfl⟩, by decide +kernel⟩ ?_
          exact Or.inr (Or.inl ⟨by omega, by omega, ⟨hf, ⟨sh, R, hw⟩, Or.inl ⟨fun q => by have q1 : okWM I v := q.1; unfold okWM at q1; omega, rfl, rfl⟩⟩⟩)
        · skip
          refine XW.fam (S' := (107, [(0, .ref 94), (1, .int sort), (2, .int v)], [], (sh, I, L, R))) (M := mr_333) rfl (show mcode 333 102 = some (102, .ifCond .ne 5, 3, 107, 0, 0, _) from rfl) (Or.inr (Or.inl ⟨107, [], rfl, rfl⟩)) ?_
          refine XW.fam (S' := (108, [(0, .ref 94), (1, .int sort), (2, .int v)], [.int 0], (sh, I, L, R))) (M := mr_333) rfl (show mcode 333 107 = some (107, .iconst 0, 1, 0, 0, 0, _) from rfl) (Or.inl ⟨.int 0, rfl, rfl⟩) ?_
          refine XW.fam (S' := (109, [(3, .int 0), (0, .ref 94), (1, .int sort), (2, .int v)], [], (sh, I, L, R))) (M := mr_333) rfl (show mcode 333 108 = some (108, .istore_n 3, 1, 0, 0, 0, _) from rfl) (Or.inr (Or.inr (Or.inr (Or.inr (Or.inr (Or.inr (Or.inl ⟨_, [], _, rfl, rfl, rfl⟩))))))) ?_
          have xd := dv1000 (x := v) (by omega)
          refine scan_PM (d := d) hw (by rw [emp]; omega) (fun ht t => ?_) (fun ht t => ?_) 4 0 (by decide) (by decide) (by rw [emp]; omega) (fun k hk => by exfalso; have z0 : (0 : Int32).toInt = 0 := rfl; omega)
          · skip
            refine XW.fam (S' := (132, [(3, .int t), (0, .ref 94), (1, .int sort), (2, .int v)], [.int (-1)], (sh, I, L, R))) (M := mr_333) rfl (show mcode 333 131 = some (131, .iconst (-1), 1, 0, 0, 0, _) from rfl) (Or.inl ⟨.int (-1), rfl, rfl⟩) ?_
            refine XW.ret (r := some (.int (-1))) ⟨⟨.int, rfl, rfl⟩, by decide +kernel⟩ ?_
            exact Or.inr (Or.inl ⟨by omega, by omega, ⟨hf, ⟨sh, R, hw⟩, Or.inl ⟨fun q => q.2 ht, rfl, rfl⟩⟩⟩)
          · skip
            refine XW.fam (S' := (140, [(3, .int t), (0, .ref 94), (1, .int sort), (2, .int v)], [.ref 94], (sh, I, L, R))) (M := mr_333) rfl (show mcode 333 139 = some (139, .aload_n 0, 1, 0, 0, 0, _) from rfl) (Or.inl ⟨.ref 94, rfl, rfl⟩) ?_
            refine XW.fam (S' := (143, [(3, .int t), (0, .ref 94), (1, .int sort), (2, .int v)], [.int (I 94 81)], (sh, I, L, R))) (M := mr_333) rfl (show mcode 333 140 = some (140, .getfield 554, 3, 12, 81, 0, _) from rfl) (Or.inr (Or.inr (Or.inr (Or.inr (Or.inr (Or.inr (Or.inr (Or.inl ⟨_, _, rfl, fl_ldI c94 (by decide) (by decide), rfl⟩)))))))) ?_
            rw [emp]
            refine XW.fam (S' := (144, [(3, .int t), (0, .ref 94), (1, .int sort), (2, .int v)], [.int 3, .int mp], (sh, I, L, R))) (M := mr_333) rfl (show mcode 333 143 = some (143, .iconst 3, 1, 0, 0, 0, _) from rfl) (Or.inl ⟨.int 3, rfl, rfl⟩) ?_
            cases k5 : bcmp .ne mp 3 with
            | true =>
              have gk5 : ¬ (mp).toInt = 3 := icT (c := .ne) (a := (mp).toInt) (b := 3) rfl (by decide) k5
              refine XW.fam (S' := (150, [(3, .int t), (0, .ref 94), (1, .int sort), (2, .int v)], [], (sh, I, L, R))) (M := mr_333) rfl (show mcode 333 144 = some (144, .if_icmp .ne 6, 3, 150, 0, 0, _) from rfl) (Or.inr (Or.inl ⟨150, [], by simp [brn, k5], rfl⟩)) ?_
              refine XW.fam (S' := (151, [(3, .int t), (0, .ref 94), (1, .int sort), (2, .int v)], [.ref 94], (sh, I, L, R))) (M := mr_333) rfl (show mcode 333 150 = some (150, .aload_n 0, 1, 0, 0, 0, _) from rfl) (Or.inl ⟨.ref 94, rfl, rfl⟩) ?_
              refine XW.fam (S' := (154, [(3, .int t), (0, .ref 94), (1, .int sort), (2, .int v)], [.ref 149], (sh, I, L, R))) (M := mr_333) rfl (show mcode 333 151 = some (151, .getfield 181, 3, 12, 82, 0, _) from rfl) (Or.inr (Or.inr (Or.inr (Or.inr (Or.inr (Or.inr (Or.inr (Or.inl ⟨_, _, rfl, fl_ld c94 r94_82 (by decide) (by decide), rfl⟩)))))))) ?_
              refine XW.fam (S' := (155, [(3, .int t), (0, .ref 94), (1, .int sort), (2, .int v)], [.ref 94, .ref 149], (sh, I, L, R))) (M := mr_333) rfl (show mcode 333 154 = some (154, .aload_n 0, 1, 0, 0, 0, _) from rfl) (Or.inl ⟨.ref 94, rfl, rfl⟩) ?_
              refine XW.fam (S' := (158, [(3, .int t), (0, .ref 94), (1, .int sort), (2, .int v)], [.int (I 94 81), .ref 149], (sh, I, L, R))) (M := mr_333) rfl (show mcode 333 155 = some (155, .getfield 554, 3, 12, 81, 0, _) from rfl) (Or.inr (Or.inr (Or.inr (Or.inr (Or.inr (Or.inr (Or.inr (Or.inl ⟨_, _, rfl, fl_ldI c94 (by decide) (by decide), rfl⟩)))))))) ?_
              rw [emp]
              refine XW.fam (S' := (159, [(3, .int t), (0, .ref 94), (1, .int sort), (2, .int v)], [.int v, .int mp, .ref 149], (sh, I, L, R))) (M := mr_333) rfl (show mcode 333 158 = some (158, .iload_n 2, 1, 0, 0, 0, _) from rfl) (Or.inl ⟨.int v, rfl, rfl⟩) ?_
              refine XW.fam (S' := (162, [(3, .int t), (0, .ref 94), (1, .int sort), (2, .int v)], [.int 1000, .int v, .int mp, .ref 149], (sh, I, L, R))) (M := mr_333) rfl (show mcode 333 159 = some (159, .sipush 1000, 3, 0, 0, 0, _) from rfl) (Or.inl ⟨.int 1000, rfl, rfl⟩) ?_
              refine XW.fam (S' := (163, [(3, .int t), (0, .ref 94), (1, .int sort), (2, .int v)], [.int (v / 1000), .int mp, .ref 149], (sh, I, L, R))) (M := mr_333) rfl (show mcode 333 162 = some (162, .idiv, 1, 0, 0, 0, _) from rfl) (Or.inr (Or.inr (Or.inr (Or.inr (Or.inr (Or.inl ⟨_, stk_bin (by simp only [ibin]; rw [if_neg (by decide)]), rfl⟩)))))) ?_
              have hin6 : inR mp 3 = true := inR_of (by omega) (by omega)
              obtain ⟨I7, eI7⟩ : ∃ X, X = up2 I 149 (mp).toNatClampNeg (v / 1000) := ⟨_, rfl⟩
              refine XW.fam (S' := (164, [(3, .int t), (0, .ref 94), (1, .int sort), (2, .int v)], [], (sh, I7, L, R))) (M := mr_333) rfl (show mcode 333 163 = some (163, .iastore, 1, 0, 0, 0, _) from rfl) (Or.inr (Or.inr (Or.inr (Or.inl ⟨_, _, by rw [eI7]; exact sta_i c149 hin6, rfl⟩)))) ?_
              have xv : v.toInt ≤ 2147483647 := by have h := i32b v; unfold lo32 hi32 at h; omega
              have hwI7 : wOK (mkT vV []) (wE sh R) (sh, I7, L, R) := by rw [eI7]; exact wOK_u2 (q := 149) (k := (mp).toNatClampNeg) (x := (v / 1000)) wE_put hw rfl (by show (0 : Int) ≤ _; omega) (by show _ ≤ (2147483 : Int); omega)
              have hfI7 : fresh (sh, I7, L, R) := by rw [eI7]; exact fresh_I hf c149
              have v8 : I7 94 79 = m := by rw [eI7, up2_ne (fun e => by cases e.1)]; exact em
              have v9 : I7 94 81 = mp := by rw [eI7, up2_ne (fun e => by cases e.1)]; exact emp
              have v10 : I7 149 (mp).toNatClampNeg = (v / 1000) := by rw [eI7]; exact up2_eq
              refine XW.fam (S' := (165, [(3, .int t), (0, .ref 94), (1, .int sort), (2, .int v)], [.ref 94], (sh, I7, L, R))) (M := mr_333) rfl (show mcode 333 164 = some (164, .aload_n 0, 1, 0, 0, 0, _) from rfl) (Or.inl ⟨.ref 94, rfl, rfl⟩) ?_
              refine XW.fam (S' := (168, [(3, .int t), (0, .ref 94), (1, .int sort), (2, .int v)], [.ref 150], (sh, I7, L, R))) (M := mr_333) rfl (show mcode 333 165 = some (165, .getfield 184, 3, 12, 83, 0, _) from rfl) (Or.inr (Or.inr (Or.inr (Or.inr (Or.inr (Or.inr (Or.inr (Or.inl ⟨_, _, rfl, fl_ld c94 r94_83 (by decide) (by decide), rfl⟩)))))))) ?_
              refine XW.fam (S' := (169, [(3, .int t), (0, .ref 94), (1, .int sort), (2, .int v)], [.ref 94, .ref 150], (sh, I7, L, R))) (M := mr_333) rfl (show mcode 333 168 = some (168, .aload_n 0, 1, 0, 0, 0, _) from rfl) (Or.inl ⟨.ref 94, rfl, rfl⟩) ?_
              refine XW.fam (S' := (172, [(3, .int t), (0, .ref 94), (1, .int sort), (2, .int v)], [.int (I7 94 81), .ref 150], (sh, I7, L, R))) (M := mr_333) rfl (show mcode 333 169 = some (169, .getfield 554, 3, 12, 81, 0, _) from rfl) (Or.inr (Or.inr (Or.inr (Or.inr (Or.inr (Or.inr (Or.inr (Or.inl ⟨_, _, rfl, fl_ldI c94 (by decide) (by decide), rfl⟩)))))))) ?_
              rw [v9]
              refine XW.fam (S' := (173, [(3, .int t), (0, .ref 94), (1, .int sort), (2, .int v)], [.int v, .int mp, .ref 150], (sh, I7, L, R))) (M := mr_333) rfl (show mcode 333 172 = some (172, .iload_n 2, 1, 0, 0, 0, _) from rfl) (Or.inl ⟨.int v, rfl, rfl⟩) ?_
              refine XW.fam (S' := (176, [(3, .int t), (0, .ref 94), (1, .int sort), (2, .int v)], [.int 1000, .int v, .int mp, .ref 150], (sh, I7, L, R))) (M := mr_333) rfl (show mcode 333 173 = some (173, .sipush 1000, 3, 0, 0, 0, _) from rfl) (Or.inl ⟨.int 1000, rfl, rfl⟩) ?_
              refine XW.fam (S' := (177, [(3, .int t), (0, .ref 94), (1, .int sort), (2, .int v)], [.int (v - v / 1000 * 1000), .int mp, .ref 150], (sh, I7, L, R))) (M := mr_333) rfl (show mcode 333 176 = some (176, .irem, 1, 0, 0, 0, _) from rfl) (Or.inr (Or.inr (Or.inr (Or.inr (Or.inr (Or.inl ⟨_, stk_bin (by simp only [ibin]; rw [if_neg (by decide)]), rfl⟩)))))) ?_
              have hin11 : inR mp 3 = true := inR_of (by omega) (by omega)
              obtain ⟨I12, eI12⟩ : ∃ X, X = up2 I7 150 (mp).toNatClampNeg (v - v / 1000 * 1000) := ⟨_, rfl⟩
              refine XW.fam (S' := (178, [(3, .int t), (0, .ref 94), (1, .int sort), (2, .int v)], [], (sh, I12, L, R))) (M := mr_333) rfl (show mcode 333 177 = some (177, .iastore, 1, 0, 0, 0, _) from rfl) (Or.inr (Or.inr (Or.inr (Or.inl ⟨_, _, by rw [eI12]; exact sta_i c150 hin11, rfl⟩)))) ?_
              have xb := i32b ((v - v / 1000 * 1000))
              unfold lo32 hi32 at xb
              have hwI12 : wOK (mkT vV []) (wE sh R) (sh, I12, L, R) := by rw [eI12]; exact wOK_u2 (q := 150) (k := (mp).toNatClampNeg) (x := (v - v / 1000 * 1000)) wE_put hwI7 rfl (by show ((-2147483648) : Int) ≤ _; omega) (by show _ ≤ (2147483647 : Int); omega)
              have hfI12 : fresh (sh, I12, L, R) := by rw [eI12]; exact fresh_I hfI7 c150
              have v13 : I12 94 79 = m := by rw [eI12, up2_ne (fun e => by cases e.1)]; exact v8
              have v14 : I12 94 81 = mp := by rw [eI12, up2_ne (fun e => by cases e.1)]; exact v9
              have v15 : I12 149 (mp).toNatClampNeg = (v / 1000) := by rw [eI12, up2_ne (fun e => by cases e.1)]; exact v10
              have v16 : I12 150 (mp).toNatClampNeg = (v - v / 1000 * 1000) := by rw [eI12]; exact up2_eq
              refine XW.fam (S' := (179, [(3, .int t), (0, .ref 94), (1, .int sort), (2, .int v)], [.ref 94], (sh, I12, L, R))) (M := mr_333) rfl (show mcode 333 178 = some (178, .aload_n 0, 1, 0, 0, 0, _) from rfl) (Or.inl ⟨.ref 94, rfl, rfl⟩) ?_
              refine XW.fam (S' := (180, [(3, .int t), (0, .ref 94), (1, .int sort), (2, .int v)], [.ref 94, .ref 94], (sh, I12, L, R))) (M := mr_333) rfl (show mcode 333 179 = some (179, .dup, 1, 0, 0, 0, _) from rfl) (Or.inr (Or.inr (Or.inr (Or.inr (Or.inr (Or.inl ⟨_, rfl, rfl⟩)))))) ?_
              refine XW.fam (S' := (183, [(3, .int t), (0, .ref 94), (1, .int sort), (2, .int v)], [.int (I12 94 81), .ref 94], (sh, I12, L, R))) (M := mr_333) rfl (show mcode 333 180 = some (180, .getfield 554, 3, 12, 81, 0, _) from rfl) (Or.inr (Or.inr (Or.inr (Or.inr (Or.inr (Or.inr (Or.inr (Or.inl ⟨_, _, rfl, fl_ldI c94 (by decide) (by decide), rfl⟩)))))))) ?_
              rw [v14]
              refine XW.fam (S' := (184, [(3, .int t), (0, .ref 94), (1, .int sort), (2, .int v)], [.int 1, .int mp, .ref 94], (sh, I12, L, R))) (M := mr_333) rfl (show mcode 333 183 = some (183, .iconst 1, 1, 0, 0, 0, _) from rfl) (Or.inl ⟨.int 1, rfl, rfl⟩) ?_
              refine XW.fam (S' := (185, [(3, .int t), (0, .ref 94), (1, .int sort), (2, .int v)], [.int (mp + 1), .ref 94], (sh, I12, L, R))) (M := mr_333) rfl (show mcode 333 184 = some (184, .iadd, 1, 0, 0, 0, _) from rfl) (Or.inr (Or.inr (Or.inr (Or.inr (Or.inr (Or.inl ⟨_, rfl, rfl⟩)))))) ?_
              obtain ⟨I17, eI17⟩ : ∃ X, X = up2 I12 94 81 (mp + 1) := ⟨_, rfl⟩
              refine XW.fam (S' := (188, [(3, .int t), (0, .ref 94), (1, .int sort), (2, .int v)], [], (sh, I17, L, R))) (M := mr_333) rfl (show mcode 333 185 = some (185, .putfield 554, 3, 12, 81, 0, _) from rfl) (Or.inr (Or.inr (Or.inr (Or.inr (Or.inr (Or.inr (Or.inr (Or.inr (Or.inl ⟨_, _, _, rfl, by rw [eI17]; exact stf_I c94 (by decide) (by decide) (by decide), rfl⟩))))))))) ?_
              have xi := inc32 (m := mp) (by omega) (by omega)
              have hwI17 : wOK (mkT vV []) (wE sh R) (sh, I17, L, R) := by rw [eI17]; exact wOK_u2 (q := 94) (k := 81) (x := (mp + 1)) wE_put hwI12 rfl (by show (0 : Int) ≤ _; omega) (by show _ ≤ (3 : Int); omega)
              have hfI17 : fresh (sh, I17, L, R) := by rw [eI17]; exact fresh_I hfI12 c94
              have v18 : I17 94 79 = m := by rw [eI17, up2_ne (fun e => by cases e.2)]; exact v13
              have v20 : I17 149 (mp).toNatClampNeg = (v / 1000) := by rw [eI17, up2_ne (fun e => by cases e.1)]; exact v15
              have v21 : I17 150 (mp).toNatClampNeg = (v - v / 1000 * 1000) := by rw [eI17, up2_ne (fun e => by cases e.1)]; exact v16
              have v22 : I17 94 81 = (mp + 1) := by rw [eI17]; exact up2_eq
              refine XW.fam (S' := (189, [(3, .int t), (0, .ref 94), (1, .int sort), (2, .int v)], [.ref 94], (sh, I17, L, R))) (M := mr_333) rfl (show mcode 333 188 = some (188, .aload_n 0, 1, 0, 0, 0, _) from rfl) (Or.inl ⟨.ref 94, rfl, rfl⟩) ?_
              refine XW.fam (S' := (192, [(3, .int t), (0, .ref 94), (1, .int sort), (2, .int v)], [.int (I17 94 81)], (sh, I17, L, R))) (M := mr_333) rfl (show mcode 333 189 = some (189, .getfield 554, 3, 12, 81, 0, _) from rfl) (Or.inr (Or.inr (Or.inr (Or.inr (Or.inr (Or.inr (Or.inr (Or.inl ⟨_, _, rfl, fl_ldI c94 (by decide) (by decide), rfl⟩)))))))) ?_
              rw [v22]
              refine XW.ret (r := some (.int (mp + 1))) ⟨⟨.int, rfl, rfl⟩, by decide +kernel⟩ ?_
              have hkp : ∀ q k, inm mdWM q k = false → I17 q k = I q k := by
                intro q k h
                rw [eI17, up2_ne (fun e => by rw [e.1, e.2] at h; cases h), eI12, up2_ne (fun e => by rw [e.1] at h; cases h), eI7, up2_ne (fun e => by rw [e.1] at h; cases h)]
              have hrw : ∀ k, I17 149 k = I7 149 k := by
                intro k
                rw [eI17, up2_ne (fun e => by cases e.1), eI12, up2_ne (fun e => by cases e.1)]
              refine Or.inr (Or.inl ⟨by omega, by omega, ⟨hfI17, ⟨sh, R, hwI17⟩, Or.inr (Or.inr ⟨⟨show okWM I v by unfold okWM; omega, ht⟩, by show (I 94 81).toInt < (3 : Int); rw [emp]; omega, ?_, ?_, ?_, fun k hk => ?_, hkp⟩)⟩⟩)
              · show some (Value.int _) = some (Value.int (I 94 81 + 1))
                rw [emp]
              · show I17 94 81 = I 94 81 + 1
                rw [emp]
                exact v22
              · show I17 149 (I 94 81).toNatClampNeg = _
                rw [hrw, emp, eI7, up2_eq]
              · have hk : ¬ k = (I 94 81).toNatClampNeg := hk
                rw [emp] at hk
                show I17 149 k = I 149 k
                rw [hrw, eI7, up2_ne (fun e => hk e.2)]
            | false =>
              have gk5 : ¬ (¬ (mp).toInt = 3) := icF (c := .ne) (a := (mp).toInt) (b := 3) rfl (by decide) k5
              refine XW.fam (S' := (147, [(3, .int t), (0, .ref 94), (1, .int sort), (2, .int v)], [], (sh, I, L, R))) (M := mr_333) rfl (show mcode 333 144 = some (144, .if_icmp .ne 6, 3, 150, 0, 0, _) from rfl) (Or.inr (Or.inl ⟨147, [], by simp [brn, k5], rfl⟩)) ?_
              refine XW.fam (S' := (149, [(3, .int t), (0, .ref 94), (1, .int sort), (2, .int v)], [.int (-3)], (sh, I, L, R))) (M := mr_333) rfl (show mcode 333 147 = some (147, .bipush (-3), 2, 0, 0, 0, _) from rfl) (Or.inl ⟨.int (-3), rfl, rfl⟩) ?_
              refine XW.ret (r := some (.int (-3))) ⟨⟨.int, rfl, rfl⟩, by decide +kernel⟩ ?_
              exact Or.inr (Or.inl ⟨by omega, by omega, ⟨hf, ⟨sh, R, hw⟩, Or.inr (Or.inl ⟨⟨show okWM I v by unfold okWM; omega, ht⟩, by show (3 : Int) ≤ (I 94 81).toInt; rw [emp]; omega, rfl, rfl⟩)⟩⟩)
    | false =>
      have gk2 : ¬ (¬ (sort).toInt = 0) := icF (c := .ne) (a := (sort).toInt) (b := 0) rfl (by decide) k2
      refine XW.fam (S' := (15, [(0, .ref 94), (1, .int sort), (2, .int v)], [], (sh, I, L, R))) (M := mr_333) rfl (show mcode 333 12 = some (12, .ifCond .ne 77, 3, 89, 0, 0, _) from rfl) (Or.inr (Or.inl ⟨15, [], by simp [brn, k2], rfl⟩)) ?_
      refine XW.fam (S' := (16, [(0, .ref 94), (1, .int sort), (2, .int v)], [.ref 94], (sh, I, L, R))) (M := mr_333) rfl (show mcode 333 15 = some (15, .aload_n 0, 1, 0, 0, 0, _) from rfl) (Or.inl ⟨.ref 94, rfl, rfl⟩) ?_
      refine XW.fam (S' := (17, [(0, .ref 94), (1, .int sort), (2, .int v)], [.int v, .ref 94], (sh, I, L, R))) (M := mr_333) rfl (show mcode 333 16 = some (16, .iload_n 2, 1, 0, 0, 0, _) from rfl) (Or.inl ⟨.int v, rfl, rfl⟩) ?_
      refine XW.call (d' := d + 1) (mc' := 0) (ms' := 0) (av := [.ref 94, .int v]) (rest := []) (M := mr_333) (Ma := mr_311) rfl (show mcode 333 17 = some (17, .invokevirtual 499, 3, 311, 0, 0, _) from rfl) rfl (by decide) (by decide) ⟨rfl, 94, _, rfl, c94⟩ rfl rfl (show 0 ≤ 8 by decide) (tc_isShM (d := d) hw) (by omega) (Nat.zero_le _) (Nat.zero_le _) (fun rQ23 wQ23 Q23 => ?_)
      obtain ⟨hQ23, rfl⟩ := Q23
      rcases hQ23 with ⟨rfl, gQ23⟩ | ⟨rfl, gQ23⟩
      · skip
        refine XW.fam (S' := (23, [(0, .ref 94), (1, .int sort), (2, .int v)], [], (sh, I, L, R))) (M := mr_333) rfl (show mcode 333 20 = some (20, .ifCond .ne 5, 3, 25, 0, 0, _) from rfl) (Or.inr (Or.inl ⟨23, [], rfl, rfl⟩)) ?_
        refine XW.fam (S' := (24, [(0, .ref 94), (1, .int sort), (2, .int v)], [.int (-1)], (sh, I, L, R))) (M := mr_333) rfl (show mcode 333 23 = some (23, .iconst (-1), 1, 0, 0, 0, _) from rfl) (Or.inl ⟨.int (-1), rfl, rfl⟩) ?_
        refine XW.ret (r := some (.int (-1))) ⟨⟨.int, rfl, rfl⟩, by decide +kernel⟩ ?_
        exact Or.inl ⟨by omega, ⟨hf, ⟨sh, R, hw⟩, Or.inl ⟨fun q => by have q1 : okVM I v := q.1; unfold okVM at q1; omega, rfl, rfl⟩⟩⟩
      · skip
        refine XW.fam (S' := (25, [(0, .ref 94), (1, .int sort), (2, .int v)], [], (sh, I, L, R))) (M := mr_333) rfl (show mcode 333 20 = some (20, .ifCond .ne 5, 3, 25, 0, 0, _) from rfl) (Or.inr (Or.inl ⟨25, [], rfl, rfl⟩)) ?_
        refine XW.fam (S' := (26, [(0, .ref 94), (1, .int sort), (2, .int v)], [.int 0], (sh, I, L, R))) (M := mr_333) rfl (show mcode 333 25 = some (25, .iconst 0, 1, 0, 0, 0, _) from rfl) (Or.inl ⟨.int 0, rfl, rfl⟩) ?_
        refine XW.fam (S' := (27, [(3, .int 0), (0, .ref 94), (1, .int sort), (2, .int v)], [], (sh, I, L, R))) (M := mr_333) rfl (show mcode 333 26 = some (26, .istore_n 3, 1, 0, 0, 0, _) from rfl) (Or.inr (Or.inr (Or.inr (Or.inr (Or.inr (Or.inr (Or.inl ⟨_, [], _, rfl, rfl, rfl⟩))))))) ?_
        refine scan_SM (d := d) hw (by rw [em]; omega) (fun ht t => ?_) (fun ht t => ?_) 4 0 (by decide) (by decide) (by rw [em]; omega) (fun k hk => by exfalso; have z0 : (0 : Int32).toInt = 0 := rfl; omega)
        · skip
          refine XW.fam (S' := (46, [(3, .int t), (0, .ref 94), (1, .int sort), (2, .int v)], [.int (-1)], (sh, I, L, R))) (M := mr_333) rfl (show mcode 333 45 = some (45, .iconst (-1), 1, 0, 0, 0, _) from rfl) (Or.inl ⟨.int (-1), rfl, rfl⟩) ?_
          refine XW.ret (r := some (.int (-1))) ⟨⟨.int, rfl, rfl⟩, by decide +kernel⟩ ?_
          exact Or.inl ⟨by omega, ⟨hf, ⟨sh, R, hw⟩, Or.inl ⟨fun q => q.2 ht, rfl, rfl⟩⟩⟩
        · skip
          refine XW.fam (S' := (54, [(3, .int t), (0, .ref 94), (1, .int sort), (2, .int v)], [.ref 94], (sh, I, L, R))) (M := mr_333) rfl (show mcode 333 53 = some (53, .aload_n 0, 1, 0, 0, 0, _) from rfl) (Or.inl ⟨.ref 94, rfl, rfl⟩) ?_
          refine XW.fam (S' := (57, [(3, .int t), (0, .ref 94), (1, .int sort), (2, .int v)], [.int (I 94 79)], (sh, I, L, R))) (M := mr_333) rfl (show mcode 333 54 = some (54, .getfield 551, 3, 12, 79, 0, _) from rfl) (Or.inr (Or.inr (Or.inr (Or.inr (Or.inr (Or.inr (Or.inr (Or.inl ⟨_, _, rfl, fl_ldI c94 (by decide) (by decide), rfl⟩)))))))) ?_
          rw [em]
          refine XW.fam (S' := (58, [(3, .int t), (0, .ref 94), (1, .int sort), (2, .int v)], [.int 3, .int m], (sh, I, L, R))) (M := mr_333) rfl (show mcode 333 57 = some (57, .iconst 3, 1, 0, 0, 0, _) from rfl) (Or.inl ⟨.int 3, rfl, rfl⟩) ?_
          cases k24 : bcmp .ne m 3 with
          | true =>
            have gk24 : ¬ (m).toInt = 3 := icT (c := .ne) (a := (m).toInt) (b := 3) rfl (by decide) k24
            refine XW.fam (S' := (64, [(3, .int t), (0, .ref 94), (1, .int sort), (2, .int v)], [], (sh, I, L, R))) (M := mr_333) rfl (show mcode 333 58 = some (58, .if_icmp .ne 6, 3, 64, 0, 0, _) from rfl) (Or.inr (Or.inl ⟨64, [], by simp [brn, k24], rfl⟩)) ?_
            refine XW.fam (S' := (65, [(3, .int t), (0, .ref 94), (1, .int sort), (2, .int v)], [.ref 94], (sh, I, L, R))) (M := mr_333) rfl (show mcode 333 64 = some (64, .aload_n 0, 1, 0, 0, 0, _) from rfl) (Or.inl ⟨.ref 94, rfl, rfl⟩) ?_
            refine XW.fam (S' := (68, [(3, .int t), (0, .ref 94), (1, .int sort), (2, .int v)], [.ref 148], (sh, I, L, R))) (M := mr_333) rfl (show mcode 333 65 = some (65, .getfield 178, 3, 12, 80, 0, _) from rfl) (Or.inr (Or.inr (Or.inr (Or.inr (Or.inr (Or.inr (Or.inr (Or.inl ⟨_, _, rfl, fl_ld c94 r94_80 (by decide) (by decide), rfl⟩)))))))) ?_
            refine XW.fam (S' := (69, [(3, .int t), (0, .ref 94), (1, .int sort), (2, .int v)], [.ref 94, .ref 148], (sh, I, L, R))) (M := mr_333) rfl (show mcode 333 68 = some (68, .aload_n 0, 1, 0, 0, 0, _) from rfl) (Or.inl ⟨.ref 94, rfl, rfl⟩) ?_
            refine XW.fam (S' := (72, [(3, .int t), (0, .ref 94), (1, .int sort), (2, .int v)], [.int (I 94 79), .ref 148], (sh, I, L, R))) (M := mr_333) rfl (show mcode 333 69 = some (69, .getfield 551, 3, 12, 79, 0, _) from rfl) (Or.inr (Or.inr (Or.inr (Or.inr (Or.inr (Or.inr (Or.inr (Or.inl ⟨_, _, rfl, fl_ldI c94 (by decide) (by decide), rfl⟩)))))))) ?_
            rw [em]
            refine XW.fam (S' := (73, [(3, .int t), (0, .ref 94), (1, .int sort), (2, .int v)], [.int v, .int m, .ref 148], (sh, I, L, R))) (M := mr_333) rfl (show mcode 333 72 = some (72, .iload_n 2, 1, 0, 0, 0, _) from rfl) (Or.inl ⟨.int v, rfl, rfl⟩) ?_
            have hin25 : inR m 3 = true := inR_of (by omega) (by omega)
            obtain ⟨I26, eI26⟩ : ∃ X, X = up2 I 148 (m).toNatClampNeg v := ⟨_, rfl⟩
            refine XW.fam (S' := (74, [(3, .int t), (0, .ref 94), (1, .int sort), (2, .int v)], [], (sh, I26, L, R))) (M := mr_333) rfl (show mcode 333 73 = some (73, .iastore, 1, 0, 0, 0, _) from rfl) (Or.inr (Or.inr (Or.inr (Or.inl ⟨_, _, by rw [eI26]; exact sta_i c148 hin25, rfl⟩)))) ?_
            have hwI26 : wOK (mkT vV []) (wE sh R) (sh, I26, L, R) := by rw [eI26]; exact wOK_u2 (q := 148) (k := (m).toNatClampNeg) (x := v) wE_put hw rfl (by show (0 : Int) ≤ _; omega) (by show _ ≤ (15 : Int); omega)
            have hfI26 : fresh (sh, I26, L, R) := by rw [eI26]; exact fresh_I hf c148
            have v27 : I26 94 79 = m := by rw [eI26, up2_ne (fun e => by cases e.1)]; exact em
            have v28 : I26 94 81 = mp := by rw [eI26, up2_ne (fun e => by cases e.1)]; exact emp
            have v29 : I26 148 (m).toNatClampNeg = v := by rw [eI26]; exact up2_eq
            refine XW.fam (S' := (75, [(3, .int t), (0, .ref 94), (1, .int sort), (2, .int v)], [.ref 94], (sh, I26, L, R))) (M := mr_333) rfl (show mcode 333 74 = some (74, .aload_n 0, 1, 0, 0, 0, _) from rfl) (Or.inl ⟨.ref 94, rfl, rfl⟩) ?_
            refine XW.fam (S' := (76, [(3, .int t), (0, .ref 94), (1, .int sort), (2, .int v)], [.ref 94, .ref 94], (sh, I26, L, R))) (M := mr_333) rfl (show mcode 333 75 = some (75, .dup, 1, 0, 0, 0, _) from rfl) (Or.inr (Or.inr (Or.inr (Or.inr (Or.inr (Or.inl ⟨_, rfl, rfl⟩)))))) ?_
            refine XW.fam (S' := (79, [(3, .int t), (0, .ref 94), (1, .int sort), (2, .int v)], [.int (I26 94 79), .ref 94], (sh, I26, L, R))) (M := mr_333) rfl (show mcode 333 76 = some (76, .getfield 551, 3, 12, 79, 0, _) from rfl) (Or.inr (Or.inr (Or.inr (Or.inr (Or.inr (Or.inr (Or.inr (Or.inl ⟨_, _, rfl, fl_ldI c94 (by decide) (by decide), rfl⟩)))))))) ?_
            rw [v27]
            refine XW.fam (S' := (80, [(3, .int t), (0, .ref 94), (1, .int sort), (2, .int v)], [.int 1, .int m, .ref 94], (sh, I26, L, R))) (M := mr_333) rfl (show mcode 333 79 = some (79, .iconst 1, 1, 0, 0, 0, _) from rfl) (Or.inl ⟨.int 1, rfl, rfl⟩) ?_
            refine XW.fam (S' := (81, [(3, .int t), (0, .ref 94), (1, .int sort), (2, .int v)], [.int (m + 1), .ref 94], (sh, I26, L, R))) (M := mr_333) rfl (show mcode 333 80 = some (80, .iadd, 1, 0, 0, 0, _) from rfl) (Or.inr (Or.inr (Or.inr (Or.inr (Or.inr (Or.inl ⟨_, rfl, rfl⟩)))))) ?_
            obtain ⟨I30, eI30⟩ : ∃ X, X = up2 I26 94 79 (m + 1) := ⟨_, rfl⟩
            refine XW.fam (S' := (84, [(3, .int t), (0, .ref 94), (1, .int sort), (2, .int v)], [], (sh, I30, L, R))) (M := mr_333) rfl (show mcode 333 81 = some (81, .putfield 551, 3, 12, 79, 0, _) from rfl) (Or.inr (Or.inr (Or.inr (Or.inr (Or.inr (Or.inr (Or.inr (Or.inr (Or.inl ⟨_, _, _, rfl, by rw [eI30]; exact stf_I c94 (by decide) (by decide) (by decide), rfl⟩))))))))) ?_
            have xi := inc32 (m := m) (by omega) (by omega)
            have hwI30 : wOK (mkT vV []) (wE sh R) (sh, I30, L, R) := by rw [eI30]; exact wOK_u2 (q := 94) (k := 79) (x := (m + 1)) wE_put hwI26 rfl (by show (0 : Int) ≤ _; omega) (by show _ ≤ (3 : Int); omega)
            have hfI30 : fresh (sh, I30, L, R) := by rw [eI30]; exact fresh_I hfI26 c94
            have v32 : I30 94 81 = mp := by rw [eI30, up2_ne (fun e => by cases e.2)]; exact v28
            have v33 : I30 148 (m).toNatClampNeg = v := by rw [eI30, up2_ne (fun e => by cases e.1)]; exact v29
            have v34 : I30 94 79 = (m + 1) := by rw [eI30]; exact up2_eq
            refine XW.fam (S' := (85, [(3, .int t), (0, .ref 94), (1, .int sort), (2, .int v)], [.ref 94], (sh, I30, L, R))) (M := mr_333) rfl (show mcode 333 84 = some (84, .aload_n 0, 1, 0, 0, 0, _) from rfl) (Or.inl ⟨.ref 94, rfl, rfl⟩) ?_
            refine XW.fam (S' := (88, [(3, .int t), (0, .ref 94), (1, .int sort), (2, .int v)], [.int (I30 94 79)], (sh, I30, L, R))) (M := mr_333) rfl (show mcode 333 85 = some (85, .getfield 551, 3, 12, 79, 0, _) from rfl) (Or.inr (Or.inr (Or.inr (Or.inr (Or.inr (Or.inr (Or.inr (Or.inl ⟨_, _, rfl, fl_ldI c94 (by decide) (by decide), rfl⟩)))))))) ?_
            rw [v34]
            refine XW.ret (r := some (.int (m + 1))) ⟨⟨.int, rfl, rfl⟩, by decide +kernel⟩ ?_
            have hkp : ∀ q k, inm mdVM q k = false → I30 q k = I q k := by
              intro q k h
              rw [eI30, up2_ne (fun e => by rw [e.1, e.2] at h; cases h), eI26, up2_ne (fun e => by rw [e.1] at h; cases h)]
            have hrw : ∀ k, I30 148 k = I26 148 k := by
              intro k
              rw [eI30, up2_ne (fun e => by cases e.1)]
            refine Or.inl ⟨by omega, ⟨hfI30, ⟨sh, R, hwI30⟩, Or.inr (Or.inr ⟨⟨show okVM I v by unfold okVM; omega, ht⟩, by show (I 94 79).toInt < (3 : Int); rw [em]; omega, ?_, ?_, ?_, fun k hk => ?_, hkp⟩)⟩⟩
            · show some (Value.int _) = some (Value.int (I 94 79 + 1))
              rw [em]
            · show I30 94 79 = I 94 79 + 1
              rw [em]
              exact v34
            · show I30 148 (I 94 79).toNatClampNeg = _
              rw [hrw, em, eI26, up2_eq]
            · have hk : ¬ k = (I 94 79).toNatClampNeg := hk
              rw [em] at hk
              show I30 148 k = I 148 k
              rw [hrw, eI26, up2_ne (fun e => hk e.2)]
          | false =>
            have gk24 : ¬ (¬ (m).toInt = 3) := icF (c := .ne) (a := (m).toInt) (b := 3) rfl (by decide) k24
            refine XW.fam (S' := (61, [(3, .int t), (0, .ref 94), (1, .int sort), (2, .int v)], [], (sh, I, L, R))) (M := mr_333) rfl (show mcode 333 58 = some (58, .if_icmp .ne 6, 3, 64, 0, 0, _) from rfl) (Or.inr (Or.inl ⟨61, [], by simp [brn, k24], rfl⟩)) ?_
            refine XW.fam (S' := (63, [(3, .int t), (0, .ref 94), (1, .int sort), (2, .int v)], [.int (-3)], (sh, I, L, R))) (M := mr_333) rfl (show mcode 333 61 = some (61, .bipush (-3), 2, 0, 0, 0, _) from rfl) (Or.inl ⟨.int (-3), rfl, rfl⟩) ?_
            refine XW.ret (r := some (.int (-3))) ⟨⟨.int, rfl, rfl⟩, by decide +kernel⟩ ?_
            exact Or.inl ⟨by omega, ⟨hf, ⟨sh, R, hw⟩, Or.inr (Or.inl ⟨⟨show okVM I v by unfold okVM; omega, ht⟩, by show (3 : Int) ≤ (I 94 79).toInt; rw [em]; omega, rfl, rfl⟩)⟩⟩
