/-! ===== the order of the least bread, our side (wip/genorder.py) ===== -/
def gOr (I : Nat → Nat → Int32) (qd qb qa : Nat) (n : Int32) (u : Nat) : Nat := am (bFI I qd qb qa n u) n.toInt.toNat
theorem gOr_ok {I : Nat → Nat → Int32} {qd qb qa : Nat} {n : Int32} {u : Nat} (hn : n.toInt.toNat ≤ 8) (hD : ∀ i, 0 ≤ (I qd i).toInt ∧ (I qd i).toInt ≤ 20) (hB : ∀ i, 0 ≤ (I qb i).toInt ∧ (I qb i).toInt ≤ 999) (hu : u + 1 < 2 ^ n.toInt.toNat) (hE : EEI I qd qb qa n u < 100000000) : gOr I qd qb qa n u < n.toInt.toNat ∧ bt u (gOr I qd qb qa n u) = 0 ∧ okA (I qa) n u (gOr I qd qb qa n u) = true ∧ u + 2 ^ gOr I qd qb qa n u < 2 ^ n.toInt.toNat ∧ EEI I qd qb qa n (u + 2 ^ gOr I qd qb qa n u) < 100000000 := by
  have hs := EEI_step (I := I) (qd := qd) (qb := qb) (qa := qa) hn hu
  rw [hs] at hE
  obtain ⟨a, b, -⟩ := am_ok hE
  have a : gOr I qd qb qa n u < n.toInt.toNat := a
  have b : bFI I qd qb qa n u (gOr I qd qb qa n u) = lmn (bFI I qd qb qa n u) n.toInt.toNat := b
  by_cases q : bt u (gOr I qd qb qa n u) = 0 ∧ okA (I qa) n u (gOr I qd qb qa n u) = true
  · have f := bFI_yes (qd := qd) (qb := qb) q
    have c := brc_rng (n := n.toInt.toNat) (D := rI I qd) (B := rI I qb) (s := u) (i := gOr I qd qb qa n u) hn hD hB
    have c : 0 ≤ (I qb (gOr I qd qb qa n u)).toInt * (tmS (rI I qd) u n.toInt.toNat + (I qd (gOr I qd qb qa n u)).toInt) ∧ _ := c
    refine ⟨a, q.1, q.2, bt_fit hn a (by omega) q.1, ?_⟩
    omega
  · have f := bFI_no (qd := qd) (qb := qb) q
    exfalso
    omega
theorem gOr_congr {I I' : Nat → Nat → Int32} {qd qb qa qd' qb' qa' : Nat} {n : Int32} (hd : ∀ k, I qd k = I' qd' k) (hb : ∀ k, I qb k = I' qb' k) (ha : ∀ k, I qa k = I' qa' k) : gOr I qd qb qa n = gOr I' qd' qb' qa' n ∧ EEI I qd qb qa n = EEI I' qd' qb' qa' n := by
  have a1 : rI I qd = rI I' qd' := by
    funext i
    unfold rI
    rw [hd]
  have a2 : rI I qb = rI I' qb' := by
    funext i
    unfold rI
    rw [hb]
  have a3 : I qa = I' qa' := by
    funext i
    exact ha i
  have e : EEI I qd qb qa n = EEI I' qd' qb' qa' n := by
    funext u
    unfold EEI
    rw [a1, a2, a3]
  refine ⟨?_, e⟩
  funext u
  unfold gOr bFI
  rw [a1, a2, a3, e]
theorem note_in {d : Nat} {sh : List mE} {J : Nat → Nat → Int32} {L : Nat → Nat → Int64} {R : Nat → Nat → Option Nat} {m : Int32} {al s t nth : Int32} (hm : 1 ≤ m.toInt ∧ m.toInt ≤ 8) (em : J 83 1 = m) (hal : (1 <<< (m &&& 31)) - 1 = al) (hal2 : al.toInt + 1 = ((2 ^ m.toInt.toNat : Nat) : Int)) (hJ5 : ∀ k, 0 ≤ (J 85 k).toInt ∧ (J 85 k).toInt ≤ 20) (hJ6 : ∀ k, 0 ≤ (J 86 k).toInt ∧ (J 86 k).toInt ≤ 999) (h88 : ∀ u : Nat, u < 2 ^ m.toInt.toNat → (J 88 u).toInt = EEI J 85 86 87 m u) (hs : 0 ≤ s.toInt ∧ s.toInt + 1 < ((2 ^ m.toInt.toNat : Nat) : Int)) (ht : t.toInt = tmS (rI J 85) s.toInt.toNat m.toInt.toNat) (hst : EEI J 85 86 87 m s.toInt.toNat = lmn (bFI J 85 86 87 m s.toInt.toNat) m.toInt.toNat) (hE2 : lmn (bFI J 85 86 87 m s.toInt.toNat) m.toInt.toNat < 100000000) {I : Nat → Nat → Int32} (hw : wOK (mkT vV []) (wE sh R) (sh, I, L, R)) (hkp : (∀ q k, ¬ q = 89 → I q k = J q k)) {Q : Option Value → mW → Prop} (K : ∀ i : Int32, gOr J 85 86 87 m s.toInt.toNat = i.toInt.toNat → (0 ≤ i.toInt ∧ i.toInt < m.toInt) → XW 197 mr_197 none (d + 1) 0 0 Q (76, [(5, .int i), (4, .int t), (3, .int nth), (2, .int s), (1, .int al), (0, .ref 83)], [], (sh, I, L, R))) : ∀ (z : Nat) (i : Int32), 0 ≤ i.toInt → i.toInt + 1 ≤ m.toInt → m.toInt - i.toInt < z → (∀ j : Nat, j < i.toInt.toNat → ¬ bFI J 85 86 87 m s.toInt.toNat j = lmn (bFI J 85 86 87 m s.toInt.toNat) m.toInt.toNat) → XW 197 mr_197 none (d + 1) 0 0 Q (30, [(5, .int i), (4, .int t), (3, .int nth), (2, .int s), (1, .int al), (0, .ref 83)], [], (sh, I, L, R)) := by
  have c83 : sh[83]? = some (.inr 10) := hw.1 83 _ rfl
  have c88 : sh[88]? = some (.inl (.int, 256)) := hw.1 88 _ rfl
  have r83_6 : R 83 6 = some 88 := hw.2.1 83 6 _ rfl
  have z1 : (1 : Int32).toInt = 1 := rfl
  have vm : I 83 1 = m := (hkp 83 1 (by decide)).trans em
  have p8 := pow8 (n := m.toInt.toNat) (by omega)
  have htr := tm_rng (D := rI J 85) (s := s.toInt.toNat) (c := 20) hJ5 (n := m.toInt.toNat)
  have xm := sub1I (m := m) (by omega) (by omega)
  have hab : ∀ u : Nat, s.toInt.toNat < u → u < 2 ^ m.toInt.toNat → (I 88 u).toInt = EEI J 85 86 87 m u := fun u _ h => by rw [hkp 88 u (by decide)]; exact h88 u h
  intro z
  induction z with
  | zero =>
    intro i h1 h2 hz
    exfalso
    omega
  | succ z ih =>
    intro i h1 h2 hz hno
    refine XW.fam (S' := (32, [(5, .int i), (4, .int t), (3, .int nth), (2, .int s), (1, .int al), (0, .ref 83)], [.int i], (sh, I, L, R))) (M := mr_197) rfl (show mcode 197 30 = some (30, .iload 5, 2, 0, 0, 0, _) from rfl) (Or.inl ⟨.int i, rfl, rfl⟩) ?_
    refine XW.fam (S' := (33, [(5, .int i), (4, .int t), (3, .int nth), (2, .int s), (1, .int al), (0, .ref 83)], [.ref 83, .int i], (sh, I, L, R))) (M := mr_197) rfl (show mcode 197 32 = some (32, .aload_n 0, 1, 0, 0, 0, _) from rfl) (Or.inl ⟨.ref 83, rfl, rfl⟩) ?_
    refine XW.fam (S' := (36, [(5, .int i), (4, .int t), (3, .int nth), (2, .int s), (1, .int al), (0, .ref 83)], [.int (I 83 1), .int i], (sh, I, L, R))) (M := mr_197) rfl (show mcode 197 33 = some (33, .getfield 47, 3, 10, 1, 0, _) from rfl) (Or.inr (Or.inr (Or.inr (Or.inr (Or.inr (Or.inr (Or.inr (Or.inl ⟨_, _, rfl, fl_ldI c83 (by decide) (by decide), rfl⟩)))))))) ?_
    rw [vm]
    refine XW.fam (S' := (37, [(5, .int i), (4, .int t), (3, .int nth), (2, .int s), (1, .int al), (0, .ref 83)], [.int 1, .int m, .int i], (sh, I, L, R))) (M := mr_197) rfl (show mcode 197 36 = some (36, .iconst 1, 1, 0, 0, 0, _) from rfl) (Or.inl ⟨.int 1, rfl, rfl⟩) ?_
    refine XW.fam (S' := (38, [(5, .int i), (4, .int t), (3, .int nth), (2, .int s), (1, .int al), (0, .ref 83)], [.int (m - 1), .int i], (sh, I, L, R))) (M := mr_197) rfl (show mcode 197 37 = some (37, .isub, 1, 0, 0, 0, _) from rfl) (Or.inr (Or.inr (Or.inr (Or.inr (Or.inr (Or.inl ⟨_, rfl, rfl⟩)))))) ?_
    cases k1 : bcmp .ge i (m - 1) with
    | true =>
      have gk1 : ((m - 1)).toInt ≤ (i).toInt := icT (c := .ge) (a := (i).toInt) (b := ((m - 1)).toInt) rfl rfl k1
      refine XW.fam (S' := (76, [(5, .int i), (4, .int t), (3, .int nth), (2, .int s), (1, .int al), (0, .ref 83)], [], (sh, I, L, R))) (M := mr_197) rfl (show mcode 197 38 = some (38, .if_icmp .ge 38, 3, 76, 0, 0, _) from rfl) (Or.inr (Or.inl ⟨76, [], by simp [brn, k1], rfl⟩)) ?_
      exact K i (am_last hE2 (by omega) hno) (by omega)
    | false =>
      have gk1 : ¬ (((m - 1)).toInt ≤ (i).toInt) := icF (c := .ge) (a := (i).toInt) (b := ((m - 1)).toInt) rfl rfl k1
      refine XW.fam (S' := (41, [(5, .int i), (4, .int t), (3, .int nth), (2, .int s), (1, .int al), (0, .ref 83)], [], (sh, I, L, R))) (M := mr_197) rfl (show mcode 197 38 = some (38, .if_icmp .ge 38, 3, 76, 0, 0, _) from rfl) (Or.inr (Or.inl ⟨41, [], by simp [brn, k1], rfl⟩)) ?_
      refine XW.fam (S' := (42, [(5, .int i), (4, .int t), (3, .int nth), (2, .int s), (1, .int al), (0, .ref 83)], [.ref 83], (sh, I, L, R))) (M := mr_197) rfl (show mcode 197 41 = some (41, .aload_n 0, 1, 0, 0, 0, _) from rfl) (Or.inl ⟨.ref 83, rfl, rfl⟩) ?_
      refine XW.fam (S' := (44, [(5, .int i), (4, .int t), (3, .int nth), (2, .int s), (1, .int al), (0, .ref 83)], [.int i, .ref 83], (sh, I, L, R))) (M := mr_197) rfl (show mcode 197 42 = some (42, .iload 5, 2, 0, 0, 0, _) from rfl) (Or.inl ⟨.int i, rfl, rfl⟩) ?_
      refine XW.fam (S' := (45, [(5, .int i), (4, .int t), (3, .int nth), (2, .int s), (1, .int al), (0, .ref 83)], [.int s, .int i, .ref 83], (sh, I, L, R))) (M := mr_197) rfl (show mcode 197 44 = some (44, .iload_n 2, 1, 0, 0, 0, _) from rfl) (Or.inl ⟨.int s, rfl, rfl⟩) ?_
      refine XW.fam (S' := (46, [(5, .int i), (4, .int t), (3, .int nth), (2, .int s), (1, .int al), (0, .ref 83)], [.int al, .int s, .int i, .ref 83], (sh, I, L, R))) (M := mr_197) rfl (show mcode 197 45 = some (45, .iload_n 1, 1, 0, 0, 0, _) from rfl) (Or.inl ⟨.int al, rfl, rfl⟩) ?_
      refine XW.call (d' := d) (mc' := 0) (ms' := 0) (av := [.ref 83, .int i, .int s, .int al]) (rest := []) (M := mr_197) (Ma := mr_195) rfl (show mcode 197 46 = some (46, .invokevirtual 56, 3, 195, 0, 0, _) from rfl) rfl (by decide) (by decide) ⟨rfl, 83, _, rfl, c83⟩ rfl rfl (show 0 ≤ 8 by decide) (tc_may (d := d) (i := i) (s := s) (al := al) hw (by omega) (by omega)) (by omega) (Nat.zero_le _) (Nat.zero_le _) (fun rQ2 wQ2 Q2 => ?_)
      obtain ⟨hQ2, rfl⟩ := Q2
      rcases hQ2 with ⟨rfl, gQ2⟩ | ⟨rfl, gQ2⟩
      · skip
        refine XW.fam (S' := (70, [(5, .int i), (4, .int t), (3, .int nth), (2, .int s), (1, .int al), (0, .ref 83)], [], (sh, I, L, R))) (M := mr_197) rfl (show mcode 197 49 = some (49, .ifCond .eq 21, 3, 70, 0, 0, _) from rfl) (Or.inr (Or.inl ⟨70, [], rfl, rfl⟩)) ?_
        refine XW.fam (S' := (73, [(5, .int (i + Int32.ofInt 1)), (4, .int t), (3, .int nth), (2, .int s), (1, .int al), (0, .ref 83)], [], (sh, I, L, R))) (M := mr_197) rfl (show mcode 197 70 = some (70, .iinc 5 1, 3, 0, 0, 0, _) from rfl) (Or.inr (Or.inr (Or.inr (Or.inr (Or.inr (Or.inr (Or.inr (Or.inr (Or.inr ⟨5, 1, i, rfl, rfl, by decide, rfl⟩))))))))) ?_
        refine XW.fam (S' := (30, [(5, .int (i + Int32.ofInt 1)), (4, .int t), (3, .int nth), (2, .int s), (1, .int al), (0, .ref 83)], [], (sh, I, L, R))) (M := mr_197) rfl (show mcode 197 73 = some (73, .goto (-43), 3, 30, 0, 0, _) from rfl) (Or.inr (Or.inl ⟨30, [], rfl, rfl⟩)) ?_
        have eo := incO (m := i) (by omega) (by omega)
        have hoA := okA_eq (A := J 87) (n := m) (al := al) (s := s) (i := i) (by omega) hal
        have e87 : J 87 (i).toNatClampNeg = I 87 (i).toNatClampNeg := (hkp 87 _ (by decide)).symm
        rw [e87] at hoA
        refine XW.sub (ls' := [(5, .int (i + Int32.ofInt 1)), (4, .int t), (3, .int nth), (2, .int s), (1, .int al), (0, .ref 83)]) (List.forall_mem_cons.mpr ⟨List.mem_of_getElem? (i := 0) rfl, (List.forall_mem_cons.mpr ⟨List.mem_of_getElem? (i := 1) rfl, (List.forall_mem_cons.mpr ⟨List.mem_of_getElem? (i := 2) rfl, (List.forall_mem_cons.mpr ⟨List.mem_of_getElem? (i := 3) rfl, (List.forall_mem_cons.mpr ⟨List.mem_of_getElem? (i := 4) rfl, (List.forall_mem_cons.mpr ⟨List.mem_of_getElem? (i := 5) rfl, (fun _ h => absurd h List.not_mem_nil)⟩)⟩)⟩)⟩)⟩)⟩) ?_
        refine ih (i + Int32.ofInt 1) (by omega) (by omega) (by omega) (fun j hj => ?_)
        by_cases ej : j = i.toInt.toNat
        · rw [ej]
          have efn := bFI_no (I := J) (qd := 85) (qb := 86) (qa := 87) (n := m) (s := s.toInt.toNat) (i := i.toInt.toNat) (fun q => gQ2 ⟨q.1, hoA.mp q.2⟩)
          omega
        · exact hno j (by omega)
      · skip
        refine XW.fam (S' := (52, [(5, .int i), (4, .int t), (3, .int nth), (2, .int s), (1, .int al), (0, .ref 83)], [], (sh, I, L, R))) (M := mr_197) rfl (show mcode 197 49 = some (49, .ifCond .eq 21, 3, 70, 0, 0, _) from rfl) (Or.inr (Or.inl ⟨52, [], rfl, rfl⟩)) ?_
        refine XW.fam (S' := (53, [(5, .int i), (4, .int t), (3, .int nth), (2, .int s), (1, .int al), (0, .ref 83)], [.ref 83], (sh, I, L, R))) (M := mr_197) rfl (show mcode 197 52 = some (52, .aload_n 0, 1, 0, 0, 0, _) from rfl) (Or.inl ⟨.ref 83, rfl, rfl⟩) ?_
        refine XW.fam (S' := (55, [(5, .int i), (4, .int t), (3, .int nth), (2, .int s), (1, .int al), (0, .ref 83)], [.int i, .ref 83], (sh, I, L, R))) (M := mr_197) rfl (show mcode 197 53 = some (53, .iload 5, 2, 0, 0, 0, _) from rfl) (Or.inl ⟨.int i, rfl, rfl⟩) ?_
        refine XW.fam (S' := (56, [(5, .int i), (4, .int t), (3, .int nth), (2, .int s), (1, .int al), (0, .ref 83)], [.int s, .int i, .ref 83], (sh, I, L, R))) (M := mr_197) rfl (show mcode 197 55 = some (55, .iload_n 2, 1, 0, 0, 0, _) from rfl) (Or.inl ⟨.int s, rfl, rfl⟩) ?_
        refine XW.fam (S' := (58, [(5, .int i), (4, .int t), (3, .int nth), (2, .int s), (1, .int al), (0, .ref 83)], [.int t, .int s, .int i, .ref 83], (sh, I, L, R))) (M := mr_197) rfl (show mcode 197 56 = some (56, .iload 4, 2, 0, 0, 0, _) from rfl) (Or.inl ⟨.int t, rfl, rfl⟩) ?_
        have hfit := bt_fit (n := m.toInt.toNat) (s := s.toInt.toNat) (i := i.toInt.toNat) (by omega) (by omega) (by omega) gQ2.1
        have hpp := @pow_pos2 i.toInt.toNat
        have eab := hab (s.toInt.toNat + 2 ^ i.toInt.toNat) (by omega) hfit
        have hEr := EE_rng (n := m.toInt.toNat) (D := rI J 85) (B := rI J 86) (ok := okA (J 87) m) (by omega) hJ5 hJ6 256 (s.toInt.toNat + 2 ^ i.toInt.toNat) hfit (by omega)
        have hEr : 0 ≤ EEI J 85 86 87 m (s.toInt.toNat + 2 ^ i.toInt.toNat) ∧ (EEI J 85 86 87 m (s.toInt.toNat + 2 ^ i.toInt.toNat) = 100000000 ∨ EEI J 85 86 87 m (s.toInt.toNat + 2 ^ i.toInt.toNat) ≤ 179820 * (256 : Nat)) := hEr
        refine XW.call (d' := d) (mc' := 0) (ms' := 0) (av := [.ref 83, .int i, .int s, .int t]) (rest := []) (M := mr_197) (Ma := mr_196) rfl (show mcode 197 58 = some (58, .invokevirtual 59, 3, 196, 0, 0, _) from rfl) rfl (by decide) (by decide) ⟨rfl, 83, _, rfl, c83⟩ rfl rfl (show 0 ≤ 8 by decide) (tc_with (d := d) (i := i) (s := s) (t := t) hw (by omega) (by omega) gQ2.1 (by omega) (by omega) (fun k hk => by rw [hk, eab]; omega)) (by omega) (Nat.zero_le _) (Nat.zero_le _) (fun rQ3 wQ3 Q3 => ?_)
        obtain ⟨⟨x, rfl, hx⟩, rfl⟩ := Q3
        refine XW.fam (S' := (62, [(5, .int i), (4, .int t), (3, .int nth), (2, .int s), (1, .int al), (0, .ref 83)], [.ref 83, .int x], (sh, I, L, R))) (M := mr_197) rfl (show mcode 197 61 = some (61, .aload_n 0, 1, 0, 0, 0, _) from rfl) (Or.inl ⟨.ref 83, rfl, rfl⟩) ?_
        refine XW.fam (S' := (65, [(5, .int i), (4, .int t), (3, .int nth), (2, .int s), (1, .int al), (0, .ref 83)], [.ref 88, .int x], (sh, I, L, R))) (M := mr_197) rfl (show mcode 197 62 = some (62, .getfield 24, 3, 10, 6, 0, _) from rfl) (Or.inr (Or.inr (Or.inr (Or.inr (Or.inr (Or.inr (Or.inr (Or.inl ⟨_, _, rfl, fl_ld c83 r83_6 (by decide) (by decide), rfl⟩)))))))) ?_
        refine XW.fam (S' := (66, [(5, .int i), (4, .int t), (3, .int nth), (2, .int s), (1, .int al), (0, .ref 83)], [.int s, .ref 88, .int x], (sh, I, L, R))) (M := mr_197) rfl (show mcode 197 65 = some (65, .iload_n 2, 1, 0, 0, 0, _) from rfl) (Or.inl ⟨.int s, rfl, rfl⟩) ?_
        have hin4 : inR s 256 = true := inR_of (by omega) (by omega)
        refine XW.fam (S' := (67, [(5, .int i), (4, .int t), (3, .int nth), (2, .int s), (1, .int al), (0, .ref 83)], [.int (I 88 (s).toNatClampNeg), .int x], (sh, I, L, R))) (M := mr_197) rfl (show mcode 197 66 = some (66, .iaload, 1, 0, 0, 0, _) from rfl) (Or.inr (Or.inr (Or.inl ⟨_, lda_i c88 hin4, rfl⟩))) ?_
        cases k5 : bcmp .eq x (I 88 (s).toNatClampNeg) with
        | true =>
          have gk5 : (x).toInt = ((I 88 (s).toNatClampNeg)).toInt := icT (c := .eq) (a := (x).toInt) (b := ((I 88 (s).toNatClampNeg)).toInt) rfl rfl k5
          refine XW.fam (S' := (76, [(5, .int i), (4, .int t), (3, .int nth), (2, .int s), (1, .int al), (0, .ref 83)], [], (sh, I, L, R))) (M := mr_197) rfl (show mcode 197 67 = some (67, .if_icmp .eq 9, 3, 76, 0, 0, _) from rfl) (Or.inr (Or.inl ⟨76, [], by simp [brn, k5], rfl⟩)) ?_
          have hoA := okA_eq (A := J 87) (n := m) (al := al) (s := s) (i := i) (by omega) hal
          have e87 : J 87 (i).toNatClampNeg = I 87 (i).toNatClampNeg := (hkp 87 _ (by decide)).symm
          rw [e87] at hoA
          have ef := bFI_yes (I := J) (qd := 85) (qb := 86) (qa := 87) (n := m) (s := s.toInt.toNat) (i := i.toInt.toNat) ⟨gQ2.1, hoA.mpr gQ2.2⟩
          have e88 : (I 88 (s).toNatClampNeg).toInt = EEI J 85 86 87 m s.toInt.toNat := by rw [hkp 88 _ (by decide)]; exact h88 s.toInt.toNat (by omega)
          rw [eab, hkp 86 i.toInt.toNat (by decide), hkp 85 i.toInt.toNat (by decide), ht] at hx
          exact K i (am_first hE2 (by omega) (by rw [ef, ← hx, ← hst]; omega) hno) (by omega)
        | false =>
          have gk5 : ¬ ((x).toInt = ((I 88 (s).toNatClampNeg)).toInt) := icF (c := .eq) (a := (x).toInt) (b := ((I 88 (s).toNatClampNeg)).toInt) rfl rfl k5
          refine XW.fam (S' := (70, [(5, .int i), (4, .int t), (3, .int nth), (2, .int s), (1, .int al), (0, .ref 83)], [], (sh, I, L, R))) (M := mr_197) rfl (show mcode 197 67 = some (67, .if_icmp .eq 9, 3, 76, 0, 0, _) from rfl) (Or.inr (Or.inl ⟨70, [], by simp [brn, k5], rfl⟩)) ?_
          refine XW.fam (S' := (73, [(5, .int (i + Int32.ofInt 1)), (4, .int t), (3, .int nth), (2, .int s), (1, .int al), (0, .ref 83)], [], (sh, I, L, R))) (M := mr_197) rfl (show mcode 197 70 = some (70, .iinc 5 1, 3, 0, 0, 0, _) from rfl) (Or.inr (Or.inr (Or.inr (Or.inr (Or.inr (Or.inr (Or.inr (Or.inr (Or.inr ⟨5, 1, i, rfl, rfl, by decide, rfl⟩))))))))) ?_
          refine XW.fam (S' := (30, [(5, .int (i + Int32.ofInt 1)), (4, .int t), (3, .int nth), (2, .int s), (1, .int al), (0, .ref 83)], [], (sh, I, L, R))) (M := mr_197) rfl (show mcode 197 73 = some (73, .goto (-43), 3, 30, 0, 0, _) from rfl) (Or.inr (Or.inl ⟨30, [], rfl, rfl⟩)) ?_
          have eo := incO (m := i) (by omega) (by omega)
          have hoA := okA_eq (A := J 87) (n := m) (al := al) (s := s) (i := i) (by omega) hal
          have e87 : J 87 (i).toNatClampNeg = I 87 (i).toNatClampNeg := (hkp 87 _ (by decide)).symm
          rw [e87] at hoA
          refine XW.sub (ls' := [(5, .int (i + Int32.ofInt 1)), (4, .int t), (3, .int nth), (2, .int s), (1, .int al), (0, .ref 83)]) (List.forall_mem_cons.mpr ⟨List.mem_of_getElem? (i := 0) rfl, (List.forall_mem_cons.mpr ⟨List.mem_of_getElem? (i := 1) rfl, (List.forall_mem_cons.mpr ⟨List.mem_of_getElem? (i := 2) rfl, (List.forall_mem_cons.mpr ⟨List.mem_of_getElem? (i := 3) rfl, (List.forall_mem_cons.mpr ⟨List.mem_of_getElem? (i := 4) rfl, (List.forall_mem_cons.mpr ⟨List.mem_of_getElem? (i := 5) rfl, (fun _ h => absurd h List.not_mem_nil)⟩)⟩)⟩)⟩)⟩)⟩) ?_
          refine ih (i + Int32.ofInt 1) (by omega) (by omega) (by omega) (fun j hj => ?_)
          by_cases ej : j = i.toInt.toNat
          · rw [ej]
            have ef := bFI_yes (I := J) (qd := 85) (qb := 86) (qa := 87) (n := m) (s := s.toInt.toNat) (i := i.toInt.toNat) ⟨gQ2.1, hoA.mpr gQ2.2⟩
            have e88 : (I 88 (s).toNatClampNeg).toInt = EEI J 85 86 87 m s.toInt.toNat := by rw [hkp 88 _ (by decide)]; exact h88 s.toInt.toNat (by omega)
            rw [eab, hkp 86 i.toInt.toNat (by decide), hkp 85 i.toInt.toNat (by decide), ht] at hx
            rw [ef, ← hx, ← hst]
            omega
          · exact hno j (by omega)
theorem note_lp {d : Nat} {sh : List mE} {J : Nat → Nat → Int32} {L : Nat → Nat → Int64} {R : Nat → Nat → Option Nat} {m : Int32} {al : Int32} (hm : 1 ≤ m.toInt ∧ m.toInt ≤ 8) (em : J 83 1 = m) (hal : (1 <<< (m &&& 31)) - 1 = al) (hal2 : al.toInt + 1 = ((2 ^ m.toInt.toNat : Nat) : Int)) (hJ5 : ∀ k, 0 ≤ (J 85 k).toInt ∧ (J 85 k).toInt ≤ 20) (hJ6 : ∀ k, 0 ≤ (J 86 k).toInt ∧ (J 86 k).toInt ≤ 999) (h88 : ∀ u : Nat, u < 2 ^ m.toInt.toNat → (J 88 u).toInt = EEI J 85 86 87 m u) : ∀ (z : Nat) {I : Nat → Nat → Int32} (nth s : Int32), 0 ≤ nth.toInt → nth.toInt ≤ m.toInt → m.toInt - nth.toInt < z → wOK (mkT vV []) (wE sh R) (sh, I, L, R) → fresh (sh, I, L, R) → (∀ q k, ¬ q = 89 → I q k = J q k) → s.toInt.toNat = pth (gOr J 85 86 87 m) 0 nth.toInt.toNat → (0 ≤ s.toInt ∧ s.toInt < ((2 ^ m.toInt.toNat : Nat) : Int)) → nth.toInt = tmS (fun _ => 1) s.toInt.toNat m.toInt.toNat → EEI J 85 86 87 m s.toInt.toNat < 100000000 → (∀ k : Nat, k < nth.toInt.toNat → I 89 k = J 84 (gOr J 85 86 87 m (pth (gOr J 85 86 87 m) 0 k))) → XW 197 mr_197 none (d + 1) 0 0 (fun r w' => r = none ∧ fresh w' ∧ wOK (mkT vV []) (wE sh R) w' ∧ (∀ q k, ¬ q = 89 → w'.2.1 q k = J q k) ∧ ∀ k : Nat, k < m.toInt.toNat → w'.2.1 89 k = J 84 (gOr J 85 86 87 m (pth (gOr J 85 86 87 m) 0 k))) (12, [(3, .int nth), (2, .int s), (1, .int al), (0, .ref 83)], [], (sh, I, L, R)) := by
  have z0 : (0 : Int32).toInt = 0 := rfl
  have z1 : (1 : Int32).toInt = 1 := rfl
  have p8 := pow8 (n := m.toInt.toNat) (by omega)
  intro z
  induction z with
  | zero =>
    intro I nth s h1 h2 hz
    exfalso
    omega
  | succ z ih =>
    intro I nth s h1 h2 hz hw hf hkp hp hs hcd hE hrow
    have c83 : sh[83]? = some (.inr 10) := hw.1 83 _ rfl
    have c84 : sh[84]? = some (.inl (.int, 8)) := hw.1 84 _ rfl
    have c89 : sh[89]? = some (.inl (.int, 8)) := hw.1 89 _ rfl
    have r83_2 : R 83 2 = some 84 := hw.2.1 83 2 _ rfl
    have r83_8 : R 83 8 = some 89 := hw.2.1 83 8 _ rfl
    have vm : I 83 1 = m := (hkp 83 1 (by decide)).trans em
    refine XW.fam (S' := (13, [(3, .int nth), (2, .int s), (1, .int al), (0, .ref 83)], [.int nth], (sh, I, L, R))) (M := mr_197) rfl (show mcode 197 12 = some (12, .iload_n 3, 1, 0, 0, 0, _) from rfl) (Or.inl ⟨.int nth, rfl, rfl⟩) ?_
    refine XW.fam (S' := (14, [(3, .int nth), (2, .int s), (1, .int al), (0, .ref 83)], [.ref 83, .int nth], (sh, I, L, R))) (M := mr_197) rfl (show mcode 197 13 = some (13, .aload_n 0, 1, 0, 0, 0, _) from rfl) (Or.inl ⟨.ref 83, rfl, rfl⟩) ?_
    refine XW.fam (S' := (17, [(3, .int nth), (2, .int s), (1, .int al), (0, .ref 83)], [.int (I 83 1), .int nth], (sh, I, L, R))) (M := mr_197) rfl (show mcode 197 14 = some (14, .getfield 47, 3, 10, 1, 0, _) from rfl) (Or.inr (Or.inr (Or.inr (Or.inr (Or.inr (Or.inr (Or.inr (Or.inl ⟨_, _, rfl, fl_ldI c83 (by decide) (by decide), rfl⟩)))))))) ?_
    rw [vm]
    cases k1 : bcmp .ge nth m with
    | true =>
      have gk1 : (m).toInt ≤ (nth).toInt := icT (c := .ge) (a := (nth).toInt) (b := (m).toInt) rfl rfl k1
      refine XW.fam (S' := (102, [(3, .int nth), (2, .int s), (1, .int al), (0, .ref 83)], [], (sh, I, L, R))) (M := mr_197) rfl (show mcode 197 17 = some (17, .if_icmp .ge 85, 3, 102, 0, 0, _) from rfl) (Or.inr (Or.inl ⟨102, [], by simp [brn, k1], rfl⟩)) ?_
      refine XW.ret (r := none) ⟨rfl, by decide +kernel⟩ ?_
      have en : nth.toInt.toNat = m.toInt.toNat := by omega
      exact ⟨rfl, hf, hw, hkp, fun k hk => hrow k (by omega)⟩
    | false =>
      have gk1 : ¬ ((m).toInt ≤ (nth).toInt) := icF (c := .ge) (a := (nth).toInt) (b := (m).toInt) rfl rfl k1
      refine XW.fam (S' := (20, [(3, .int nth), (2, .int s), (1, .int al), (0, .ref 83)], [], (sh, I, L, R))) (M := mr_197) rfl (show mcode 197 17 = some (17, .if_icmp .ge 85, 3, 102, 0, 0, _) from rfl) (Or.inr (Or.inl ⟨20, [], by simp [brn, k1], rfl⟩)) ?_
      refine XW.fam (S' := (21, [(3, .int nth), (2, .int s), (1, .int al), (0, .ref 83)], [.ref 83], (sh, I, L, R))) (M := mr_197) rfl (show mcode 197 20 = some (20, .aload_n 0, 1, 0, 0, 0, _) from rfl) (Or.inl ⟨.ref 83, rfl, rfl⟩) ?_
      refine XW.fam (S' := (22, [(3, .int nth), (2, .int s), (1, .int al), (0, .ref 83)], [.int s, .ref 83], (sh, I, L, R))) (M := mr_197) rfl (show mcode 197 21 = some (21, .iload_n 2, 1, 0, 0, 0, _) from rfl) (Or.inl ⟨.int s, rfl, rfl⟩) ?_
      refine XW.call (d' := d) (mc' := 0) (ms' := 0) (av := [.ref 83, .int s]) (rest := []) (M := mr_197) (Ma := mr_194) rfl (show mcode 197 22 = some (22, .invokevirtual 52, 3, 194, 0, 0, _) from rfl) rfl (by decide) (by decide) ⟨rfl, 83, _, rfl, c83⟩ rfl rfl (show 0 ≤ 8 by decide) (tc_time (d := d) (s := s) (m := m) hw (by omega) vm (by omega)) (by omega) (Nat.zero_le _) (Nat.zero_le _) (fun rQ2 wQ2 Q2 => ?_)
      obtain ⟨⟨t, rfl, ht0⟩, rfl⟩ := Q2
      refine XW.fam (S' := (27, [(4, .int t), (3, .int nth), (2, .int s), (1, .int al), (0, .ref 83)], [], (sh, I, L, R))) (M := mr_197) rfl (show mcode 197 25 = some (25, .istore 4, 2, 0, 0, 0, _) from rfl) (Or.inr (Or.inr (Or.inr (Or.inr (Or.inr (Or.inr (Or.inl ⟨_, [], _, rfl, rfl, rfl⟩))))))) ?_
      refine XW.fam (S' := (28, [(4, .int t), (3, .int nth), (2, .int s), (1, .int al), (0, .ref 83)], [.int 0], (sh, I, L, R))) (M := mr_197) rfl (show mcode 197 27 = some (27, .iconst 0, 1, 0, 0, 0, _) from rfl) (Or.inl ⟨.int 0, rfl, rfl⟩) ?_
      refine XW.fam (S' := (30, [(5, .int 0), (4, .int t), (3, .int nth), (2, .int s), (1, .int al), (0, .ref 83)], [], (sh, I, L, R))) (M := mr_197) rfl (show mcode 197 28 = some (28, .istore 5, 2, 0, 0, 0, _) from rfl) (Or.inr (Or.inr (Or.inr (Or.inr (Or.inr (Or.inr (Or.inl ⟨_, [], _, rfl, rfl, rfl⟩))))))) ?_
      have hnf : ¬ s.toInt.toNat + 1 = 2 ^ m.toInt.toNat := fun q => by have := (cd_full (n := m.toInt.toNat) (s := s.toInt.toNat) (by omega) (by omega)).mpr q; omega
      have hst := EEI_step (I := J) (qd := 85) (qb := 86) (qa := 87) (n := m) (s := s.toInt.toNat) (by omega) (by omega)
      have e85 : rI I 85 = rI J 85 := by
        funext k
        unfold rI
        rw [hkp 85 k (by decide)]
      rw [e85] at ht0
      obtain ⟨g1, g2, g3, g4, g5⟩ := gOr_ok (I := J) (qd := 85) (qb := 86) (qa := 87) (n := m) (u := s.toInt.toNat) (by omega) hJ5 hJ6 (by omega) hE
      refine XW.sub (ls' := [(5, .int 0), (4, .int t), (3, .int nth), (2, .int s), (1, .int al), (0, .ref 83)]) (List.forall_mem_cons.mpr ⟨List.mem_of_getElem? (i := 0) rfl, (List.forall_mem_cons.mpr ⟨List.mem_of_getElem? (i := 1) rfl, (List.forall_mem_cons.mpr ⟨List.mem_of_getElem? (i := 2) rfl, (List.forall_mem_cons.mpr ⟨List.mem_of_getElem? (i := 3) rfl, (List.forall_mem_cons.mpr ⟨List.mem_of_getElem? (i := 4) rfl, (List.forall_mem_cons.mpr ⟨List.mem_of_getElem? (i := 5) rfl, (fun _ h => absurd h List.not_mem_nil)⟩)⟩)⟩)⟩)⟩)⟩) ?_
      refine note_in (d := d) hm em hal hal2 hJ5 hJ6 h88 (by omega) ht0 hst (by rw [← hst]; exact hE) hw hkp (fun i hi hi2 => ?_) 9 0 (by decide) (by omega) (by omega) (fun j hj => absurd hj (Nat.not_lt_zero _))
      rw [hi] at g1 g2 g3 g4 g5
      refine XW.fam (S' := (77, [(5, .int i), (4, .int t), (3, .int nth), (2, .int s), (1, .int al), (0, .ref 83)], [.ref 83], (sh, I, L, R))) (M := mr_197) rfl (show mcode 197 76 = some (76, .aload_n 0, 1, 0, 0, 0, _) from rfl) (Or.inl ⟨.ref 83, rfl, rfl⟩) ?_
      refine XW.fam (S' := (80, [(5, .int i), (4, .int t), (3, .int nth), (2, .int s), (1, .int al), (0, .ref 83)], [.ref 89], (sh, I, L, R))) (M := mr_197) rfl (show mcode 197 77 = some (77, .getfield 27, 3, 10, 8, 0, _) from rfl) (Or.inr (Or.inr (Or.inr (Or.inr (Or.inr (Or.inr (Or.inr (Or.inl ⟨_, _, rfl, fl_ld c83 r83_8 (by decide) (by decide), rfl⟩)))))))) ?_
      refine XW.fam (S' := (81, [(5, .int i), (4, .int t), (3, .int nth), (2, .int s), (1, .int al), (0, .ref 83)], [.int nth, .ref 89], (sh, I, L, R))) (M := mr_197) rfl (show mcode 197 80 = some (80, .iload_n 3, 1, 0, 0, 0, _) from rfl) (Or.inl ⟨.int nth, rfl, rfl⟩) ?_
      refine XW.fam (S' := (82, [(5, .int i), (4, .int t), (3, .int nth), (2, .int s), (1, .int al), (0, .ref 83)], [.ref 83, .int nth, .ref 89], (sh, I, L, R))) (M := mr_197) rfl (show mcode 197 81 = some (81, .aload_n 0, 1, 0, 0, 0, _) from rfl) (Or.inl ⟨.ref 83, rfl, rfl⟩) ?_
      refine XW.fam (S' := (85, [(5, .int i), (4, .int t), (3, .int nth), (2, .int s), (1, .int al), (0, .ref 83)], [.ref 84, .int nth, .ref 89], (sh, I, L, R))) (M := mr_197) rfl (show mcode 197 82 = some (82, .getfield 11, 3, 10, 2, 0, _) from rfl) (Or.inr (Or.inr (Or.inr (Or.inr (Or.inr (Or.inr (Or.inr (Or.inl ⟨_, _, rfl, fl_ld c83 r83_2 (by decide) (by decide), rfl⟩)))))))) ?_
      refine XW.fam (S' := (87, [(5, .int i), (4, .int t), (3, .int nth), (2, .int s), (1, .int al), (0, .ref 83)], [.int i, .ref 84, .int nth, .ref 89], (sh, I, L, R))) (M := mr_197) rfl (show mcode 197 85 = some (85, .iload 5, 2, 0, 0, 0, _) from rfl) (Or.inl ⟨.int i, rfl, rfl⟩) ?_
      have hin3 : inR i 8 = true := inR_of (by omega) (by omega)
      refine XW.fam (S' := (88, [(5, .int i), (4, .int t), (3, .int nth), (2, .int s), (1, .int al), (0, .ref 83)], [.int (I 84 (i).toNatClampNeg), .int nth, .ref 89], (sh, I, L, R))) (M := mr_197) rfl (show mcode 197 87 = some (87, .iaload, 1, 0, 0, 0, _) from rfl) (Or.inr (Or.inr (Or.inl ⟨_, lda_i c84 hin3, rfl⟩))) ?_
      have h84 : 0 ≤ (I 84 (i).toNatClampNeg).toInt ∧ (I 84 (i).toNatClampNeg).toInt ≤ 19 := hw.2.2.1 84 _
      have hin4 : inR nth 8 = true := inR_of (by omega) (by omega)
      obtain ⟨I5, eI5⟩ : ∃ X, X = up2 I 89 (nth).toNatClampNeg (I 84 (i).toNatClampNeg) := ⟨_, rfl⟩
      refine XW.fam (S' := (89, [(5, .int i), (4, .int t), (3, .int nth), (2, .int s), (1, .int al), (0, .ref 83)], [], (sh, I5, L, R))) (M := mr_197) rfl (show mcode 197 88 = some (88, .iastore, 1, 0, 0, 0, _) from rfl) (Or.inr (Or.inr (Or.inr (Or.inl ⟨_, _, by rw [eI5]; exact sta_i c89 hin4, rfl⟩)))) ?_
      have hwI5 : wOK (mkT vV []) (wE sh R) (sh, I5, L, R) := by rw [eI5]; exact wOK_u2 (q := 89) (k := (nth).toNatClampNeg) (x := (I 84 (i).toNatClampNeg)) wE_put hw rfl (by show (0 : Int) ≤ _; omega) (by show _ ≤ (19 : Int); omega)
      have hfI5 : fresh (sh, I5, L, R) := by rw [eI5]; exact fresh_I hf c89
      have v6 : I5 83 1 = m := by rw [eI5, up2_ne (fun e => by cases e.1)]; exact vm
      have v7 : I5 89 (nth).toNatClampNeg = (I 84 (i).toNatClampNeg) := by rw [eI5]; exact up2_eq
      refine XW.fam (S' := (90, [(5, .int i), (4, .int t), (3, .int nth), (2, .int s), (1, .int al), (0, .ref 83)], [.int s], (sh, I5, L, R))) (M := mr_197) rfl (show mcode 197 89 = some (89, .iload_n 2, 1, 0, 0, 0, _) from rfl) (Or.inl ⟨.int s, rfl, rfl⟩) ?_
      refine XW.fam (S' := (91, [(5, .int i), (4, .int t), (3, .int nth), (2, .int s), (1, .int al), (0, .ref 83)], [.int 1, .int s], (sh, I5, L, R))) (M := mr_197) rfl (show mcode 197 90 = some (90, .iconst 1, 1, 0, 0, 0, _) from rfl) (Or.inl ⟨.int 1, rfl, rfl⟩) ?_
      refine XW.fam (S' := (93, [(5, .int i), (4, .int t), (3, .int nth), (2, .int s), (1, .int al), (0, .ref 83)], [.int i, .int 1, .int s], (sh, I5, L, R))) (M := mr_197) rfl (show mcode 197 91 = some (91, .iload 5, 2, 0, 0, 0, _) from rfl) (Or.inl ⟨.int i, rfl, rfl⟩) ?_
      refine XW.fam (S' := (94, [(5, .int i), (4, .int t), (3, .int nth), (2, .int s), (1, .int al), (0, .ref 83)], [.int (1 <<< (i &&& 31)), .int s], (sh, I5, L, R))) (M := mr_197) rfl (show mcode 197 93 = some (93, .ishl, 1, 0, 0, 0, _) from rfl) (Or.inr (Or.inr (Or.inr (Or.inr (Or.inr (Or.inl ⟨_, rfl, rfl⟩)))))) ?_
      refine XW.fam (S' := (95, [(5, .int i), (4, .int t), (3, .int nth), (2, .int s), (1, .int al), (0, .ref 83)], [.int (s ||| (1 <<< (i &&& 31)))], (sh, I5, L, R))) (M := mr_197) rfl (show mcode 197 94 = some (94, .ior, 1, 0, 0, 0, _) from rfl) (Or.inr (Or.inr (Or.inr (Or.inr (Or.inr (Or.inl ⟨_, rfl, rfl⟩)))))) ?_
      refine XW.fam (S' := (96, [(2, .int (s ||| (1 <<< (i &&& 31)))), (5, .int i), (4, .int t), (3, .int nth), (1, .int al), (0, .ref 83)], [], (sh, I5, L, R))) (M := mr_197) rfl (show mcode 197 95 = some (95, .istore_n 2, 1, 0, 0, 0, _) from rfl) (Or.inr (Or.inr (Or.inr (Or.inr (Or.inr (Or.inr (Or.inl ⟨_, [], _, rfl, rfl, rfl⟩))))))) ?_
      refine XW.fam (S' := (99, [(3, .int (nth + Int32.ofInt 1)), (2, .int (s ||| (1 <<< (i &&& 31)))), (5, .int i), (4, .int t), (1, .int al), (0, .ref 83)], [], (sh, I5, L, R))) (M := mr_197) rfl (show mcode 197 96 = some (96, .iinc 3 1, 3, 0, 0, 0, _) from rfl) (Or.inr (Or.inr (Or.inr (Or.inr (Or.inr (Or.inr (Or.inr (Or.inr (Or.inr ⟨3, 1, nth, rfl, rfl, by decide, rfl⟩))))))))) ?_
      refine XW.fam (S' := (12, [(3, .int (nth + Int32.ofInt 1)), (2, .int (s ||| (1 <<< (i &&& 31)))), (5, .int i), (4, .int t), (1, .int al), (0, .ref 83)], [], (sh, I5, L, R))) (M := mr_197) rfl (show mcode 197 99 = some (99, .goto (-87), 3, 12, 0, 0, _) from rfl) (Or.inr (Or.inl ⟨12, [], rfl, rfl⟩)) ?_
      have eo := incO (m := nth) (by omega) (by omega)
      have en : (nth + Int32.ofInt 1).toInt.toNat = nth.toInt.toNat + 1 := by omega
      have eor := b_or (s := s) (i := i) (by omega) (by omega) g2
      have eon : ((s ||| (1 <<< (i &&& 31)))).toInt.toNat = s.toInt.toNat + 2 ^ i.toInt.toNat := by rw [eor]; exact Int.toNat_natCast _
      have ek : (nth).toNatClampNeg = nth.toInt.toNat := rfl
      refine XW.sub (ls' := [(3, .int (nth + Int32.ofInt 1)), (2, .int (s ||| (1 <<< (i &&& 31)))), (1, .int al), (0, .ref 83)]) (List.forall_mem_cons.mpr ⟨List.mem_of_getElem? (i := 0) rfl, (List.forall_mem_cons.mpr ⟨List.mem_of_getElem? (i := 1) rfl, (List.forall_mem_cons.mpr ⟨List.mem_of_getElem? (i := 4) rfl, (List.forall_mem_cons.mpr ⟨List.mem_of_getElem? (i := 5) rfl, (fun _ h => absurd h List.not_mem_nil)⟩)⟩)⟩)⟩) ?_
      refine ih (nth + Int32.ofInt 1) (s ||| (1 <<< (i &&& 31))) (by omega) (by omega) (by omega) hwI5 hfI5 (fun q k hq => by rw [eI5, up2_ne (fun e => hq e.1)]; exact hkp q k hq) ?_ ?_ ?_ ?_ (fun k hk => ?_)
      · rw [eon, en, pth_snoc, ← hp, hi]
      · rw [eor]
        exact ⟨Int.natCast_nonneg _, Int.ofNat_lt.mpr g4⟩
      · rw [eon, tm_put (by omega) (by omega) g2 (by omega) (by omega), ← hcd]
        omega
      · rw [eon]
        exact g5
      · by_cases e : k = nth.toInt.toNat
        · rw [e, eI5]
          show up2 I 89 nth.toInt.toNat (I 84 (i).toNatClampNeg) 89 nth.toInt.toNat = _
          rw [up2_eq, ← hp, hi, hkp 84 _ (by decide)]
          rfl
        · rw [eI5, up2_ne (fun z => e (z.2.trans ek))]
          exact hrow k (by omega)
theorem XW.imp {j : Nat} {M : mMt} {X : mX} {d mc ms : Nat} {Q Q' : Option Value → mW → Prop} {S : mS} (h : ∀ r w, Q r w → Q' r w) (K : XW j M X d mc ms Q S) : XW j M X d mc ms Q' S := by
  intro D base xa p l e R s m args below meth c Z H locs cells slots lsA cA hC hfr hlo hce hsl hH hL hl hret
  exact K D base xa p l e R s m args below meth c Z H locs cells slots lsA cA hC hfr hlo hce hsl hH hL hl (fun r w2 H2 locs2 ls2 cA2 c2 s2 pc2 q1 => hret r w2 H2 locs2 ls2 cA2 c2 s2 pc2 (h r w2 q1))
theorem tc_note {d : Nat} {sh : List mE} {I : Nat → Nat → Int32} {L : Nat → Nat → Int64} {R : Nat → Nat → Option Nat} {al m : Int32} (hw : wOK (mkT vV []) (wE sh R) (sh, I, L, R)) (hf : fresh (sh, I, L, R)) (hm : 1 ≤ m.toInt ∧ m.toInt ≤ 8) (em : I 83 1 = m) (hal : (1 <<< (m &&& 31)) - 1 = al) (hal2 : al.toInt + 1 = ((2 ^ m.toInt.toNat : Nat) : Int)) (h88 : ∀ u : Nat, u < 2 ^ m.toInt.toNat → (I 88 u).toInt = EEI I 85 86 87 m u) (hE : EEI I 85 86 87 m 0 < 100000000) : Tc 197 (d + 1) 0 0 [.ref 83, .int al] (sh, I, L, R) (fun r w' => r = none ∧ fresh w' ∧ wOK (mkT vV []) (wE sh R) w' ∧ (∀ q k, inm [(83, some 7), (89, none)] q k = false → w'.2.1 q k = I q k) ∧ w'.2.1 83 7 = m ∧ ∀ k : Nat, k < m.toInt.toNat → w'.2.1 89 k = I 84 (gOr I 85 86 87 m (pth (gOr I 85 86 87 m) 0 k))) := by
  have c83 : sh[83]? = some (.inr 10) := hw.1 83 _ rfl
  have z0 : (0 : Int32).toInt = 0 := rfl
  have p8 := pow8 (n := m.toInt.toNat) (by omega)
  refine Tc.of mr_197 rfl (show 2 ≤ mr_197.2.2.2.1 by decide) ?_
  refine XW.fam (S' := (1, [(0, .ref 83), (1, .int al)], [.int 0], (sh, I, L, R))) (M := mr_197) rfl (show mcode 197 0 = some (0, .iconst 0, 1, 0, 0, 0, _) from rfl) (Or.inl ⟨.int 0, rfl, rfl⟩) ?_
  refine XW.fam (S' := (2, [(2, .int 0), (0, .ref 83), (1, .int al)], [], (sh, I, L, R))) (M := mr_197) rfl (show mcode 197 1 = some (1, .istore_n 2, 1, 0, 0, 0, _) from rfl) (Or.inr (Or.inr (Or.inr (Or.inr (Or.inr (Or.inr (Or.inl ⟨_, [], _, rfl, rfl, rfl⟩))))))) ?_
  refine XW.fam (S' := (3, [(2, .int 0), (0, .ref 83), (1, .int al)], [.ref 83], (sh, I, L, R))) (M := mr_197) rfl (show mcode 197 2 = some (2, .aload_n 0, 1, 0, 0, 0, _) from rfl) (Or.inl ⟨.ref 83, rfl, rfl⟩) ?_
  refine XW.fam (S' := (4, [(2, .int 0), (0, .ref 83), (1, .int al)], [.ref 83, .ref 83], (sh, I, L, R))) (M := mr_197) rfl (show mcode 197 3 = some (3, .aload_n 0, 1, 0, 0, 0, _) from rfl) (Or.inl ⟨.ref 83, rfl, rfl⟩) ?_
  refine XW.fam (S' := (7, [(2, .int 0), (0, .ref 83), (1, .int al)], [.int (I 83 1), .ref 83], (sh, I, L, R))) (M := mr_197) rfl (show mcode 197 4 = some (4, .getfield 47, 3, 10, 1, 0, _) from rfl) (Or.inr (Or.inr (Or.inr (Or.inr (Or.inr (Or.inr (Or.inr (Or.inl ⟨_, _, rfl, fl_ldI c83 (by decide) (by decide), rfl⟩)))))))) ?_
  rw [em]
  obtain ⟨I1, eI1⟩ : ∃ X, X = up2 I 83 7 m := ⟨_, rfl⟩
  refine XW.fam (S' := (10, [(2, .int 0), (0, .ref 83), (1, .int al)], [], (sh, I1, L, R))) (M := mr_197) rfl (show mcode 197 7 = some (7, .putfield 73, 3, 10, 7, 0, _) from rfl) (Or.inr (Or.inr (Or.inr (Or.inr (Or.inr (Or.inr (Or.inr (Or.inr (Or.inl ⟨_, _, _, rfl, by rw [eI1]; exact stf_I c83 (by decide) (by decide) (by decide), rfl⟩))))))))) ?_
  have hwI1 : wOK (mkT vV []) (wE sh R) (sh, I1, L, R) := by rw [eI1]; exact wOK_u2 (q := 83) (k := 7) (x := m) wE_put hw rfl (by show (0 : Int) ≤ _; omega) (by show _ ≤ (8 : Int); omega)
  have hfI1 : fresh (sh, I1, L, R) := by rw [eI1]; exact fresh_I hf c83
  have v2 : I1 83 1 = m := by rw [eI1, up2_ne (fun e => by cases e.2)]; exact em
  have v3 : I1 83 7 = m := by rw [eI1]; exact up2_eq
  refine XW.fam (S' := (11, [(2, .int 0), (0, .ref 83), (1, .int al)], [.int 0], (sh, I1, L, R))) (M := mr_197) rfl (show mcode 197 10 = some (10, .iconst 0, 1, 0, 0, 0, _) from rfl) (Or.inl ⟨.int 0, rfl, rfl⟩) ?_
  refine XW.fam (S' := (12, [(3, .int 0), (2, .int 0), (0, .ref 83), (1, .int al)], [], (sh, I1, L, R))) (M := mr_197) rfl (show mcode 197 11 = some (11, .istore_n 3, 1, 0, 0, 0, _) from rfl) (Or.inr (Or.inr (Or.inr (Or.inr (Or.inr (Or.inr (Or.inl ⟨_, [], _, rfl, rfl, rfl⟩))))))) ?_
  have kr : ∀ q k, ¬ (q = 83 ∧ k = 7) → I1 q k = I q k := fun q k h => by rw [eI1, up2_ne h]
  have kE := gOr_congr (I := I1) (I' := I) (qd := 85) (qb := 86) (qa := 87) (qd' := 85) (qb' := 86) (qa' := 87) (n := m) (fun k => kr 85 k (fun e => by cases e.1)) (fun k => kr 86 k (fun e => by cases e.1)) (fun k => kr 87 k (fun e => by cases e.1))
  have z0n : (0 : Int32).toInt.toNat = 0 := rfl
  refine XW.sub (ls' := [(3, .int 0), (2, .int 0), (1, .int al), (0, .ref 83)]) (List.forall_mem_cons.mpr ⟨List.mem_of_getElem? (i := 0) rfl, (List.forall_mem_cons.mpr ⟨List.mem_of_getElem? (i := 1) rfl, (List.forall_mem_cons.mpr ⟨List.mem_of_getElem? (i := 3) rfl, (List.forall_mem_cons.mpr ⟨List.mem_of_getElem? (i := 2) rfl, (fun _ h => absurd h List.not_mem_nil)⟩)⟩)⟩)⟩) ?_
  refine XW.imp (fun r w2 hq => ?_) (note_lp (d := d) (J := I1) (al := al) hm v2 hal hal2 (fun k => hwI1.2.2.1 85 k) (fun k => hwI1.2.2.1 86 k) (fun u hu => by rw [kr 88 u (fun e => by cases e.1), kE.2]; exact h88 u hu) 9 0 0 (by decide) (by omega) (by omega) hwI1 hfI1 (fun _ _ _ => rfl) rfl ⟨by decide, by omega⟩ (by rw [z0n, tm_zero]; rfl) (by rw [z0n, kE.2]; exact hE) (fun k hk => absurd hk (Nat.not_lt_zero _)))
  obtain ⟨q1, q2, q3, q4, q5⟩ := hq
  refine ⟨q1, q2, q3, fun q k h => ?_, ?_, fun k hk => ?_⟩
  · rw [q4 q k (fun e => by rw [e] at h; cases h)]
    exact kr q k (fun e => by rw [e.1, e.2] at h; cases h)
  · rw [q4 83 7 (by decide)]
    exact v3
  · rw [q5 k hk, kE.1]
    exact kr 84 _ (fun e => by cases e.1)
/-- bread, and what becomes of the order: as it was, or the first order of the least bread -/
def Qor (qn kn qd qb qa qp qo ko qr : Nat) (w w' : mW) : Prop := ((w.2.1 qn kn).toInt = 0 ∨ ¬ EEI w.2.1 qd qb qa (w.2.1 qn kn) 0 < 100000000) ∧ w'.2.1 qo ko = w.2.1 qo ko ∧ (∀ k, w'.2.1 qr k = w.2.1 qr k) ∨ (¬ (w.2.1 qn kn).toInt = 0 ∧ EEI w.2.1 qd qb qa (w.2.1 qn kn) 0 < 100000000) ∧ w'.2.1 qo ko = w.2.1 qn kn ∧ ∀ k : Nat, k < (w.2.1 qn kn).toInt.toNat → w'.2.1 qr k = w.2.1 qp (gOr w.2.1 qd qb qa (w.2.1 qn kn) (pth (gOr w.2.1 qd qb qa (w.2.1 qn kn)) 0 k))
theorem tc_plan5 {d : Nat} {sh : List mE} {I : Nat → Nat → Int32} {L : Nat → Nat → Int64} {R : Nat → Nat → Option Nat} (hw : wOK (mkT vV []) (wE sh R) (sh, I, L, R)) (hf : fresh (sh, I, L, R)) : Tc 193 (d + 43) 0 0 [.ref 83] (sh, I, L, R) (fun r w' => Qbr 83 1 85 86 87 mdBC (sh, I, L, R) r w' ∧ Qor 83 1 85 86 87 84 83 7 89 (sh, I, L, R) w') := by
  have c83 : sh[83]? = some (.inr 10) := hw.1 83 _ rfl
  have c88 : sh[88]? = some (.inl (.int, 256)) := hw.1 88 _ rfl
  have r83_6 : R 83 6 = some 88 := hw.2.1 83 6 _ rfl
  have zm2 : ((-2) : Int32).toInt = (-2) := rfl
  have zm1 : ((-1) : Int32).toInt = (-1) := rfl
  have z0 : (0 : Int32).toInt = 0 := rfl
  have z1 : (1 : Int32).toInt = 1 := rfl
  have z100000000 : (100000000 : Int32).toInt = 100000000 := rfl
  have hm : 0 ≤ (I 83 1).toInt ∧ (I 83 1).toInt ≤ 8 := hw.2.2.1 83 1
  obtain ⟨m, em⟩ : ∃ m, I 83 1 = m := ⟨_, rfl⟩
  rw [em] at hm
  have p8 := pow8 (n := m.toInt.toNat) (by omega)
  refine Tc.of mr_193 rfl (show 1 ≤ mr_193.2.2.2.1 by decide) ?_
  refine XW.fam (S' := (1, [(0, .ref 83)], [.ref 83], (sh, I, L, R))) (M := mr_193) rfl (show mcode 193 0 = some (0, .aload_n 0, 1, 0, 0, 0, _) from rfl) (Or.inl ⟨.ref 83, rfl, rfl⟩) ?_
  refine XW.fam (S' := (4, [(0, .ref 83)], [.int (I 83 1)], (sh, I, L, R))) (M := mr_193) rfl (show mcode 193 1 = some (1, .getfield 47, 3, 10, 1, 0, _) from rfl) (Or.inr (Or.inr (Or.inr (Or.inr (Or.inr (Or.inr (Or.inr (Or.inl ⟨_, _, rfl, fl_ldI c83 (by decide) (by decide), rfl⟩)))))))) ?_
  rw [em]
  cases k1 : bcmp .ne m 0 with
  | true =>
    have gk1 : ¬ (m).toInt = 0 := icT (c := .ne) (a := (m).toInt) (b := 0) rfl (by decide) k1
    refine XW.fam (S' := (9, [(0, .ref 83)], [], (sh, I, L, R))) (M := mr_193) rfl (show mcode 193 4 = some (4, .ifCond .ne 5, 3, 9, 0, 0, _) from rfl) (Or.inr (Or.inl ⟨9, [], by simp [brn, k1], rfl⟩)) ?_
    refine XW.fam (S' := (10, [(0, .ref 83)], [.int 1], (sh, I, L, R))) (M := mr_193) rfl (show mcode 193 9 = some (9, .iconst 1, 1, 0, 0, 0, _) from rfl) (Or.inl ⟨.int 1, rfl, rfl⟩) ?_
    refine XW.fam (S' := (11, [(0, .ref 83)], [.ref 83, .int 1], (sh, I, L, R))) (M := mr_193) rfl (show mcode 193 10 = some (10, .aload_n 0, 1, 0, 0, 0, _) from rfl) (Or.inl ⟨.ref 83, rfl, rfl⟩) ?_
    refine XW.fam (S' := (14, [(0, .ref 83)], [.int (I 83 1), .int 1], (sh, I, L, R))) (M := mr_193) rfl (show mcode 193 11 = some (11, .getfield 47, 3, 10, 1, 0, _) from rfl) (Or.inr (Or.inr (Or.inr (Or.inr (Or.inr (Or.inr (Or.inr (Or.inl ⟨_, _, rfl, fl_ldI c83 (by decide) (by decide), rfl⟩)))))))) ?_
    rw [em]
    refine XW.fam (S' := (15, [(0, .ref 83)], [.int (1 <<< (m &&& 31))], (sh, I, L, R))) (M := mr_193) rfl (show mcode 193 14 = some (14, .ishl, 1, 0, 0, 0, _) from rfl) (Or.inr (Or.inr (Or.inr (Or.inr (Or.inr (Or.inl ⟨_, rfl, rfl⟩)))))) ?_
    refine XW.fam (S' := (16, [(0, .ref 83)], [.int 1, .int (1 <<< (m &&& 31))], (sh, I, L, R))) (M := mr_193) rfl (show mcode 193 15 = some (15, .iconst 1, 1, 0, 0, 0, _) from rfl) (Or.inl ⟨.int 1, rfl, rfl⟩) ?_
    refine XW.fam (S' := (17, [(0, .ref 83)], [.int ((1 <<< (m &&& 31)) - 1)], (sh, I, L, R))) (M := mr_193) rfl (show mcode 193 16 = some (16, .isub, 1, 0, 0, 0, _) from rfl) (Or.inr (Or.inr (Or.inr (Or.inr (Or.inr (Or.inl ⟨_, rfl, rfl⟩)))))) ?_
    refine XW.fam (S' := (18, [(1, .int ((1 <<< (m &&& 31)) - 1)), (0, .ref 83)], [], (sh, I, L, R))) (M := mr_193) rfl (show mcode 193 17 = some (17, .istore_n 1, 1, 0, 0, 0, _) from rfl) (Or.inr (Or.inr (Or.inr (Or.inr (Or.inr (Or.inr (Or.inl ⟨_, [], _, rfl, rfl, rfl⟩))))))) ?_
    obtain ⟨al, hal⟩ : ∃ z : Int32, ((1 <<< (m &&& 31)) - 1) = z := ⟨_, rfl⟩
    have hal2 : al.toInt + 1 = ((2 ^ m.toInt.toNat : Nat) : Int) := by
      have e1 : (1 : Int32).toInt = 1 := rfl
      have e2 := b_shl (i := m) (by omega)
      have e3 := difS (a := 1 <<< (m &&& 31)) (b := 1) (by omega) (by omega)
      rw [← hal]
      omega
    rw [hal]
    have p2 : 2 ^ 1 ≤ 2 ^ m.toInt.toNat := Nat.pow_le_pow_right (by decide) (by omega)
    refine XW.fam (S' := (19, [(1, .int al), (0, .ref 83)], [.ref 83], (sh, I, L, R))) (M := mr_193) rfl (show mcode 193 18 = some (18, .aload_n 0, 1, 0, 0, 0, _) from rfl) (Or.inl ⟨.ref 83, rfl, rfl⟩) ?_
    refine XW.fam (S' := (22, [(1, .int al), (0, .ref 83)], [.ref 88], (sh, I, L, R))) (M := mr_193) rfl (show mcode 193 19 = some (19, .getfield 24, 3, 10, 6, 0, _) from rfl) (Or.inr (Or.inr (Or.inr (Or.inr (Or.inr (Or.inr (Or.inr (Or.inl ⟨_, _, rfl, fl_ld c83 r83_6 (by decide) (by decide), rfl⟩)))))))) ?_
    refine XW.fam (S' := (23, [(1, .int al), (0, .ref 83)], [.int al, .ref 88], (sh, I, L, R))) (M := mr_193) rfl (show mcode 193 22 = some (22, .iload_n 1, 1, 0, 0, 0, _) from rfl) (Or.inl ⟨.int al, rfl, rfl⟩) ?_
    refine XW.fam (S' := (24, [(1, .int al), (0, .ref 83)], [.int 0, .int al, .ref 88], (sh, I, L, R))) (M := mr_193) rfl (show mcode 193 23 = some (23, .iconst 0, 1, 0, 0, 0, _) from rfl) (Or.inl ⟨.int 0, rfl, rfl⟩) ?_
    have hin2 : inR al 256 = true := inR_of (by omega) (by omega)
    obtain ⟨I3, eI3⟩ : ∃ X, X = up2 I 88 (al).toNatClampNeg 0 := ⟨_, rfl⟩
    refine XW.fam (S' := (25, [(1, .int al), (0, .ref 83)], [], (sh, I3, L, R))) (M := mr_193) rfl (show mcode 193 24 = some (24, .iastore, 1, 0, 0, 0, _) from rfl) (Or.inr (Or.inr (Or.inr (Or.inl ⟨_, _, by rw [eI3]; exact sta_i c88 hin2, rfl⟩)))) ?_
    have hwI3 : wOK (mkT vV []) (wE sh R) (sh, I3, L, R) := by rw [eI3]; exact wOK_u2 (q := 88) (k := (al).toNatClampNeg) (x := 0) wE_put hw rfl (by show ((-2147483648) : Int) ≤ _; omega) (by show _ ≤ (100000000 : Int); omega)
    have hfI3 : fresh (sh, I3, L, R) := by rw [eI3]; exact fresh_I hf c88
    have v4 : I3 83 1 = m := by rw [eI3, up2_ne (fun e => by cases e.1)]; exact em
    have v5 : I3 88 (al).toNatClampNeg = 0 := by rw [eI3]; exact up2_eq
    refine XW.fam (S' := (26, [(1, .int al), (0, .ref 83)], [.int al], (sh, I3, L, R))) (M := mr_193) rfl (show mcode 193 25 = some (25, .iload_n 1, 1, 0, 0, 0, _) from rfl) (Or.inl ⟨.int al, rfl, rfl⟩) ?_
    refine XW.fam (S' := (27, [(1, .int al), (0, .ref 83)], [.int 1, .int al], (sh, I3, L, R))) (M := mr_193) rfl (show mcode 193 26 = some (26, .iconst 1, 1, 0, 0, 0, _) from rfl) (Or.inl ⟨.int 1, rfl, rfl⟩) ?_
    refine XW.fam (S' := (28, [(1, .int al), (0, .ref 83)], [.int (al - 1)], (sh, I3, L, R))) (M := mr_193) rfl (show mcode 193 27 = some (27, .isub, 1, 0, 0, 0, _) from rfl) (Or.inr (Or.inr (Or.inr (Or.inr (Or.inr (Or.inl ⟨_, rfl, rfl⟩)))))) ?_
    refine XW.fam (S' := (29, [(2, .int (al - 1)), (1, .int al), (0, .ref 83)], [], (sh, I3, L, R))) (M := mr_193) rfl (show mcode 193 28 = some (28, .istore_n 2, 1, 0, 0, 0, _) from rfl) (Or.inr (Or.inr (Or.inr (Or.inr (Or.inr (Or.inr (Or.inl ⟨_, [], _, rfl, rfl, rfl⟩))))))) ?_
    have hs1 := sub1I (m := al) (by omega) (by omega)
    obtain ⟨s, es⟩ : ∃ z : Int32, (al - 1) = z := ⟨_, rfl⟩
    rw [es] at hs1 ⊢
    clear es
    refine XW.sub (ls' := [(2, .int s), (1, .int al), (0, .ref 83)]) (List.forall_mem_cons.mpr ⟨List.mem_of_getElem? (i := 0) rfl, (List.forall_mem_cons.mpr ⟨List.mem_of_getElem? (i := 1) rfl, (List.forall_mem_cons.mpr ⟨List.mem_of_getElem? (i := 2) rfl, (fun _ h => absurd h List.not_mem_nil)⟩)⟩)⟩) ?_
    have hE85 : EEI I3 85 86 87 m = EEI I 85 86 87 m := by
      unfold EEI
      have a1 : rI I3 85 = rI I 85 := by funext k; unfold rI; rw [eI3, up2_ne (fun e => by cases e.1)]
      have a2 : rI I3 86 = rI I 86 := by funext k; unfold rI; rw [eI3, up2_ne (fun e => by cases e.1)]
      have a3 : I3 87 = I 87 := by funext k; rw [eI3, up2_ne (fun e => by cases e.1)]
      funext u
      rw [a1, a2, a3]
    refine plan_out (d := d) (J := I3) (al := al) (by omega) v4 hal hal2 (fun k => hwI3.2.2.1 85 k) (fun k => hwI3.2.2.1 86 k) 257 s (by omega) (by omega) (by omega) hwI3 hfI3 (fun _ _ _ => rfl) (fun u h1 h2 => ?_) (fun {I2} hw2 hf2 hkp2 hab2 s2 => ?_)
    · have eu : u = al.toInt.toNat := by omega
      have eu1 : u + 1 = 2 ^ m.toInt.toNat := by omega
      rw [eI3, eu]
      show (up2 I 88 al.toInt.toNat 0 88 al.toInt.toNat).toInt = _
      rw [up2_eq, ← eu]
      exact (EE_full eu1).symm
    · have h0 := hab2 0 (by omega)
      rw [hE85] at h0
      have vm2 : I2 83 1 = m := (hkp2 83 1 (by decide)).trans v4
      have hEr := (EE_rng (n := m.toInt.toNat) (D := rI I 85) (B := rI I 86) (ok := okA (I 87) m) (by omega) (fun k => hw.2.2.1 85 k) (fun k => hw.2.2.1 86 k) 256 0 (by omega) (by omega)).1
      have hEr : 0 ≤ EEI I 85 86 87 m 0 := hEr
      refine XW.fam (S' := (106, [(2, .int s2), (1, .int al), (0, .ref 83)], [.ref 83], (sh, I2, L, R))) (M := mr_193) rfl (show mcode 193 105 = some (105, .aload_n 0, 1, 0, 0, 0, _) from rfl) (Or.inl ⟨.ref 83, rfl, rfl⟩) ?_
      refine XW.fam (S' := (109, [(2, .int s2), (1, .int al), (0, .ref 83)], [.ref 88], (sh, I2, L, R))) (M := mr_193) rfl (show mcode 193 106 = some (106, .getfield 24, 3, 10, 6, 0, _) from rfl) (Or.inr (Or.inr (Or.inr (Or.inr (Or.inr (Or.inr (Or.inr (Or.inl ⟨_, _, rfl, fl_ld c83 r83_6 (by decide) (by decide), rfl⟩)))))))) ?_
      refine XW.fam (S' := (110, [(2, .int s2), (1, .int al), (0, .ref 83)], [.int 0, .ref 88], (sh, I2, L, R))) (M := mr_193) rfl (show mcode 193 109 = some (109, .iconst 0, 1, 0, 0, 0, _) from rfl) (Or.inl ⟨.int 0, rfl, rfl⟩) ?_
      have hin6 : inR 0 256 = true := inR_of (by omega) (by omega)
      refine XW.fam (S' := (111, [(2, .int s2), (1, .int al), (0, .ref 83)], [.int (I2 88 (0 : Int32).toNatClampNeg)], (sh, I2, L, R))) (M := mr_193) rfl (show mcode 193 110 = some (110, .iaload, 1, 0, 0, 0, _) from rfl) (Or.inr (Or.inr (Or.inl ⟨_, lda_i c88 hin6, rfl⟩))) ?_
      obtain ⟨b0, eb0⟩ : ∃ z, I2 88 (0 : Int32).toNatClampNeg = z := ⟨_, rfl⟩
      rw [eb0]
      have eb1 : I2 88 0 = b0 := eb0
      rw [eb1] at h0
      refine XW.fam (S' := (112, [(2, .int b0), (1, .int al), (0, .ref 83)], [], (sh, I2, L, R))) (M := mr_193) rfl (show mcode 193 111 = some (111, .istore_n 2, 1, 0, 0, 0, _) from rfl) (Or.inr (Or.inr (Or.inr (Or.inr (Or.inr (Or.inr (Or.inl ⟨_, [], _, rfl, rfl, rfl⟩))))))) ?_
      refine XW.fam (S' := (113, [(2, .int b0), (1, .int al), (0, .ref 83)], [.int b0], (sh, I2, L, R))) (M := mr_193) rfl (show mcode 193 112 = some (112, .iload_n 2, 1, 0, 0, 0, _) from rfl) (Or.inl ⟨.int b0, rfl, rfl⟩) ?_
      refine XW.fam (S' := (115, [(2, .int b0), (1, .int al), (0, .ref 83)], [.int 100000000, .int b0], (sh, I2, L, R))) (M := mr_193) rfl (show mcode 193 113 = some (113, .ldc 51, 2, 0, 0, 100000000, _) from rfl) (Or.inr (Or.inr (Or.inr (Or.inr (Or.inl ⟨.int 100000000, rfl, rfl⟩))))) ?_
      cases k7 : bcmp .ge b0 100000000 with
      | true =>
        have gk7 : 100000000 ≤ (b0).toInt := icT (c := .ge) (a := (b0).toInt) (b := 100000000) rfl (by decide) k7
        refine XW.fam (S' := (123, [(2, .int b0), (1, .int al), (0, .ref 83)], [], (sh, I2, L, R))) (M := mr_193) rfl (show mcode 193 115 = some (115, .if_icmp .ge 8, 3, 123, 0, 0, _) from rfl) (Or.inr (Or.inl ⟨123, [], by simp [brn, k7], rfl⟩)) ?_
        refine XW.fam (S' := (124, [(2, .int b0), (1, .int al), (0, .ref 83)], [.ref 83], (sh, I2, L, R))) (M := mr_193) rfl (show mcode 193 123 = some (123, .aload_n 0, 1, 0, 0, 0, _) from rfl) (Or.inl ⟨.ref 83, rfl, rfl⟩) ?_
        refine XW.fam (S' := (125, [(2, .int b0), (1, .int al), (0, .ref 83)], [.int 0, .ref 83], (sh, I2, L, R))) (M := mr_193) rfl (show mcode 193 124 = some (124, .iconst 0, 1, 0, 0, 0, _) from rfl) (Or.inl ⟨.int 0, rfl, rfl⟩) ?_
        obtain ⟨I8, eI8⟩ : ∃ X, X = up2 I2 83 1 0 := ⟨_, rfl⟩
        refine XW.fam (S' := (128, [(2, .int b0), (1, .int al), (0, .ref 83)], [], (sh, I8, L, R))) (M := mr_193) rfl (show mcode 193 125 = some (125, .putfield 47, 3, 10, 1, 0, _) from rfl) (Or.inr (Or.inr (Or.inr (Or.inr (Or.inr (Or.inr (Or.inr (Or.inr (Or.inl ⟨_, _, _, rfl, by rw [eI8]; exact stf_I c83 (by decide) (by decide) (by decide), rfl⟩))))))))) ?_
        have hwI8 : wOK (mkT vV []) (wE sh R) (sh, I8, L, R) := by rw [eI8]; exact wOK_u2 (q := 83) (k := 1) (x := 0) wE_put hw2 rfl (by show (0 : Int) ≤ _; omega) (by show _ ≤ (8 : Int); omega)
        have hfI8 : fresh (sh, I8, L, R) := by rw [eI8]; exact fresh_I hf2 c83
        have v10 : I8 83 1 = 0 := by rw [eI8]; exact up2_eq
        refine XW.fam (S' := (129, [(2, .int b0), (1, .int al), (0, .ref 83)], [.int b0], (sh, I8, L, R))) (M := mr_193) rfl (show mcode 193 128 = some (128, .iload_n 2, 1, 0, 0, 0, _) from rfl) (Or.inl ⟨.int b0, rfl, rfl⟩) ?_
        refine XW.fam (S' := (131, [(2, .int b0), (1, .int al), (0, .ref 83)], [.int 100000000, .int b0], (sh, I8, L, R))) (M := mr_193) rfl (show mcode 193 129 = some (129, .ldc 51, 2, 0, 0, 100000000, _) from rfl) (Or.inr (Or.inr (Or.inr (Or.inr (Or.inl ⟨.int 100000000, rfl, rfl⟩))))) ?_
        cases k11 : bcmp .ge b0 100000000 with
        | true =>
          have gk11 : 100000000 ≤ (b0).toInt := icT (c := .ge) (a := (b0).toInt) (b := 100000000) rfl (by decide) k11
          refine XW.fam (S' := (138, [(2, .int b0), (1, .int al), (0, .ref 83)], [], (sh, I8, L, R))) (M := mr_193) rfl (show mcode 193 131 = some (131, .if_icmp .ge 7, 3, 138, 0, 0, _) from rfl) (Or.inr (Or.inl ⟨138, [], by simp [brn, k11], rfl⟩)) ?_
          refine XW.fam (S' := (140, [(2, .int b0), (1, .int al), (0, .ref 83)], [.int (-2)], (sh, I8, L, R))) (M := mr_193) rfl (show mcode 193 138 = some (138, .bipush (-2), 2, 0, 0, 0, _) from rfl) (Or.inl ⟨.int (-2), rfl, rfl⟩) ?_
          refine XW.ret (r := some (.int (-2))) ⟨⟨.int, rfl, rfl⟩, by decide +kernel⟩ ?_
          refine ⟨?_, ?_⟩
          · skip
            have hkq : ∀ q k, inm mdBC q k = false → I8 q k = I q k := by
              intro q k h
              rw [eI8, up2_ne (fun e => by rw [e.1, e.2] at h; cases h)]
              rw [hkp2 q k (fun e => by rw [e] at h; cases h), eI3, up2_ne (fun e => by rw [e.1] at h; cases h)]
            refine ⟨hfI8, ⟨sh, R, hwI8⟩, ⟨_, rfl, ?_⟩, ?_, hkq⟩
            · show _ = (if (I 83 1).toInt = 0 then _ else if EEI I 85 86 87 (I 83 1) 0 < 100000000 then EEI I 85 86 87 (I 83 1) 0 else _)
              rw [em, if_neg (by omega)]
              rw [if_neg (by omega)]
              rfl
            · show I8 83 1 = 0
              rw [eI8, up2_eq]
          · refine Or.inl ⟨Or.inr (by show ¬ EEI I 85 86 87 (I 83 1) 0 < 100000000; rw [em]; omega), ?_, fun k => ?_⟩
            · show I8 83 7 = I 83 7
              rw [eI8, up2_ne (fun e => by cases e.2), hkp2 83 7 (by decide), eI3, up2_ne (fun e => by cases e.1)]
            · show I8 89 k = I 89 k
              rw [eI8, up2_ne (fun e => by cases e.1), hkp2 89 k (by decide), eI3, up2_ne (fun e => by cases e.1)]
        | false =>
          have gk11 : ¬ (100000000 ≤ (b0).toInt) := icF (c := .ge) (a := (b0).toInt) (b := 100000000) rfl (by decide) k11
          refine XW.fam (S' := (134, [(2, .int b0), (1, .int al), (0, .ref 83)], [], (sh, I8, L, R))) (M := mr_193) rfl (show mcode 193 131 = some (131, .if_icmp .ge 7, 3, 138, 0, 0, _) from rfl) (Or.inr (Or.inl ⟨134, [], by simp [brn, k11], rfl⟩)) ?_
          refine XW.fam (S' := (135, [(2, .int b0), (1, .int al), (0, .ref 83)], [.int b0], (sh, I8, L, R))) (M := mr_193) rfl (show mcode 193 134 = some (134, .iload_n 2, 1, 0, 0, 0, _) from rfl) (Or.inl ⟨.int b0, rfl, rfl⟩) ?_
          refine XW.fam (S' := (140, [(2, .int b0), (1, .int al), (0, .ref 83)], [.int b0], (sh, I8, L, R))) (M := mr_193) rfl (show mcode 193 135 = some (135, .goto 5, 3, 140, 0, 0, _) from rfl) (Or.inr (Or.inl ⟨140, [.int b0], rfl, rfl⟩)) ?_
          refine XW.ret (r := some (.int b0)) ⟨⟨.int, rfl, rfl⟩, by decide +kernel⟩ ?_
          refine ⟨?_, ?_⟩
          · skip
            have hkq : ∀ q k, inm mdBC q k = false → I8 q k = I q k := by
              intro q k h
              rw [eI8, up2_ne (fun e => by rw [e.1, e.2] at h; cases h)]
              rw [hkp2 q k (fun e => by rw [e] at h; cases h), eI3, up2_ne (fun e => by rw [e.1] at h; cases h)]
            refine ⟨hfI8, ⟨sh, R, hwI8⟩, ⟨_, rfl, ?_⟩, ?_, hkq⟩
            · show _ = (if (I 83 1).toInt = 0 then _ else if EEI I 85 86 87 (I 83 1) 0 < 100000000 then EEI I 85 86 87 (I 83 1) 0 else _)
              rw [em, if_neg (by omega)]
              rw [if_pos (by omega)]
              exact h0
            · show I8 83 1 = 0
              rw [eI8, up2_eq]
          · exfalso
            omega
      | false =>
        have gk7 : ¬ (100000000 ≤ (b0).toInt) := icF (c := .ge) (a := (b0).toInt) (b := 100000000) rfl (by decide) k7
        refine XW.fam (S' := (118, [(2, .int b0), (1, .int al), (0, .ref 83)], [], (sh, I2, L, R))) (M := mr_193) rfl (show mcode 193 115 = some (115, .if_icmp .ge 8, 3, 123, 0, 0, _) from rfl) (Or.inr (Or.inl ⟨118, [], by simp [brn, k7], rfl⟩)) ?_
        refine XW.fam (S' := (119, [(2, .int b0), (1, .int al), (0, .ref 83)], [.ref 83], (sh, I2, L, R))) (M := mr_193) rfl (show mcode 193 118 = some (118, .aload_n 0, 1, 0, 0, 0, _) from rfl) (Or.inl ⟨.ref 83, rfl, rfl⟩) ?_
        refine XW.fam (S' := (120, [(2, .int b0), (1, .int al), (0, .ref 83)], [.int al, .ref 83], (sh, I2, L, R))) (M := mr_193) rfl (show mcode 193 119 = some (119, .iload_n 1, 1, 0, 0, 0, _) from rfl) (Or.inl ⟨.int al, rfl, rfl⟩) ?_
        have kI : ∀ q k, ¬ q = 88 → I2 q k = I q k := fun q k h => by rw [hkp2 q k h, eI3, up2_ne (fun e => h e.1)]
        have kE2 := gOr_congr (I := I2) (I' := I) (qd := 85) (qb := 86) (qa := 87) (qd' := 85) (qb' := 86) (qa' := 87) (n := m) (fun k => kI 85 k (by decide)) (fun k => kI 86 k (by decide)) (fun k => kI 87 k (by decide))
        refine XW.call (d' := d + 1) (mc' := 0) (ms' := 0) (av := [.ref 83, .int al]) (rest := []) (M := mr_193) (Ma := mr_197) rfl (show mcode 193 120 = some (120, .invokevirtual 69, 3, 197, 0, 0, _) from rfl) rfl (by decide) (by decide) ⟨rfl, 83, _, rfl, c83⟩ rfl rfl (show 0 ≤ 8 by decide) (tc_note (d := d) (al := al) (m := m) hw2 hf2 (by omega) vm2 hal hal2 (fun u hu => by rw [kE2.2, ← hE85]; exact hab2 u hu) (by rw [kE2.2]; omega)) (by omega) (Nat.zero_le _) (Nat.zero_le _) (fun rQ12 wQ12 Q12 => ?_)
        obtain ⟨hrQ12, hfQ12, hwQ12, hIQ12, hOQ12, hRQ12⟩ := Q12
        subst hrQ12
        obtain ⟨shQ12, IQ12, LQ12, RQ12⟩ := wQ12
        obtain rfl : sh = shQ12 := hwQ12.2.2.2.1.symm
        obtain rfl : R = RQ12 := hwQ12.2.2.2.2.1.symm
        have hO2Q12 : IQ12 83 7 = m := hOQ12
        have hR2Q12 : ∀ k : Nat, k < m.toInt.toNat → IQ12 89 k = I2 84 (gOr I2 85 86 87 m (pth (gOr I2 85 86 87 m) 0 k)) := hRQ12
        refine XW.fam (S' := (124, [(2, .int b0), (1, .int al), (0, .ref 83)], [.ref 83], (sh, IQ12, LQ12, R))) (M := mr_193) rfl (show mcode 193 123 = some (123, .aload_n 0, 1, 0, 0, 0, _) from rfl) (Or.inl ⟨.ref 83, rfl, rfl⟩) ?_
        refine XW.fam (S' := (125, [(2, .int b0), (1, .int al), (0, .ref 83)], [.int 0, .ref 83], (sh, IQ12, LQ12, R))) (M := mr_193) rfl (show mcode 193 124 = some (124, .iconst 0, 1, 0, 0, 0, _) from rfl) (Or.inl ⟨.int 0, rfl, rfl⟩) ?_
        obtain ⟨I13, eI13⟩ : ∃ X, X = up2 IQ12 83 1 0 := ⟨_, rfl⟩
        refine XW.fam (S' := (128, [(2, .int b0), (1, .int al), (0, .ref 83)], [], (sh, I13, LQ12, R))) (M := mr_193) rfl (show mcode 193 125 = some (125, .putfield 47, 3, 10, 1, 0, _) from rfl) (Or.inr (Or.inr (Or.inr (Or.inr (Or.inr (Or.inr (Or.inr (Or.inr (Or.inl ⟨_, _, _, rfl, by rw [eI13]; exact stf_I c83 (by decide) (by decide) (by decide), rfl⟩))))))))) ?_
        have hwI13 : wOK (mkT vV []) (wE sh R) (sh, I13, LQ12, R) := by rw [eI13]; exact wOK_u2 (q := 83) (k := 1) (x := 0) wE_put hwQ12 rfl (by show (0 : Int) ≤ _; omega) (by show _ ≤ (8 : Int); omega)
        have hfI13 : fresh (sh, I13, LQ12, R) := by rw [eI13]; exact fresh_I hfQ12 c83
        have v14 : I13 83 1 = 0 := by rw [eI13]; exact up2_eq
        refine XW.fam (S' := (129, [(2, .int b0), (1, .int al), (0, .ref 83)], [.int b0], (sh, I13, LQ12, R))) (M := mr_193) rfl (show mcode 193 128 = some (128, .iload_n 2, 1, 0, 0, 0, _) from rfl) (Or.inl ⟨.int b0, rfl, rfl⟩) ?_
        refine XW.fam (S' := (131, [(2, .int b0), (1, .int al), (0, .ref 83)], [.int 100000000, .int b0], (sh, I13, LQ12, R))) (M := mr_193) rfl (show mcode 193 129 = some (129, .ldc 51, 2, 0, 0, 100000000, _) from rfl) (Or.inr (Or.inr (Or.inr (Or.inr (Or.inl ⟨.int 100000000, rfl, rfl⟩))))) ?_
        cases k15 : bcmp .ge b0 100000000 with
        | true =>
          have gk15 : 100000000 ≤ (b0).toInt := icT (c := .ge) (a := (b0).toInt) (b := 100000000) rfl (by decide) k15
          refine XW.fam (S' := (138, [(2, .int b0), (1, .int al), (0, .ref 83)], [], (sh, I13, LQ12, R))) (M := mr_193) rfl (show mcode 193 131 = some (131, .if_icmp .ge 7, 3, 138, 0, 0, _) from rfl) (Or.inr (Or.inl ⟨138, [], by simp [brn, k15], rfl⟩)) ?_
          refine XW.fam (S' := (140, [(2, .int b0), (1, .int al), (0, .ref 83)], [.int (-2)], (sh, I13, LQ12, R))) (M := mr_193) rfl (show mcode 193 138 = some (138, .bipush (-2), 2, 0, 0, 0, _) from rfl) (Or.inl ⟨.int (-2), rfl, rfl⟩) ?_
          refine XW.ret (r := some (.int (-2))) ⟨⟨.int, rfl, rfl⟩, by decide +kernel⟩ ?_
          refine ⟨?_, ?_⟩
          · skip
            have hkq : ∀ q k, inm mdBC q k = false → I13 q k = I q k := by
              intro q k h
              rw [eI13, up2_ne (fun e => by rw [e.1, e.2] at h; cases h), (show IQ12 q k = I2 q k from hIQ12 q k (inm_no h))]
              rw [hkp2 q k (fun e => by rw [e] at h; cases h), eI3, up2_ne (fun e => by rw [e.1] at h; cases h)]
            refine ⟨hfI13, ⟨sh, R, hwI13⟩, ⟨_, rfl, ?_⟩, ?_, hkq⟩
            · show _ = (if (I 83 1).toInt = 0 then _ else if EEI I 85 86 87 (I 83 1) 0 < 100000000 then EEI I 85 86 87 (I 83 1) 0 else _)
              rw [em, if_neg (by omega)]
              rw [if_neg (by omega)]
              rfl
            · show I13 83 1 = 0
              rw [eI13, up2_eq]
          · exfalso
            omega
        | false =>
          have gk15 : ¬ (100000000 ≤ (b0).toInt) := icF (c := .ge) (a := (b0).toInt) (b := 100000000) rfl (by decide) k15
          refine XW.fam (S' := (134, [(2, .int b0), (1, .int al), (0, .ref 83)], [], (sh, I13, LQ12, R))) (M := mr_193) rfl (show mcode 193 131 = some (131, .if_icmp .ge 7, 3, 138, 0, 0, _) from rfl) (Or.inr (Or.inl ⟨134, [], by simp [brn, k15], rfl⟩)) ?_
          refine XW.fam (S' := (135, [(2, .int b0), (1, .int al), (0, .ref 83)], [.int b0], (sh, I13, LQ12, R))) (M := mr_193) rfl (show mcode 193 134 = some (134, .iload_n 2, 1, 0, 0, 0, _) from rfl) (Or.inl ⟨.int b0, rfl, rfl⟩) ?_
          refine XW.fam (S' := (140, [(2, .int b0), (1, .int al), (0, .ref 83)], [.int b0], (sh, I13, LQ12, R))) (M := mr_193) rfl (show mcode 193 135 = some (135, .goto 5, 3, 140, 0, 0, _) from rfl) (Or.inr (Or.inl ⟨140, [.int b0], rfl, rfl⟩)) ?_
          refine XW.ret (r := some (.int b0)) ⟨⟨.int, rfl, rfl⟩, by decide +kernel⟩ ?_
          refine ⟨?_, ?_⟩
          · skip
            have hkq : ∀ q k, inm mdBC q k = false → I13 q k = I q k := by
              intro q k h
              rw [eI13, up2_ne (fun e => by rw [e.1, e.2] at h; cases h), (show IQ12 q k = I2 q k from hIQ12 q k (inm_no h))]
              rw [hkp2 q k (fun e => by rw [e] at h; cases h), eI3, up2_ne (fun e => by rw [e.1] at h; cases h)]
            refine ⟨hfI13, ⟨sh, R, hwI13⟩, ⟨_, rfl, ?_⟩, ?_, hkq⟩
            · show _ = (if (I 83 1).toInt = 0 then _ else if EEI I 85 86 87 (I 83 1) 0 < 100000000 then EEI I 85 86 87 (I 83 1) 0 else _)
              rw [em, if_neg (by omega)]
              rw [if_pos (by omega)]
              exact h0
            · show I13 83 1 = 0
              rw [eI13, up2_eq]
          · refine Or.inr ⟨⟨by show ¬ (I 83 1).toInt = 0; rw [em]; omega, by show EEI I 85 86 87 (I 83 1) 0 < 100000000; rw [em]; omega⟩, ?_, fun k hk => ?_⟩
            · show I13 83 7 = I 83 1
              rw [eI13, up2_ne (fun e => by cases e.2), hO2Q12, em]
            · have hk : k < (I 83 1).toInt.toNat := hk
              rw [em] at hk
              show I13 89 k = I 84 (gOr I 85 86 87 (I 83 1) (pth (gOr I 85 86 87 (I 83 1)) 0 k))
              rw [eI13, up2_ne (fun e => by cases e.1), hR2Q12 k hk, kE2.1, kI 84 _ (by decide), em]
  | false =>
    have gk1 : ¬ (¬ (m).toInt = 0) := icF (c := .ne) (a := (m).toInt) (b := 0) rfl (by decide) k1
    refine XW.fam (S' := (7, [(0, .ref 83)], [], (sh, I, L, R))) (M := mr_193) rfl (show mcode 193 4 = some (4, .ifCond .ne 5, 3, 9, 0, 0, _) from rfl) (Or.inr (Or.inl ⟨7, [], by simp [brn, k1], rfl⟩)) ?_
    refine XW.fam (S' := (8, [(0, .ref 83)], [.int (-1)], (sh, I, L, R))) (M := mr_193) rfl (show mcode 193 7 = some (7, .iconst (-1), 1, 0, 0, 0, _) from rfl) (Or.inl ⟨.int (-1), rfl, rfl⟩) ?_
    refine XW.ret (r := some (.int (-1))) ⟨⟨.int, rfl, rfl⟩, by decide +kernel⟩ ?_
    refine ⟨?_, Or.inl ⟨Or.inl (by show (I 83 1).toInt = 0; rw [em]; omega), rfl, fun _ => rfl⟩⟩
    exact ⟨hf, ⟨sh, R, hw⟩, ⟨_, rfl, by show _ = (if (I 83 1).toInt = 0 then _ else _); rw [em, if_pos (by omega)]; rfl⟩, show I 83 1 = 0 by rw [em]; exact Int32.toInt_inj.mp (by omega), fun _ _ _ => rfl⟩
theorem tc_breadC5 {d : Nat} {sh : List mE} {R : Nat → Nat → Option Nat} {w : mW} (hw : wOK (mkT vV []) (wE sh R) w) (hf : fresh w) : Tc 192 (d + 44) 0 0 [.ref 0] w (fun r w' => Qbr 83 1 85 86 87 mdBC w r w' ∧ Qor 83 1 85 86 87 84 83 7 89 w w') := by
  obtain ⟨sh0, I, L, R0⟩ := w
  obtain rfl : sh = sh0 := hw.2.2.2.1.symm
  obtain rfl : R = R0 := hw.2.2.2.2.1.symm
  have c0 : sh[0]? = some (.inr 0) := hw.1 0 _ rfl
  have c83 : sh[83]? = some (.inr 10) := hw.1 83 _ rfl
  have r0_9 : R 0 9 = some 83 := hw.2.1 0 9 _ rfl
  refine Tc.of mr_192 rfl (show 1 ≤ mr_192.2.2.2.1 by decide) ?_
  refine XW.fam (S' := (1, [(0, .ref 0)], [.ref 0], (sh, I, L, R))) (M := mr_192) rfl (show mcode 192 0 = some (0, .aload_n 0, 1, 0, 0, 0, _) from rfl) (Or.inl ⟨.ref 0, rfl, rfl⟩) ?_
  refine XW.fam (S' := (4, [(0, .ref 0)], [.ref 83], (sh, I, L, R))) (M := mr_192) rfl (show mcode 192 1 = some (1, .getfield 85, 3, 0, 9, 0, _) from rfl) (Or.inr (Or.inr (Or.inr (Or.inr (Or.inr (Or.inr (Or.inr (Or.inl ⟨_, _, rfl, fl_ld c0 r0_9 (by decide) (by decide), rfl⟩)))))))) ?_
  refine XW.call (d' := d + 43) (mc' := 0) (ms' := 0) (av := [.ref 83]) (rest := []) (M := mr_192) (Ma := mr_193) rfl (show mcode 192 4 = some (4, .invokevirtual 302, 3, 193, 0, 0, _) from rfl) rfl (by decide) (by decide) ⟨rfl, 83, _, rfl, c83⟩ rfl rfl (show 0 ≤ 8 by decide) (tc_plan5 (d := d) hw hf) (by omega) (Nat.zero_le _) (Nat.zero_le _) (fun rQ1 wQ1 Q1 => ?_)
  obtain ⟨yQ1, eyQ1, -⟩ := Q1.1.2.2.1
  subst eyQ1
  refine XW.ret (r := some (.int yQ1)) ⟨⟨.int, rfl, rfl⟩, by decide +kernel⟩ ?_
  exact Q1
