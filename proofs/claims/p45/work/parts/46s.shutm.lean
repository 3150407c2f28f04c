/-! ===== bread of the model: all orders (wip/genbread.py) ===== -/
theorem stf_Z {sh : List mE} {I : Nat → Nat → Int32} {L : Nat → Nat → Int64} {R : Nat → Nat → Option Nat} {ini a b q : Nat} {x : Int32} {r : List Value} (h0 : sh[q]? = some (.inr a)) (hb : b < (flds a).length) (ht : ((flds a)[b]?.map (fun f => f.2.2.2)) = some .boolean) (hn : ((flds a)[b]?.map (fun f => f.2.2.1)) = some false) (hx : x = 0 ∨ x = 1) : stf (sh, I, L, R) ini a b (.int x :: .ref q :: r) = some (r, (sh, up2 I q b x, L, R)) := by
  obtain ⟨f, hf⟩ : ∃ f, (flds a)[b]? = some f := ⟨_, List.getElem?_eq_getElem hb⟩
  rw [hf] at ht hn
  have h1 : f.2.2.2 = .boolean := Option.some.inj ht
  have h2 : f.2.2.1 = false := Option.some.inj hn
  unfold stf
  simp [h0, hf, h1, h2, hx]
def mdSO : aM := [(94, some 99), (94, some 100), (94, some 101), (160, none), (161, none)]
theorem cp_lp {dd : Nat} {sh : List mE} {J : Nat → Nat → Int32} {L : Nat → Nat → Int64} {R : Nat → Nat → Option Nat} {m : Int32} {done s t b : Int32} (hm : 0 ≤ m.toInt ∧ m.toInt ≤ 8) (em : J 94 92 = m) {Q : Option Value → mW → Prop} : ∀ (z : Nat) {I : Nat → Nat → Int32} (k : Int32), 0 ≤ k.toInt → k.toInt ≤ m.toInt → m.toInt - k.toInt < z → wOK (mkT vV []) (wE sh R) (sh, I, L, R) → fresh (sh, I, L, R) → (∀ q k, ¬ q = 161 → I q k = J q k) → (∀ {I : Nat → Nat → Int32}, wOK (mkT vV []) (wE sh R) (sh, I, L, R) → fresh (sh, I, L, R) → (∀ q k, ¬ q = 161 → I q k = J q k) → ∀ k : Int32, XW 340 mr_340 none (dd) 0 0 Q (81, [(5, .int k), (0, .ref 94), (1, .int done), (2, .int s), (3, .int t), (4, .int b)], [], (sh, I, L, R))) → XW 340 mr_340 none (dd) 0 0 Q (47, [(5, .int k), (0, .ref 94), (1, .int done), (2, .int s), (3, .int t), (4, .int b)], [], (sh, I, L, R)) := by
  intro z
  induction z with
  | zero =>
    intro I k h1 h2 hz
    exfalso
    omega
  | succ z ih =>
    intro I k h1 h2 hz hw hf hkp K
    have c94 : sh[94]? = some (.inr 12) := hw.1 94 _ rfl
    have c156 : sh[156]? = some (.inl (.int, 8)) := hw.1 156 _ rfl
    have c160 : sh[160]? = some (.inl (.int, 8)) := hw.1 160 _ rfl
    have c161 : sh[161]? = some (.inl (.int, 8)) := hw.1 161 _ rfl
    have r94_93 : R 94 93 = some 156 := hw.2.1 94 93 _ rfl
    have r94_97 : R 94 97 = some 160 := hw.2.1 94 97 _ rfl
    have r94_98 : R 94 98 = some 161 := hw.2.1 94 98 _ rfl
    have vm : I 94 92 = m := (hkp 94 92 (by decide)).trans em
    refine XW.fam (S' := (49, [(5, .int k), (0, .ref 94), (1, .int done), (2, .int s), (3, .int t), (4, .int b)], [.int k], (sh, I, L, R))) (M := mr_340) rfl (show mcode 340 47 = some (47, .iload 5, 2, 0, 0, 0, _) from rfl) (Or.inl ⟨.int k, rfl, rfl⟩) ?_
    refine XW.fam (S' := (50, [(5, .int k), (0, .ref 94), (1, .int done), (2, .int s), (3, .int t), (4, .int b)], [.ref 94, .int k], (sh, I, L, R))) (M := mr_340) rfl (show mcode 340 49 = some (49, .aload_n 0, 1, 0, 0, 0, _) from rfl) (Or.inl ⟨.ref 94, rfl, rfl⟩) ?_
    refine XW.fam (S' := (53, [(5, .int k), (0, .ref 94), (1, .int done), (2, .int s), (3, .int t), (4, .int b)], [.int (I 94 92), .int k], (sh, I, L, R))) (M := mr_340) rfl (show mcode 340 50 = some (50, .getfield 570, 3, 12, 92, 0, _) from rfl) (Or.inr (Or.inr (Or.inr (Or.inr (Or.inr (Or.inr (Or.inr (Or.inl ⟨_, _, rfl, fl_ldI c94 (by decide) (by decide), rfl⟩)))))))) ?_
    rw [vm]
    cases k1 : bcmp .ge k m with
    | true =>
      have gk1 : (m).toInt ≤ (k).toInt := icT (c := .ge) (a := (k).toInt) (b := (m).toInt) rfl rfl k1
      refine XW.fam (S' := (81, [(5, .int k), (0, .ref 94), (1, .int done), (2, .int s), (3, .int t), (4, .int b)], [], (sh, I, L, R))) (M := mr_340) rfl (show mcode 340 53 = some (53, .if_icmp .ge 28, 3, 81, 0, 0, _) from rfl) (Or.inr (Or.inl ⟨81, [], by simp [brn, k1], rfl⟩)) ?_
      exact K hw hf hkp k
    | false =>
      have gk1 : ¬ ((m).toInt ≤ (k).toInt) := icF (c := .ge) (a := (k).toInt) (b := (m).toInt) rfl rfl k1
      refine XW.fam (S' := (56, [(5, .int k), (0, .ref 94), (1, .int done), (2, .int s), (3, .int t), (4, .int b)], [], (sh, I, L, R))) (M := mr_340) rfl (show mcode 340 53 = some (53, .if_icmp .ge 28, 3, 81, 0, 0, _) from rfl) (Or.inr (Or.inl ⟨56, [], by simp [brn, k1], rfl⟩)) ?_
      refine XW.fam (S' := (57, [(5, .int k), (0, .ref 94), (1, .int done), (2, .int s), (3, .int t), (4, .int b)], [.ref 94], (sh, I, L, R))) (M := mr_340) rfl (show mcode 340 56 = some (56, .aload_n 0, 1, 0, 0, 0, _) from rfl) (Or.inl ⟨.ref 94, rfl, rfl⟩) ?_
      refine XW.fam (S' := (60, [(5, .int k), (0, .ref 94), (1, .int done), (2, .int s), (3, .int t), (4, .int b)], [.ref 161], (sh, I, L, R))) (M := mr_340) rfl (show mcode 340 57 = some (57, .getfield 220, 3, 12, 98, 0, _) from rfl) (Or.inr (Or.inr (Or.inr (Or.inr (Or.inr (Or.inr (Or.inr (Or.inl ⟨_, _, rfl, fl_ld c94 r94_98 (by decide) (by decide), rfl⟩)))))))) ?_
      refine XW.fam (S' := (62, [(5, .int k), (0, .ref 94), (1, .int done), (2, .int s), (3, .int t), (4, .int b)], [.int k, .ref 161], (sh, I, L, R))) (M := mr_340) rfl (show mcode 340 60 = some (60, .iload 5, 2, 0, 0, 0, _) from rfl) (Or.inl ⟨.int k, rfl, rfl⟩) ?_
      refine XW.fam (S' := (63, [(5, .int k), (0, .ref 94), (1, .int done), (2, .int s), (3, .int t), (4, .int b)], [.ref 94, .int k, .ref 161], (sh, I, L, R))) (M := mr_340) rfl (show mcode 340 62 = some (62, .aload_n 0, 1, 0, 0, 0, _) from rfl) (Or.inl ⟨.ref 94, rfl, rfl⟩) ?_
      refine XW.fam (S' := (66, [(5, .int k), (0, .ref 94), (1, .int done), (2, .int s), (3, .int t), (4, .int b)], [.ref 156, .int k, .ref 161], (sh, I, L, R))) (M := mr_340) rfl (show mcode 340 63 = some (63, .getfield 205, 3, 12, 93, 0, _) from rfl) (Or.inr (Or.inr (Or.inr (Or.inr (Or.inr (Or.inr (Or.inr (Or.inl ⟨_, _, rfl, fl_ld c94 r94_93 (by decide) (by decide), rfl⟩)))))))) ?_
      refine XW.fam (S' := (67, [(5, .int k), (0, .ref 94), (1, .int done), (2, .int s), (3, .int t), (4, .int b)], [.ref 94, .ref 156, .int k, .ref 161], (sh, I, L, R))) (M := mr_340) rfl (show mcode 340 66 = some (66, .aload_n 0, 1, 0, 0, 0, _) from rfl) (Or.inl ⟨.ref 94, rfl, rfl⟩) ?_
      refine XW.fam (S' := (70, [(5, .int k), (0, .ref 94), (1, .int done), (2, .int s), (3, .int t), (4, .int b)], [.ref 160, .ref 156, .int k, .ref 161], (sh, I, L, R))) (M := mr_340) rfl (show mcode 340 67 = some (67, .getfield 217, 3, 12, 97, 0, _) from rfl) (Or.inr (Or.inr (Or.inr (Or.inr (Or.inr (Or.inr (Or.inr (Or.inl ⟨_, _, rfl, fl_ld c94 r94_97 (by decide) (by decide), rfl⟩)))))))) ?_
      refine XW.fam (S' := (72, [(5, .int k), (0, .ref 94), (1, .int done), (2, .int s), (3, .int t), (4, .int b)], [.int k, .ref 160, .ref 156, .int k, .ref 161], (sh, I, L, R))) (M := mr_340) rfl (show mcode 340 70 = some (70, .iload 5, 2, 0, 0, 0, _) from rfl) (Or.inl ⟨.int k, rfl, rfl⟩) ?_
      have hin2 : inR k 8 = true := inR_of (by omega) (by omega)
      refine XW.fam (S' := (73, [(5, .int k), (0, .ref 94), (1, .int done), (2, .int s), (3, .int t), (4, .int b)], [.int (I 160 (k).toNatClampNeg), .ref 156, .int k, .ref 161], (sh, I, L, R))) (M := mr_340) rfl (show mcode 340 72 = some (72, .iaload, 1, 0, 0, 0, _) from rfl) (Or.inr (Or.inr (Or.inl ⟨_, lda_i c160 hin2, rfl⟩))) ?_
      have h160 : 0 ≤ (I 160 (k).toNatClampNeg).toInt ∧ (I 160 (k).toNatClampNeg).toInt ≤ 7 := hw.2.2.1 160 _
      have hin3 : inR (I 160 (k).toNatClampNeg) 8 = true := inR_of (by omega) (by omega)
      refine XW.fam (S' := (74, [(5, .int k), (0, .ref 94), (1, .int done), (2, .int s), (3, .int t), (4, .int b)], [.int (I 156 ((I 160 (k).toNatClampNeg)).toNatClampNeg), .int k, .ref 161], (sh, I, L, R))) (M := mr_340) rfl (show mcode 340 73 = some (73, .iaload, 1, 0, 0, 0, _) from rfl) (Or.inr (Or.inr (Or.inl ⟨_, lda_i c156 hin3, rfl⟩))) ?_
      have h156 : 0 ≤ (I 156 ((I 160 (k).toNatClampNeg)).toNatClampNeg).toInt ∧ (I 156 ((I 160 (k).toNatClampNeg)).toNatClampNeg).toInt ≤ 19 := hw.2.2.1 156 _
      have hin4 : inR k 8 = true := inR_of (by omega) (by omega)
      obtain ⟨I5, eI5⟩ : ∃ X, X = up2 I 161 (k).toNatClampNeg (I 156 ((I 160 (k).toNatClampNeg)).toNatClampNeg) := ⟨_, rfl⟩
      refine XW.fam (S' := (75, [(5, .int k), (0, .ref 94), (1, .int done), (2, .int s), (3, .int t), (4, .int b)], [], (sh, I5, L, R))) (M := mr_340) rfl (show mcode 340 74 = some (74, .iastore, 1, 0, 0, 0, _) from rfl) (Or.inr (Or.inr (Or.inr (Or.inl ⟨_, _, by rw [eI5]; exact sta_i c161 hin4, rfl⟩)))) ?_
      have hwI5 : wOK (mkT vV []) (wE sh R) (sh, I5, L, R) := by rw [eI5]; exact wOK_u2 (q := 161) (k := (k).toNatClampNeg) (x := (I 156 ((I 160 (k).toNatClampNeg)).toNatClampNeg)) wE_put hw rfl (by show (0 : Int) ≤ _; omega) (by show _ ≤ (19 : Int); omega)
      have hfI5 : fresh (sh, I5, L, R) := by rw [eI5]; exact fresh_I hf c161
      have v6 : I5 94 92 = m := by rw [eI5, up2_ne (fun e => by cases e.1)]; exact vm
      have v7 : I5 161 (k).toNatClampNeg = (I 156 ((I 160 (k).toNatClampNeg)).toNatClampNeg) := by rw [eI5]; exact up2_eq
      refine XW.fam (S' := (78, [(5, .int (k + Int32.ofInt 1)), (0, .ref 94), (1, .int done), (2, .int s), (3, .int t), (4, .int b)], [], (sh, I5, L, R))) (M := mr_340) rfl (show mcode 340 75 = some (75, .iinc 5 1, 3, 0, 0, 0, _) from rfl) (Or.inr (Or.inr (Or.inr (Or.inr (Or.inr (Or.inr (Or.inr (Or.inr (Or.inr ⟨5, 1, k, rfl, rfl, by decide, rfl⟩))))))))) ?_
      refine XW.fam (S' := (47, [(5, .int (k + Int32.ofInt 1)), (0, .ref 94), (1, .int done), (2, .int s), (3, .int t), (4, .int b)], [], (sh, I5, L, R))) (M := mr_340) rfl (show mcode 340 78 = some (78, .goto (-31), 3, 47, 0, 0, _) from rfl) (Or.inr (Or.inl ⟨47, [], rfl, rfl⟩)) ?_
      have eo := incO (m := k) (by omega) (by omega)
      refine XW.sub (ls' := [(5, .int (k + Int32.ofInt 1)), (0, .ref 94), (1, .int done), (2, .int s), (3, .int t), (4, .int b)]) (List.forall_mem_cons.mpr ⟨List.mem_of_getElem? (i := 0) rfl, (List.forall_mem_cons.mpr ⟨List.mem_of_getElem? (i := 1) rfl, (List.forall_mem_cons.mpr ⟨List.mem_of_getElem? (i := 2) rfl, (List.forall_mem_cons.mpr ⟨List.mem_of_getElem? (i := 3) rfl, (List.forall_mem_cons.mpr ⟨List.mem_of_getElem? (i := 4) rfl, (List.forall_mem_cons.mpr ⟨List.mem_of_getElem? (i := 5) rfl, (fun _ h => absurd h List.not_mem_nil)⟩)⟩)⟩)⟩)⟩)⟩) ?_
      exact ih (k + Int32.ofInt 1) (by omega) (by omega) (by omega) hwI5 hfI5 (fun q j hq => by rw [eI5, up2_ne (fun e => hq e.1)]; exact hkp q j hq) K
theorem son_lp {d zz : Nat} {sh : List mE} {J : Nat → Nat → Int32} {R : Nat → Nat → Option Nat} {m : Int32} {done s t b : Int32} {p0 : Int × Int} (hm : 1 ≤ m.toInt ∧ m.toInt ≤ 8) (em : J 94 92 = m) (hJ7 : ∀ k, 0 ≤ (J 157 k).toInt ∧ (J 157 k).toInt ≤ 20) (hJ8 : ∀ k, 0 ≤ (J 158 k).toInt ∧ (J 158 k).toInt ≤ 999) (IH : ∀ {I : Nat → Nat → Int32} {L : Nat → Nat → Int64} (done s t b : Int32), wOK (mkT vV []) (wE sh R) (sh, I, L, R) → fresh (sh, I, L, R) → (∀ q k, inm mdSO q k = false → I q k = J q k) → (0 ≤ s.toInt ∧ s.toInt < ((2 ^ m.toInt.toNat : Nat) : Int)) → done.toInt = tmS (fun _ => 1) s.toInt.toNat m.toInt.toNat → t.toInt = tmS (rI J 157) s.toInt.toNat m.toInt.toNat → (0 ≤ b.toInt ∧ b.toInt ≤ 179820 * done.toInt) → m.toInt - done.toInt < zz → Tc 340 (d + zz) 0 0 [.ref 94, .int done, .int s, .int t, .int b] (sh, I, L, R) (fun r w' => r = none ∧ fresh w' ∧ wOK (mkT vV []) (wE sh R) w' ∧ (∀ q k, inm mdSO q k = false → w'.2.1 q k = J q k) ∧ ((w'.2.1 94 101).toInt, (w'.2.1 94 100).toInt) = updS (EEI J 157 158 159 m s.toInt.toNat) b.toInt ((I 94 101).toInt, (I 94 100).toInt))) (hs : 0 ≤ s.toInt ∧ s.toInt + 1 < ((2 ^ m.toInt.toNat : Nat) : Int)) (hdn : done.toInt = tmS (fun _ => 1) s.toInt.toNat m.toInt.toNat) (ht : t.toInt = tmS (rI J 157) s.toInt.toNat m.toInt.toNat) (hb : 0 ≤ b.toInt ∧ b.toInt ≤ 179820 * done.toInt) (hd : 0 ≤ done.toInt ∧ done.toInt < m.toInt) (hzz : m.toInt - done.toInt < zz + 1) : ∀ (z : Nat) {I : Nat → Nat → Int32} {L : Nat → Nat → Int64} (k : Int32), 0 ≤ k.toInt → k.toInt ≤ m.toInt → m.toInt - k.toInt < z → wOK (mkT vV []) (wE sh R) (sh, I, L, R) → fresh (sh, I, L, R) → (∀ q k, inm mdSO q k = false → I q k = J q k) → ((I 94 101).toInt, (I 94 100).toInt) = updS (lmn (bFI J 157 158 159 m s.toInt.toNat) k.toInt.toNat) b.toInt p0 → XW 340 mr_340 none (d + zz + 1) 0 0 (fun r w' => r = none ∧ fresh w' ∧ wOK (mkT vV []) (wE sh R) w' ∧ (∀ q k, inm mdSO q k = false → w'.2.1 q k = J q k) ∧ ((w'.2.1 94 101).toInt, (w'.2.1 94 100).toInt) = updS (EEI J 157 158 159 m s.toInt.toNat) b.toInt p0) (85, [(5, .int k), (0, .ref 94), (1, .int done), (2, .int s), (3, .int t), (4, .int b)], [], (sh, I, L, R)) := by
  have zm1 : ((-1) : Int32).toInt = (-1) := rfl
  have z0 : (0 : Int32).toInt = 0 := rfl
  have z1 : (1 : Int32).toInt = 1 := rfl
  have p8 := pow8 (n := m.toInt.toNat) (by omega)
  have htr := tm_rng (D := rI J 157) (s := s.toInt.toNat) (c := 20) hJ7 (n := m.toInt.toNat)
  rw [← ht] at htr
  intro z
  induction z with
  | zero =>
    intro I L k h1 h2 hz
    exfalso
    omega
  | succ z ih =>
    intro I L k h1 h2 hz hw hf hkp hp
    have c94 : sh[94]? = some (.inr 12) := hw.1 94 _ rfl
    have c157 : sh[157]? = some (.inl (.int, 8)) := hw.1 157 _ rfl
    have c158 : sh[158]? = some (.inl (.int, 8)) := hw.1 158 _ rfl
    have c159 : sh[159]? = some (.inl (.int, 8)) := hw.1 159 _ rfl
    have c160 : sh[160]? = some (.inl (.int, 8)) := hw.1 160 _ rfl
    have r94_94 : R 94 94 = some 157 := hw.2.1 94 94 _ rfl
    have r94_95 : R 94 95 = some 158 := hw.2.1 94 95 _ rfl
    have r94_96 : R 94 96 = some 159 := hw.2.1 94 96 _ rfl
    have r94_97 : R 94 97 = some 160 := hw.2.1 94 97 _ rfl
    have vm : I 94 92 = m := (hkp 94 92 (by decide)).trans em
    refine XW.fam (S' := (87, [(5, .int k), (0, .ref 94), (1, .int done), (2, .int s), (3, .int t), (4, .int b)], [.int k], (sh, I, L, R))) (M := mr_340) rfl (show mcode 340 85 = some (85, .iload 5, 2, 0, 0, 0, _) from rfl) (Or.inl ⟨.int k, rfl, rfl⟩) ?_
    refine XW.fam (S' := (88, [(5, .int k), (0, .ref 94), (1, .int done), (2, .int s), (3, .int t), (4, .int b)], [.ref 94, .int k], (sh, I, L, R))) (M := mr_340) rfl (show mcode 340 87 = some (87, .aload_n 0, 1, 0, 0, 0, _) from rfl) (Or.inl ⟨.ref 94, rfl, rfl⟩) ?_
    refine XW.fam (S' := (91, [(5, .int k), (0, .ref 94), (1, .int done), (2, .int s), (3, .int t), (4, .int b)], [.int (I 94 92), .int k], (sh, I, L, R))) (M := mr_340) rfl (show mcode 340 88 = some (88, .getfield 570, 3, 12, 92, 0, _) from rfl) (Or.inr (Or.inr (Or.inr (Or.inr (Or.inr (Or.inr (Or.inr (Or.inl ⟨_, _, rfl, fl_ldI c94 (by decide) (by decide), rfl⟩)))))))) ?_
    rw [vm]
    cases k1 : bcmp .ge k m with
    | true =>
      have gk1 : (m).toInt ≤ (k).toInt := icT (c := .ge) (a := (k).toInt) (b := (m).toInt) rfl rfl k1
      refine XW.fam (S' := (190, [(5, .int k), (0, .ref 94), (1, .int done), (2, .int s), (3, .int t), (4, .int b)], [], (sh, I, L, R))) (M := mr_340) rfl (show mcode 340 91 = some (91, .if_icmp .ge 99, 3, 190, 0, 0, _) from rfl) (Or.inr (Or.inl ⟨190, [], by simp [brn, k1], rfl⟩)) ?_
      refine XW.ret (r := none) ⟨rfl, by decide +kernel⟩ ?_
      have ek : k.toInt.toNat = m.toInt.toNat := by omega
      rw [ek, ← EEI_step (by omega) (by omega)] at hp
      exact ⟨rfl, hf, hw, hkp, hp⟩
    | false =>
      have gk1 : ¬ ((m).toInt ≤ (k).toInt) := icF (c := .ge) (a := (k).toInt) (b := (m).toInt) rfl rfl k1
      refine XW.fam (S' := (94, [(5, .int k), (0, .ref 94), (1, .int done), (2, .int s), (3, .int t), (4, .int b)], [], (sh, I, L, R))) (M := mr_340) rfl (show mcode 340 91 = some (91, .if_icmp .ge 99, 3, 190, 0, 0, _) from rfl) (Or.inr (Or.inl ⟨94, [], by simp [brn, k1], rfl⟩)) ?_
      refine XW.fam (S' := (95, [(5, .int k), (0, .ref 94), (1, .int done), (2, .int s), (3, .int t), (4, .int b)], [.ref 94], (sh, I, L, R))) (M := mr_340) rfl (show mcode 340 94 = some (94, .aload_n 0, 1, 0, 0, 0, _) from rfl) (Or.inl ⟨.ref 94, rfl, rfl⟩) ?_
      refine XW.fam (S' := (98, [(5, .int k), (0, .ref 94), (1, .int done), (2, .int s), (3, .int t), (4, .int b)], [.ref 159], (sh, I, L, R))) (M := mr_340) rfl (show mcode 340 95 = some (95, .getfield 214, 3, 12, 96, 0, _) from rfl) (Or.inr (Or.inr (Or.inr (Or.inr (Or.inr (Or.inr (Or.inr (Or.inl ⟨_, _, rfl, fl_ld c94 r94_96 (by decide) (by decide), rfl⟩)))))))) ?_
      refine XW.fam (S' := (100, [(5, .int k), (0, .ref 94), (1, .int done), (2, .int s), (3, .int t), (4, .int b)], [.int k, .ref 159], (sh, I, L, R))) (M := mr_340) rfl (show mcode 340 98 = some (98, .iload 5, 2, 0, 0, 0, _) from rfl) (Or.inl ⟨.int k, rfl, rfl⟩) ?_
      have hin2 : inR k 8 = true := inR_of (by omega) (by omega)
      refine XW.fam (S' := (101, [(5, .int k), (0, .ref 94), (1, .int done), (2, .int s), (3, .int t), (4, .int b)], [.int (I 159 (k).toNatClampNeg)], (sh, I, L, R))) (M := mr_340) rfl (show mcode 340 100 = some (100, .iaload, 1, 0, 0, 0, _) from rfl) (Or.inr (Or.inr (Or.inl ⟨_, lda_i c159 hin2, rfl⟩))) ?_
      refine XW.fam (S' := (102, [(5, .int k), (0, .ref 94), (1, .int done), (2, .int s), (3, .int t), (4, .int b)], [.int 1, .int (I 159 (k).toNatClampNeg)], (sh, I, L, R))) (M := mr_340) rfl (show mcode 340 101 = some (101, .iconst 1, 1, 0, 0, 0, _) from rfl) (Or.inl ⟨.int 1, rfl, rfl⟩) ?_
      refine XW.fam (S' := (103, [(5, .int k), (0, .ref 94), (1, .int done), (2, .int s), (3, .int t), (4, .int b)], [.ref 94, .int 1, .int (I 159 (k).toNatClampNeg)], (sh, I, L, R))) (M := mr_340) rfl (show mcode 340 102 = some (102, .aload_n 0, 1, 0, 0, 0, _) from rfl) (Or.inl ⟨.ref 94, rfl, rfl⟩) ?_
      refine XW.fam (S' := (106, [(5, .int k), (0, .ref 94), (1, .int done), (2, .int s), (3, .int t), (4, .int b)], [.int (I 94 92), .int 1, .int (I 159 (k).toNatClampNeg)], (sh, I, L, R))) (M := mr_340) rfl (show mcode 340 103 = some (103, .getfield 570, 3, 12, 92, 0, _) from rfl) (Or.inr (Or.inr (Or.inr (Or.inr (Or.inr (Or.inr (Or.inr (Or.inl ⟨_, _, rfl, fl_ldI c94 (by decide) (by decide), rfl⟩)))))))) ?_
      rw [vm]
      refine XW.fam (S' := (107, [(5, .int k), (0, .ref 94), (1, .int done), (2, .int s), (3, .int t), (4, .int b)], [.int (1 <<< (m &&& 31)), .int (I 159 (k).toNatClampNeg)], (sh, I, L, R))) (M := mr_340) rfl (show mcode 340 106 = some (106, .ishl, 1, 0, 0, 0, _) from rfl) (Or.inr (Or.inr (Or.inr (Or.inr (Or.inr (Or.inl ⟨_, rfl, rfl⟩)))))) ?_
      refine XW.fam (S' := (108, [(5, .int k), (0, .ref 94), (1, .int done), (2, .int s), (3, .int t), (4, .int b)], [.int 1, .int (1 <<< (m &&& 31)), .int (I 159 (k).toNatClampNeg)], (sh, I, L, R))) (M := mr_340) rfl (show mcode 340 107 = some (107, .iconst 1, 1, 0, 0, 0, _) from rfl) (Or.inl ⟨.int 1, rfl, rfl⟩) ?_
      refine XW.fam (S' := (109, [(5, .int k), (0, .ref 94), (1, .int done), (2, .int s), (3, .int t), (4, .int b)], [.int ((1 <<< (m &&& 31)) - 1), .int (I 159 (k).toNatClampNeg)], (sh, I, L, R))) (M := mr_340) rfl (show mcode 340 108 = some (108, .isub, 1, 0, 0, 0, _) from rfl) (Or.inr (Or.inr (Or.inr (Or.inr (Or.inr (Or.inl ⟨_, rfl, rfl⟩)))))) ?_
      refine XW.fam (S' := (110, [(5, .int k), (0, .ref 94), (1, .int done), (2, .int s), (3, .int t), (4, .int b)], [.int ((I 159 (k).toNatClampNeg) &&& ((1 <<< (m &&& 31)) - 1))], (sh, I, L, R))) (M := mr_340) rfl (show mcode 340 109 = some (109, .iand, 1, 0, 0, 0, _) from rfl) (Or.inr (Or.inr (Or.inr (Or.inr (Or.inr (Or.inl ⟨_, rfl, rfl⟩)))))) ?_
      refine XW.fam (S' := (112, [(6, .int ((I 159 (k).toNatClampNeg) &&& ((1 <<< (m &&& 31)) - 1))), (5, .int k), (0, .ref 94), (1, .int done), (2, .int s), (3, .int t), (4, .int b)], [], (sh, I, L, R))) (M := mr_340) rfl (show mcode 340 110 = some (110, .istore 6, 2, 0, 0, 0, _) from rfl) (Or.inr (Or.inr (Or.inr (Or.inr (Or.inr (Or.inr (Or.inl ⟨_, [], _, rfl, rfl, rfl⟩))))))) ?_
      refine XW.fam (S' := (113, [(6, .int ((I 159 (k).toNatClampNeg) &&& ((1 <<< (m &&& 31)) - 1))), (5, .int k), (0, .ref 94), (1, .int done), (2, .int s), (3, .int t), (4, .int b)], [.int s], (sh, I, L, R))) (M := mr_340) rfl (show mcode 340 112 = some (112, .iload_n 2, 1, 0, 0, 0, _) from rfl) (Or.inl ⟨.int s, rfl, rfl⟩) ?_
      refine XW.fam (S' := (115, [(6, .int ((I 159 (k).toNatClampNeg) &&& ((1 <<< (m &&& 31)) - 1))), (5, .int k), (0, .ref 94), (1, .int done), (2, .int s), (3, .int t), (4, .int b)], [.int k, .int s], (sh, I, L, R))) (M := mr_340) rfl (show mcode 340 113 = some (113, .iload 5, 2, 0, 0, 0, _) from rfl) (Or.inl ⟨.int k, rfl, rfl⟩) ?_
      refine XW.fam (S' := (116, [(6, .int ((I 159 (k).toNatClampNeg) &&& ((1 <<< (m &&& 31)) - 1))), (5, .int k), (0, .ref 94), (1, .int done), (2, .int s), (3, .int t), (4, .int b)], [.int (s >>> (k &&& 31))], (sh, I, L, R))) (M := mr_340) rfl (show mcode 340 115 = some (115, .ishr, 1, 0, 0, 0, _) from rfl) (Or.inr (Or.inr (Or.inr (Or.inr (Or.inr (Or.inl ⟨_, rfl, rfl⟩)))))) ?_
      refine XW.fam (S' := (117, [(6, .int ((I 159 (k).toNatClampNeg) &&& ((1 <<< (m &&& 31)) - 1))), (5, .int k), (0, .ref 94), (1, .int done), (2, .int s), (3, .int t), (4, .int b)], [.int 1, .int (s >>> (k &&& 31))], (sh, I, L, R))) (M := mr_340) rfl (show mcode 340 116 = some (116, .iconst 1, 1, 0, 0, 0, _) from rfl) (Or.inl ⟨.int 1, rfl, rfl⟩) ?_
      refine XW.fam (S' := (118, [(6, .int ((I 159 (k).toNatClampNeg) &&& ((1 <<< (m &&& 31)) - 1))), (5, .int k), (0, .ref 94), (1, .int done), (2, .int s), (3, .int t), (4, .int b)], [.int ((s >>> (k &&& 31)) &&& 1)], (sh, I, L, R))) (M := mr_340) rfl (show mcode 340 117 = some (117, .iand, 1, 0, 0, 0, _) from rfl) (Or.inr (Or.inr (Or.inr (Or.inr (Or.inr (Or.inl ⟨_, rfl, rfl⟩)))))) ?_
      refine XW.fam (S' := (119, [(6, .int ((I 159 (k).toNatClampNeg) &&& ((1 <<< (m &&& 31)) - 1))), (5, .int k), (0, .ref 94), (1, .int done), (2, .int s), (3, .int t), (4, .int b)], [.int 1, .int ((s >>> (k &&& 31)) &&& 1)], (sh, I, L, R))) (M := mr_340) rfl (show mcode 340 118 = some (118, .iconst 1, 1, 0, 0, 0, _) from rfl) (Or.inl ⟨.int 1, rfl, rfl⟩) ?_
      cases k3 : bcmp .eq ((s >>> (k &&& 31)) &&& 1) 1 with
      | true =>
        have gk3 : (((s >>> (k &&& 31)) &&& 1)).toInt = 1 := icT (c := .eq) (a := (((s >>> (k &&& 31)) &&& 1)).toInt) (b := 1) rfl (by decide) k3
        refine XW.fam (S' := (184, [(6, .int ((I 159 (k).toNatClampNeg) &&& ((1 <<< (m &&& 31)) - 1))), (5, .int k), (0, .ref 94), (1, .int done), (2, .int s), (3, .int t), (4, .int b)], [], (sh, I, L, R))) (M := mr_340) rfl (show mcode 340 119 = some (119, .if_icmp .eq 65, 3, 184, 0, 0, _) from rfl) (Or.inr (Or.inl ⟨184, [], by simp [brn, k3], rfl⟩)) ?_
        refine XW.fam (S' := (187, [(5, .int (k + Int32.ofInt 1)), (6, .int ((I 159 (k).toNatClampNeg) &&& ((1 <<< (m &&& 31)) - 1))), (0, .ref 94), (1, .int done), (2, .int s), (3, .int t), (4, .int b)], [], (sh, I, L, R))) (M := mr_340) rfl (show mcode 340 184 = some (184, .iinc 5 1, 3, 0, 0, 0, _) from rfl) (Or.inr (Or.inr (Or.inr (Or.inr (Or.inr (Or.inr (Or.inr (Or.inr (Or.inr ⟨5, 1, k, rfl, rfl, by decide, rfl⟩))))))))) ?_
        refine XW.fam (S' := (85, [(5, .int (k + Int32.ofInt 1)), (6, .int ((I 159 (k).toNatClampNeg) &&& ((1 <<< (m &&& 31)) - 1))), (0, .ref 94), (1, .int done), (2, .int s), (3, .int t), (4, .int b)], [], (sh, I, L, R))) (M := mr_340) rfl (show mcode 340 187 = some (187, .goto (-102), 3, 85, 0, 0, _) from rfl) (Or.inr (Or.inl ⟨85, [], rfl, rfl⟩)) ?_
        have eo := incO (m := k) (by omega) (by omega)
        have en : (k + Int32.ofInt 1).toInt.toNat = k.toInt.toNat + 1 := by omega
        refine XW.sub (ls' := [(5, .int (k + Int32.ofInt 1)), (0, .ref 94), (1, .int done), (2, .int s), (3, .int t), (4, .int b)]) (List.forall_mem_cons.mpr ⟨List.mem_of_getElem? (i := 0) rfl, (List.forall_mem_cons.mpr ⟨List.mem_of_getElem? (i := 2) rfl, (List.forall_mem_cons.mpr ⟨List.mem_of_getElem? (i := 3) rfl, (List.forall_mem_cons.mpr ⟨List.mem_of_getElem? (i := 4) rfl, (List.forall_mem_cons.mpr ⟨List.mem_of_getElem? (i := 5) rfl, (List.forall_mem_cons.mpr ⟨List.mem_of_getElem? (i := 6) rfl, (fun _ h => absurd h List.not_mem_nil)⟩)⟩)⟩)⟩)⟩)⟩) ?_
        have hb := b_shr (s := s) (i := k) (by omega) (by omega)
        have hoA := okA_eq (A := J 159) (n := m) (al := (1 <<< (m &&& 31)) - 1) (s := s) (i := k) (by omega) rfl
        have e159 : J 159 (k).toNatClampNeg = I 159 (k).toNatClampNeg := (hkp 159 _ rfl).symm
        rw [e159] at hoA
        have efn := bFI_no (I := J) (qd := 157) (qb := 158) (qa := 159) (n := m) (s := s.toInt.toNat) (i := k.toInt.toNat) (fun q => by have q1 := q.1; have q2 := hoA.mp q.2; omega)
        refine ih (k + Int32.ofInt 1) (by omega) (by omega) (by omega) hw hf hkp ?_
        rw [en, lmn_no (f := bFI J 157 158 159 m s.toInt.toNat) (n := k.toInt.toNat) efn]
        exact hp
      | false =>
        have gk3 : ¬ ((((s >>> (k &&& 31)) &&& 1)).toInt = 1) := icF (c := .eq) (a := (((s >>> (k &&& 31)) &&& 1)).toInt) (b := 1) rfl (by decide) k3
        refine XW.fam (S' := (122, [(6, .int ((I 159 (k).toNatClampNeg) &&& ((1 <<< (m &&& 31)) - 1))), (5, .int k), (0, .ref 94), (1, .int done), (2, .int s), (3, .int t), (4, .int b)], [], (sh, I, L, R))) (M := mr_340) rfl (show mcode 340 119 = some (119, .if_icmp .eq 65, 3, 184, 0, 0, _) from rfl) (Or.inr (Or.inl ⟨122, [], by simp [brn, k3], rfl⟩)) ?_
        refine XW.fam (S' := (124, [(6, .int ((I 159 (k).toNatClampNeg) &&& ((1 <<< (m &&& 31)) - 1))), (5, .int k), (0, .ref 94), (1, .int done), (2, .int s), (3, .int t), (4, .int b)], [.int ((I 159 (k).toNatClampNeg) &&& ((1 <<< (m &&& 31)) - 1))], (sh, I, L, R))) (M := mr_340) rfl (show mcode 340 122 = some (122, .iload 6, 2, 0, 0, 0, _) from rfl) (Or.inl ⟨.int ((I 159 (k).toNatClampNeg) &&& ((1 <<< (m &&& 31)) - 1)), rfl, rfl⟩) ?_
        refine XW.fam (S' := (125, [(6, .int ((I 159 (k).toNatClampNeg) &&& ((1 <<< (m &&& 31)) - 1))), (5, .int k), (0, .ref 94), (1, .int done), (2, .int s), (3, .int t), (4, .int b)], [.int s, .int ((I 159 (k).toNatClampNeg) &&& ((1 <<< (m &&& 31)) - 1))], (sh, I, L, R))) (M := mr_340) rfl (show mcode 340 124 = some (124, .iload_n 2, 1, 0, 0, 0, _) from rfl) (Or.inl ⟨.int s, rfl, rfl⟩) ?_
        refine XW.fam (S' := (126, [(6, .int ((I 159 (k).toNatClampNeg) &&& ((1 <<< (m &&& 31)) - 1))), (5, .int k), (0, .ref 94), (1, .int done), (2, .int s), (3, .int t), (4, .int b)], [.int (-1), .int s, .int ((I 159 (k).toNatClampNeg) &&& ((1 <<< (m &&& 31)) - 1))], (sh, I, L, R))) (M := mr_340) rfl (show mcode 340 125 = some (125, .iconst (-1), 1, 0, 0, 0, _) from rfl) (Or.inl ⟨.int (-1), rfl, rfl⟩) ?_
        refine XW.fam (S' := (127, [(6, .int ((I 159 (k).toNatClampNeg) &&& ((1 <<< (m &&& 31)) - 1))), (5, .int k), (0, .ref 94), (1, .int done), (2, .int s), (3, .int t), (4, .int b)], [.int (s ^^^ (-1)), .int ((I 159 (k).toNatClampNeg) &&& ((1 <<< (m &&& 31)) - 1))], (sh, I, L, R))) (M := mr_340) rfl (show mcode 340 126 = some (126, .ixor, 1, 0, 0, 0, _) from rfl) (Or.inr (Or.inr (Or.inr (Or.inr (Or.inr (Or.inl ⟨_, rfl, rfl⟩)))))) ?_
        refine XW.fam (S' := (128, [(6, .int ((I 159 (k).toNatClampNeg) &&& ((1 <<< (m &&& 31)) - 1))), (5, .int k), (0, .ref 94), (1, .int done), (2, .int s), (3, .int t), (4, .int b)], [.int (((I 159 (k).toNatClampNeg) &&& ((1 <<< (m &&& 31)) - 1)) &&& (s ^^^ (-1)))], (sh, I, L, R))) (M := mr_340) rfl (show mcode 340 127 = some (127, .iand, 1, 0, 0, 0, _) from rfl) (Or.inr (Or.inr (Or.inr (Or.inr (Or.inr (Or.inl ⟨_, rfl, rfl⟩)))))) ?_
        obtain ⟨y4, ey4⟩ : ∃ z : Int32, (((I 159 (k).toNatClampNeg) &&& ((1 <<< (m &&& 31)) - 1)) &&& (s ^^^ (-1))) = z := ⟨_, rfl⟩
        have ty4 : ((((I 159 (k).toNatClampNeg) &&& ((1 <<< (m &&& 31)) - 1)) &&& (s ^^^ (-1)))).toInt = y4.toInt := by rw [ey4]
        rw [ey4]
        cases k5 : bcmp .eq y4 0 with
        | true =>
          have gk5 : (y4).toInt = 0 := icT (c := .eq) (a := (y4).toInt) (b := 0) rfl (by decide) k5
          refine XW.fam (S' := (134, [(6, .int ((I 159 (k).toNatClampNeg) &&& ((1 <<< (m &&& 31)) - 1))), (5, .int k), (0, .ref 94), (1, .int done), (2, .int s), (3, .int t), (4, .int b)], [], (sh, I, L, R))) (M := mr_340) rfl (show mcode 340 128 = some (128, .ifCond .eq 6, 3, 134, 0, 0, _) from rfl) (Or.inr (Or.inl ⟨134, [], by simp [brn, k5], rfl⟩)) ?_
          refine XW.fam (S' := (135, [(6, .int ((I 159 (k).toNatClampNeg) &&& ((1 <<< (m &&& 31)) - 1))), (5, .int k), (0, .ref 94), (1, .int done), (2, .int s), (3, .int t), (4, .int b)], [.ref 94], (sh, I, L, R))) (M := mr_340) rfl (show mcode 340 134 = some (134, .aload_n 0, 1, 0, 0, 0, _) from rfl) (Or.inl ⟨.ref 94, rfl, rfl⟩) ?_
          refine XW.fam (S' := (138, [(6, .int ((I 159 (k).toNatClampNeg) &&& ((1 <<< (m &&& 31)) - 1))), (5, .int k), (0, .ref 94), (1, .int done), (2, .int s), (3, .int t), (4, .int b)], [.ref 160], (sh, I, L, R))) (M := mr_340) rfl (show mcode 340 135 = some (135, .getfield 217, 3, 12, 97, 0, _) from rfl) (Or.inr (Or.inr (Or.inr (Or.inr (Or.inr (Or.inr (Or.inr (Or.inl ⟨_, _, rfl, fl_ld c94 r94_97 (by decide) (by decide), rfl⟩)))))))) ?_
          refine XW.fam (S' := (139, [(6, .int ((I 159 (k).toNatClampNeg) &&& ((1 <<< (m &&& 31)) - 1))), (5, .int k), (0, .ref 94), (1, .int done), (2, .int s), (3, .int t), (4, .int b)], [.int done, .ref 160], (sh, I, L, R))) (M := mr_340) rfl (show mcode 340 138 = some (138, .iload_n 1, 1, 0, 0, 0, _) from rfl) (Or.inl ⟨.int done, rfl, rfl⟩) ?_
          refine XW.fam (S' := (141, [(6, .int ((I 159 (k).toNatClampNeg) &&& ((1 <<< (m &&& 31)) - 1))), (5, .int k), (0, .ref 94), (1, .int done), (2, .int s), (3, .int t), (4, .int b)], [.int k, .int done, .ref 160], (sh, I, L, R))) (M := mr_340) rfl (show mcode 340 139 = some (139, .iload 5, 2, 0, 0, 0, _) from rfl) (Or.inl ⟨.int k, rfl, rfl⟩) ?_
          have hin6 : inR done 8 = true := inR_of (by omega) (by omega)
          obtain ⟨I7, eI7⟩ : ∃ X, X = up2 I 160 (done).toNatClampNeg k := ⟨_, rfl⟩
          refine XW.fam (S' := (142, [(6, .int ((I 159 (k).toNatClampNeg) &&& ((1 <<< (m &&& 31)) - 1))), (5, .int k), (0, .ref 94), (1, .int done), (2, .int s), (3, .int t), (4, .int b)], [], (sh, I7, L, R))) (M := mr_340) rfl (show mcode 340 141 = some (141, .iastore, 1, 0, 0, 0, _) from rfl) (Or.inr (Or.inr (Or.inr (Or.inl ⟨_, _, by rw [eI7]; exact sta_i c160 hin6, rfl⟩)))) ?_
          have hwI7 : wOK (mkT vV []) (wE sh R) (sh, I7, L, R) := by rw [eI7]; exact wOK_u2 (q := 160) (k := (done).toNatClampNeg) (x := k) wE_put hw rfl (by show (0 : Int) ≤ _; omega) (by show _ ≤ (7 : Int); omega)
          have hfI7 : fresh (sh, I7, L, R) := by rw [eI7]; exact fresh_I hf c160
          have v8 : I7 94 92 = m := by rw [eI7, up2_ne (fun e => by cases e.1)]; exact vm
          have v9 : I7 160 (done).toNatClampNeg = k := by rw [eI7]; exact up2_eq
          refine XW.fam (S' := (143, [(6, .int ((I 159 (k).toNatClampNeg) &&& ((1 <<< (m &&& 31)) - 1))), (5, .int k), (0, .ref 94), (1, .int done), (2, .int s), (3, .int t), (4, .int b)], [.ref 94], (sh, I7, L, R))) (M := mr_340) rfl (show mcode 340 142 = some (142, .aload_n 0, 1, 0, 0, 0, _) from rfl) (Or.inl ⟨.ref 94, rfl, rfl⟩) ?_
          refine XW.fam (S' := (144, [(6, .int ((I 159 (k).toNatClampNeg) &&& ((1 <<< (m &&& 31)) - 1))), (5, .int k), (0, .ref 94), (1, .int done), (2, .int s), (3, .int t), (4, .int b)], [.int done, .ref 94], (sh, I7, L, R))) (M := mr_340) rfl (show mcode 340 143 = some (143, .iload_n 1, 1, 0, 0, 0, _) from rfl) (Or.inl ⟨.int done, rfl, rfl⟩) ?_
          refine XW.fam (S' := (145, [(6, .int ((I 159 (k).toNatClampNeg) &&& ((1 <<< (m &&& 31)) - 1))), (5, .int k), (0, .ref 94), (1, .int done), (2, .int s), (3, .int t), (4, .int b)], [.int 1, .int done, .ref 94], (sh, I7, L, R))) (M := mr_340) rfl (show mcode 340 144 = some (144, .iconst 1, 1, 0, 0, 0, _) from rfl) (Or.inl ⟨.int 1, rfl, rfl⟩) ?_
          refine XW.fam (S' := (146, [(6, .int ((I 159 (k).toNatClampNeg) &&& ((1 <<< (m &&& 31)) - 1))), (5, .int k), (0, .ref 94), (1, .int done), (2, .int s), (3, .int t), (4, .int b)], [.int (done + 1), .ref 94], (sh, I7, L, R))) (M := mr_340) rfl (show mcode 340 145 = some (145, .iadd, 1, 0, 0, 0, _) from rfl) (Or.inr (Or.inr (Or.inr (Or.inr (Or.inr (Or.inl ⟨_, rfl, rfl⟩)))))) ?_
          refine XW.fam (S' := (147, [(6, .int ((I 159 (k).toNatClampNeg) &&& ((1 <<< (m &&& 31)) - 1))), (5, .int k), (0, .ref 94), (1, .int done), (2, .int s), (3, .int t), (4, .int b)], [.int s, .int (done + 1), .ref 94], (sh, I7, L, R))) (M := mr_340) rfl (show mcode 340 146 = some (146, .iload_n 2, 1, 0, 0, 0, _) from rfl) (Or.inl ⟨.int s, rfl, rfl⟩) ?_
          refine XW.fam (S' := (148, [(6, .int ((I 159 (k).toNatClampNeg) &&& ((1 <<< (m &&& 31)) - 1))), (5, .int k), (0, .ref 94), (1, .int done), (2, .int s), (3, .int t), (4, .int b)], [.int 1, .int s, .int (done + 1), .ref 94], (sh, I7, L, R))) (M := mr_340) rfl (show mcode 340 147 = some (147, .iconst 1, 1, 0, 0, 0, _) from rfl) (Or.inl ⟨.int 1, rfl, rfl⟩) ?_
          refine XW.fam (S' := (150, [(6, .int ((I 159 (k).toNatClampNeg) &&& ((1 <<< (m &&& 31)) - 1))), (5, .int k), (0, .ref 94), (1, .int done), (2, .int s), (3, .int t), (4, .int b)], [.int k, .int 1, .int s, .int (done + 1), .ref 94], (sh, I7, L, R))) (M := mr_340) rfl (show mcode 340 148 = some (148, .iload 5, 2, 0, 0, 0, _) from rfl) (Or.inl ⟨.int k, rfl, rfl⟩) ?_
          refine XW.fam (S' := (151, [(6, .int ((I 159 (k).toNatClampNeg) &&& ((1 <<< (m &&& 31)) - 1))), (5, .int k), (0, .ref 94), (1, .int done), (2, .int s), (3, .int t), (4, .int b)], [.int (1 <<< (k &&& 31)), .int s, .int (done + 1), .ref 94], (sh, I7, L, R))) (M := mr_340) rfl (show mcode 340 150 = some (150, .ishl, 1, 0, 0, 0, _) from rfl) (Or.inr (Or.inr (Or.inr (Or.inr (Or.inr (Or.inl ⟨_, rfl, rfl⟩)))))) ?_
          refine XW.fam (S' := (152, [(6, .int ((I 159 (k).toNatClampNeg) &&& ((1 <<< (m &&& 31)) - 1))), (5, .int k), (0, .ref 94), (1, .int done), (2, .int s), (3, .int t), (4, .int b)], [.int (s ||| (1 <<< (k &&& 31))), .int (done + 1), .ref 94], (sh, I7, L, R))) (M := mr_340) rfl (show mcode 340 151 = some (151, .ior, 1, 0, 0, 0, _) from rfl) (Or.inr (Or.inr (Or.inr (Or.inr (Or.inr (Or.inl ⟨_, rfl, rfl⟩)))))) ?_
          refine XW.fam (S' := (153, [(6, .int ((I 159 (k).toNatClampNeg) &&& ((1 <<< (m &&& 31)) - 1))), (5, .int k), (0, .ref 94), (1, .int done), (2, .int s), (3, .int t), (4, .int b)], [.int t, .int (s ||| (1 <<< (k &&& 31))), .int (done + 1), .ref 94], (sh, I7, L, R))) (M := mr_340) rfl (show mcode 340 152 = some (152, .iload_n 3, 1, 0, 0, 0, _) from rfl) (Or.inl ⟨.int t, rfl, rfl⟩) ?_
          refine XW.fam (S' := (154, [(6, .int ((I 159 (k).toNatClampNeg) &&& ((1 <<< (m &&& 31)) - 1))), (5, .int k), (0, .ref 94), (1, .int done), (2, .int s), (3, .int t), (4, .int b)], [.ref 94, .int t, .int (s ||| (1 <<< (k &&& 31))), .int (done + 1), .ref 94], (sh, I7, L, R))) (M := mr_340) rfl (show mcode 340 153 = some (153, .aload_n 0, 1, 0, 0, 0, _) from rfl) (Or.inl ⟨.ref 94, rfl, rfl⟩) ?_
          refine XW.fam (S' := (157, [(6, .int ((I 159 (k).toNatClampNeg) &&& ((1 <<< (m &&& 31)) - 1))), (5, .int k), (0, .ref 94), (1, .int done), (2, .int s), (3, .int t), (4, .int b)], [.ref 157, .int t, .int (s ||| (1 <<< (k &&& 31))), .int (done + 1), .ref 94], (sh, I7, L, R))) (M := mr_340) rfl (show mcode 340 154 = some (154, .getfield 208, 3, 12, 94, 0, _) from rfl) (Or.inr (Or.inr (Or.inr (Or.inr (Or.inr (Or.inr (Or.inr (Or.inl ⟨_, _, rfl, fl_ld c94 r94_94 (by decide) (by decide), rfl⟩)))))))) ?_
          refine XW.fam (S' := (159, [(6, .int ((I 159 (k).toNatClampNeg) &&& ((1 <<< (m &&& 31)) - 1))), (5, .int k), (0, .ref 94), (1, .int done), (2, .int s), (3, .int t), (4, .int b)], [.int k, .ref 157, .int t, .int (s ||| (1 <<< (k &&& 31))), .int (done + 1), .ref 94], (sh, I7, L, R))) (M := mr_340) rfl (show mcode 340 157 = some (157, .iload 5, 2, 0, 0, 0, _) from rfl) (Or.inl ⟨.int k, rfl, rfl⟩) ?_
          have hin10 : inR k 8 = true := inR_of (by omega) (by omega)
          refine XW.fam (S' := (160, [(6, .int ((I 159 (k).toNatClampNeg) &&& ((1 <<< (m &&& 31)) - 1))), (5, .int k), (0, .ref 94), (1, .int done), (2, .int s), (3, .int t), (4, .int b)], [.int (I7 157 (k).toNatClampNeg), .int t, .int (s ||| (1 <<< (k &&& 31))), .int (done + 1), .ref 94], (sh, I7, L, R))) (M := mr_340) rfl (show mcode 340 159 = some (159, .iaload, 1, 0, 0, 0, _) from rfl) (Or.inr (Or.inr (Or.inl ⟨_, lda_i c157 hin10, rfl⟩))) ?_
          refine XW.fam (S' := (161, [(6, .int ((I 159 (k).toNatClampNeg) &&& ((1 <<< (m &&& 31)) - 1))), (5, .int k), (0, .ref 94), (1, .int done), (2, .int s), (3, .int t), (4, .int b)], [.int (t + (I7 157 (k).toNatClampNeg)), .int (s ||| (1 <<< (k &&& 31))), .int (done + 1), .ref 94], (sh, I7, L, R))) (M := mr_340) rfl (show mcode 340 160 = some (160, .iadd, 1, 0, 0, 0, _) from rfl) (Or.inr (Or.inr (Or.inr (Or.inr (Or.inr (Or.inl ⟨_, rfl, rfl⟩)))))) ?_
          refine XW.fam (S' := (163, [(6, .int ((I 159 (k).toNatClampNeg) &&& ((1 <<< (m &&& 31)) - 1))), (5, .int k), (0, .ref 94), (1, .int done), (2, .int s), (3, .int t), (4, .int b)], [.int b, .int (t + (I7 157 (k).toNatClampNeg)), .int (s ||| (1 <<< (k &&& 31))), .int (done + 1), .ref 94], (sh, I7, L, R))) (M := mr_340) rfl (show mcode 340 161 = some (161, .iload 4, 2, 0, 0, 0, _) from rfl) (Or.inl ⟨.int b, rfl, rfl⟩) ?_
          refine XW.fam (S' := (164, [(6, .int ((I 159 (k).toNatClampNeg) &&& ((1 <<< (m &&& 31)) - 1))), (5, .int k), (0, .ref 94), (1, .int done), (2, .int s), (3, .int t), (4, .int b)], [.ref 94, .int b, .int (t + (I7 157 (k).toNatClampNeg)), .int (s ||| (1 <<< (k &&& 31))), .int (done + 1), .ref 94], (sh, I7, L, R))) (M := mr_340) rfl (show mcode 340 163 = some (163, .aload_n 0, 1, 0, 0, 0, _) from rfl) (Or.inl ⟨.ref 94, rfl, rfl⟩) ?_
          refine XW.fam (S' := (167, [(6, .int ((I 159 (k).toNatClampNeg) &&& ((1 <<< (m &&& 31)) - 1))), (5, .int k), (0, .ref 94), (1, .int done), (2, .int s), (3, .int t), (4, .int b)], [.ref 158, .int b, .int (t + (I7 157 (k).toNatClampNeg)), .int (s ||| (1 <<< (k &&& 31))), .int (done + 1), .ref 94], (sh, I7, L, R))) (M := mr_340) rfl (show mcode 340 164 = some (164, .getfield 211, 3, 12, 95, 0, _) from rfl) (Or.inr (Or.inr (Or.inr (Or.inr (Or.inr (Or.inr (Or.inr (Or.inl ⟨_, _, rfl, fl_ld c94 r94_95 (by decide) (by decide), rfl⟩)))))))) ?_
          refine XW.fam (S' := (169, [(6, .int ((I 159 (k).toNatClampNeg) &&& ((1 <<< (m &&& 31)) - 1))), (5, .int k), (0, .ref 94), (1, .int done), (2, .int s), (3, .int t), (4, .int b)], [.int k, .ref 158, .int b, .int (t + (I7 157 (k).toNatClampNeg)), .int (s ||| (1 <<< (k &&& 31))), .int (done + 1), .ref 94], (sh, I7, L, R))) (M := mr_340) rfl (show mcode 340 167 = some (167, .iload 5, 2, 0, 0, 0, _) from rfl) (Or.inl ⟨.int k, rfl, rfl⟩) ?_
          have hin11 : inR k 8 = true := inR_of (by omega) (by omega)
          refine XW.fam (S' := (170, [(6, .int ((I 159 (k).toNatClampNeg) &&& ((1 <<< (m &&& 31)) - 1))), (5, .int k), (0, .ref 94), (1, .int done), (2, .int s), (3, .int t), (4, .int b)], [.int (I7 158 (k).toNatClampNeg), .int b, .int (t + (I7 157 (k).toNatClampNeg)), .int (s ||| (1 <<< (k &&& 31))), .int (done + 1), .ref 94], (sh, I7, L, R))) (M := mr_340) rfl (show mcode 340 169 = some (169, .iaload, 1, 0, 0, 0, _) from rfl) (Or.inr (Or.inr (Or.inl ⟨_, lda_i c158 hin11, rfl⟩))) ?_
          refine XW.fam (S' := (171, [(6, .int ((I 159 (k).toNatClampNeg) &&& ((1 <<< (m &&& 31)) - 1))), (5, .int k), (0, .ref 94), (1, .int done), (2, .int s), (3, .int t), (4, .int b)], [.int t, .int (I7 158 (k).toNatClampNeg), .int b, .int (t + (I7 157 (k).toNatClampNeg)), .int (s ||| (1 <<< (k &&& 31))), .int (done + 1), .ref 94], (sh, I7, L, R))) (M := mr_340) rfl (show mcode 340 170 = some (170, .iload_n 3, 1, 0, 0, 0, _) from rfl) (Or.inl ⟨.int t, rfl, rfl⟩) ?_
          refine XW.fam (S' := (172, [(6, .int ((I 159 (k).toNatClampNeg) &&& ((1 <<< (m &&& 31)) - 1))), (5, .int k), (0, .ref 94), (1, .int done), (2, .int s), (3, .int t), (4, .int b)], [.ref 94, .int t, .int (I7 158 (k).toNatClampNeg), .int b, .int (t + (I7 157 (k).toNatClampNeg)), .int (s ||| (1 <<< (k &&& 31))), .int (done + 1), .ref 94], (sh, I7, L, R))) (M := mr_340) rfl (show mcode 340 171 = some (171, .aload_n 0, 1, 0, 0, 0, _) from rfl) (Or.inl ⟨.ref 94, rfl, rfl⟩) ?_
          refine XW.fam (S' := (175, [(6, .int ((I 159 (k).toNatClampNeg) &&& ((1 <<< (m &&& 31)) - 1))), (5, .int k), (0, .ref 94), (1, .int done), (2, .int s), (3, .int t), (4, .int b)], [.ref 157, .int t, .int (I7 158 (k).toNatClampNeg), .int b, .int (t + (I7 157 (k).toNatClampNeg)), .int (s ||| (1 <<< (k &&& 31))), .int (done + 1), .ref 94], (sh, I7, L, R))) (M := mr_340) rfl (show mcode 340 172 = some (172, .getfield 208, 3, 12, 94, 0, _) from rfl) (Or.inr (Or.inr (Or.inr (Or.inr (Or.inr (Or.inr (Or.inr (Or.inl ⟨_, _, rfl, fl_ld c94 r94_94 (by decide) (by decide), rfl⟩)))))))) ?_
          refine XW.fam (S' := (177, [(6, .int ((I 159 (k).toNatClampNeg) &&& ((1 <<< (m &&& 31)) - 1))), (5, .int k), (0, .ref 94), (1, .int done), (2, .int s), (3, .int t), (4, .int b)], [.int k, .ref 157, .int t, .int (I7 158 (k).toNatClampNeg), .int b, .int (t + (I7 157 (k).toNatClampNeg)), .int (s ||| (1 <<< (k &&& 31))), .int (done + 1), .ref 94], (sh, I7, L, R))) (M := mr_340) rfl (show mcode 340 175 = some (175, .iload 5, 2, 0, 0, 0, _) from rfl) (Or.inl ⟨.int k, rfl, rfl⟩) ?_
          have hin12 : inR k 8 = true := inR_of (by omega) (by omega)
          refine XW.fam (S' := (178, [(6, .int ((I 159 (k).toNatClampNeg) &&& ((1 <<< (m &&& 31)) - 1))), (5, .int k), (0, .ref 94), (1, .int done), (2, .int s), (3, .int t), (4, .int b)], [.int (I7 157 (k).toNatClampNeg), .int t, .int (I7 158 (k).toNatClampNeg), .int b, .int (t + (I7 157 (k).toNatClampNeg)), .int (s ||| (1 <<< (k &&& 31))), .int (done + 1), .ref 94], (sh, I7, L, R))) (M := mr_340) rfl (show mcode 340 177 = some (177, .iaload, 1, 0, 0, 0, _) from rfl) (Or.inr (Or.inr (Or.inl ⟨_, lda_i c157 hin12, rfl⟩))) ?_
          refine XW.fam (S' := (179, [(6, .int ((I 159 (k).toNatClampNeg) &&& ((1 <<< (m &&& 31)) - 1))), (5, .int k), (0, .ref 94), (1, .int done), (2, .int s), (3, .int t), (4, .int b)], [.int (t + (I7 157 (k).toNatClampNeg)), .int (I7 158 (k).toNatClampNeg), .int b, .int (t + (I7 157 (k).toNatClampNeg)), .int (s ||| (1 <<< (k &&& 31))), .int (done + 1), .ref 94], (sh, I7, L, R))) (M := mr_340) rfl (show mcode 340 178 = some (178, .iadd, 1, 0, 0, 0, _) from rfl) (Or.inr (Or.inr (Or.inr (Or.inr (Or.inr (Or.inl ⟨_, rfl, rfl⟩)))))) ?_
          refine XW.fam (S' := (180, [(6, .int ((I 159 (k).toNatClampNeg) &&& ((1 <<< (m &&& 31)) - 1))), (5, .int k), (0, .ref 94), (1, .int done), (2, .int s), (3, .int t), (4, .int b)], [.int ((I7 158 (k).toNatClampNeg) * (t + (I7 157 (k).toNatClampNeg))), .int b, .int (t + (I7 157 (k).toNatClampNeg)), .int (s ||| (1 <<< (k &&& 31))), .int (done + 1), .ref 94], (sh, I7, L, R))) (M := mr_340) rfl (show mcode 340 179 = some (179, .imul, 1, 0, 0, 0, _) from rfl) (Or.inr (Or.inr (Or.inr (Or.inr (Or.inr (Or.inl ⟨_, rfl, rfl⟩)))))) ?_
          refine XW.fam (S' := (181, [(6, .int ((I 159 (k).toNatClampNeg) &&& ((1 <<< (m &&& 31)) - 1))), (5, .int k), (0, .ref 94), (1, .int done), (2, .int s), (3, .int t), (4, .int b)], [.int (b + ((I7 158 (k).toNatClampNeg) * (t + (I7 157 (k).toNatClampNeg)))), .int (t + (I7 157 (k).toNatClampNeg)), .int (s ||| (1 <<< (k &&& 31))), .int (done + 1), .ref 94], (sh, I7, L, R))) (M := mr_340) rfl (show mcode 340 180 = some (180, .iadd, 1, 0, 0, 0, _) from rfl) (Or.inr (Or.inr (Or.inr (Or.inr (Or.inr (Or.inl ⟨_, rfl, rfl⟩)))))) ?_
          have hb := b_shr (s := s) (i := k) (by omega) (by omega)
          have hoA := okA_eq (A := J 159) (n := m) (al := (1 <<< (m &&& 31)) - 1) (s := s) (i := k) (by omega) rfl
          have e159 : J 159 (k).toNatClampNeg = I 159 (k).toNatClampNeg := (hkp 159 _ rfl).symm
          rw [e159] at hoA
          have hX := bit01 (s >>> (k &&& 31))
          have hb0 : bt s.toInt.toNat k.toInt.toNat = 0 := by omega
          have hok : okA (J 159) m s.toInt.toNat k.toInt.toNat = true := hoA.mpr (by omega)
          have hfit := bt_fit (n := m.toInt.toNat) (s := s.toInt.toNat) (i := k.toInt.toNat) (by omega) (by omega) (by omega) hb0
          have eor := b_or (s := s) (i := k) (by omega) (by omega) hb0
          have eon : ((s ||| (1 <<< (k &&& 31)))).toInt.toNat = s.toInt.toNat + 2 ^ k.toInt.toNat := by rw [eor]; exact Int.toNat_natCast _
          have ed1 := inc32 (m := done) (by omega) (by omega)
          have e157 : I7 157 (k).toNatClampNeg = J 157 k.toInt.toNat := by rw [eI7, up2_ne (fun e => by cases e.1)]; exact hkp 157 _ rfl
          have e158 : I7 158 (k).toNatClampNeg = J 158 k.toInt.toNat := by rw [eI7, up2_ne (fun e => by cases e.1)]; exact hkp 158 _ rfl
          have h7 := hJ7 k.toInt.toNat
          have h8 := hJ8 k.toInt.toNat
          rw [e157, e158]
          have f1 := sumS (a := t) (b := J 157 k.toInt.toNat) (by omega) (by omega)
          have f2 := mulK (x := J 158 k.toInt.toNat) (y := t + J 157 k.toInt.toNat) (by omega) (by omega)
          have f3 := sumS (a := b) (b := J 158 k.toInt.toNat * (t + J 157 k.toInt.toNat)) (by omega) (by omega)
          rw [f2.1, f1, ht] at f3
          rw [ht] at f1
          have cr := brc_rng (n := m.toInt.toNat) (D := rI J 157) (B := rI J 158) (s := s.toInt.toNat) (i := k.toInt.toNat) (by omega) hJ7 hJ8
          have cr : 0 ≤ ((J 158 k.toInt.toNat).toInt * (tmS (rI J 157) s.toInt.toNat m.toInt.toNat + (J 157 k.toInt.toNat).toInt)) ∧ ((J 158 k.toInt.toNat).toInt * (tmS (rI J 157) s.toInt.toNat m.toInt.toNat + (J 157 k.toInt.toNat).toInt)) ≤ 179820 := cr
          refine XW.call (d' := d + zz) (mc' := 0) (ms' := 0) (av := [.ref 94, .int (done + 1), .int (s ||| (1 <<< (k &&& 31))), .int (t + J 157 k.toInt.toNat), .int (b + J 158 k.toInt.toNat * (t + J 157 k.toInt.toNat))]) (rest := []) (M := mr_340) (Ma := mr_340) rfl (show mcode 340 181 = some (181, .invokevirtual 579, 3, 340, 0, 0, _) from rfl) rfl (by decide) (by decide) ⟨rfl, 94, _, rfl, c94⟩ rfl rfl (show 0 ≤ 8 by decide) (IH (I := I7) (L := L) (done + 1) (s ||| (1 <<< (k &&& 31))) (t + J 157 k.toInt.toNat) (b + J 158 k.toInt.toNat * (t + J 157 k.toInt.toNat)) hwI7 hfI7 (fun q j hq => by rw [eI7, up2_ne (fun e => by rw [e.1] at hq; cases hq)]; exact hkp q j hq) (by rw [eor]; exact ⟨Int.natCast_nonneg _, Int.ofNat_lt.mpr hfit⟩) (by rw [ed1, eon, tm_put (by omega) (by omega) hb0 (by omega) (by omega), hdn]) (by rw [f1, eon, tm_put (by omega) (by omega) hb0 (by omega) (by omega)]; rfl) (by rw [f3, ed1]; omega) (by rw [ed1]; omega)) (by omega) (Nat.zero_le _) (Nat.zero_le _) (fun rQ13 wQ13 Q13 => ?_)
          obtain ⟨hrQ13, hfQ13, hwQ13, hIQ13, hPQ13⟩ := Q13
          subst hrQ13
          obtain ⟨shQ13, IQ13, LQ13, RQ13⟩ := wQ13
          obtain rfl : sh = shQ13 := hwQ13.2.2.2.1.symm
          obtain rfl : R = RQ13 := hwQ13.2.2.2.2.1.symm
          have vQ13 : IQ13 94 92 = m := (hIQ13 94 92 rfl).trans em
          refine XW.fam (S' := (187, [(5, .int (k + Int32.ofInt 1)), (6, .int ((I 159 (k).toNatClampNeg) &&& ((1 <<< (m &&& 31)) - 1))), (0, .ref 94), (1, .int done), (2, .int s), (3, .int t), (4, .int b)], [], (sh, IQ13, LQ13, R))) (M := mr_340) rfl (show mcode 340 184 = some (184, .iinc 5 1, 3, 0, 0, 0, _) from rfl) (Or.inr (Or.inr (Or.inr (Or.inr (Or.inr (Or.inr (Or.inr (Or.inr (Or.inr ⟨5, 1, k, rfl, rfl, by decide, rfl⟩))))))))) ?_
          refine XW.fam (S' := (85, [(5, .int (k + Int32.ofInt 1)), (6, .int ((I 159 (k).toNatClampNeg) &&& ((1 <<< (m &&& 31)) - 1))), (0, .ref 94), (1, .int done), (2, .int s), (3, .int t), (4, .int b)], [], (sh, IQ13, LQ13, R))) (M := mr_340) rfl (show mcode 340 187 = some (187, .goto (-102), 3, 85, 0, 0, _) from rfl) (Or.inr (Or.inl ⟨85, [], rfl, rfl⟩)) ?_
          have eo := incO (m := k) (by omega) (by omega)
          have en : (k + Int32.ofInt 1).toInt.toNat = k.toInt.toNat + 1 := by omega
          refine XW.sub (ls' := [(5, .int (k + Int32.ofInt 1)), (0, .ref 94), (1, .int done), (2, .int s), (3, .int t), (4, .int b)]) (List.forall_mem_cons.mpr ⟨List.mem_of_getElem? (i := 0) rfl, (List.forall_mem_cons.mpr ⟨List.mem_of_getElem? (i := 2) rfl, (List.forall_mem_cons.mpr ⟨List.mem_of_getElem? (i := 3) rfl, (List.forall_mem_cons.mpr ⟨List.mem_of_getElem? (i := 4) rfl, (List.forall_mem_cons.mpr ⟨List.mem_of_getElem? (i := 5) rfl, (List.forall_mem_cons.mpr ⟨List.mem_of_getElem? (i := 6) rfl, (fun _ h => absurd h List.not_mem_nil)⟩)⟩)⟩)⟩)⟩)⟩) ?_
          have hPb : ((I7 94 101).toInt, (I7 94 100).toInt) = ((I 94 101).toInt, (I 94 100).toInt) := by
            rw [eI7, up2_ne (fun e => by cases e.1), up2_ne (fun e => by cases e.1)]
          have hEr := EE_rng (n := m.toInt.toNat) (D := rI J 157) (B := rI J 158) (ok := okA (J 159) m) (by omega) hJ7 hJ8 255 (s.toInt.toNat + 2 ^ k.toInt.toNat) hfit (by omega)
          have hEr : 0 ≤ EEI J 157 158 159 m (s.toInt.toNat + 2 ^ k.toInt.toNat) ∧ (EEI J 157 158 159 m (s.toInt.toNat + 2 ^ k.toInt.toNat) = 100000000 ∨ EEI J 157 158 159 m (s.toInt.toNat + 2 ^ k.toInt.toNat) ≤ 179820 * (255 : Nat)) := hEr
          have ef := bFI_yes (I := J) (qd := 157) (qb := 158) (qa := 159) (n := m) (s := s.toInt.toNat) (i := k.toInt.toNat) ⟨hb0, hok⟩
          refine ih (k + Int32.ofInt 1) (by omega) (by omega) (by omega) hwQ13 hfQ13 hIQ13 ?_
          have hst := upd_step (E := EEI J 157 158 159 m (s.toInt.toNat + 2 ^ k.toInt.toNat)) (c := ((J 158 k.toInt.toNat).toInt * (tmS (rI J 157) s.toInt.toNat m.toInt.toNat + (J 157 k.toInt.toNat).toInt))) (M := lmn (bFI J 157 158 159 m s.toInt.toNat) k.toInt.toNat) (b := b.toInt) (p := p0) lmn_le (by omega) (by omega)
          rw [← ef] at hst
          have hP2 : ((IQ13 94 101).toInt, (IQ13 94 100).toInt) = updS (EEI J 157 158 159 m ((s ||| (1 <<< (k &&& 31)))).toInt.toNat) ((b + J 158 k.toInt.toNat * (t + J 157 k.toInt.toNat))).toInt ((I7 94 101).toInt, (I7 94 100).toInt) := hPQ13
          rw [en, hP2, hPb, hp, eon, f3, hst]
          rfl
        | false =>
          have gk5 : ¬ ((y4).toInt = 0) := icF (c := .eq) (a := (y4).toInt) (b := 0) rfl (by decide) k5
          refine XW.fam (S' := (131, [(6, .int ((I 159 (k).toNatClampNeg) &&& ((1 <<< (m &&& 31)) - 1))), (5, .int k), (0, .ref 94), (1, .int done), (2, .int s), (3, .int t), (4, .int b)], [], (sh, I, L, R))) (M := mr_340) rfl (show mcode 340 128 = some (128, .ifCond .eq 6, 3, 134, 0, 0, _) from rfl) (Or.inr (Or.inl ⟨131, [], by simp [brn, k5], rfl⟩)) ?_
          refine XW.fam (S' := (184, [(6, .int ((I 159 (k).toNatClampNeg) &&& ((1 <<< (m &&& 31)) - 1))), (5, .int k), (0, .ref 94), (1, .int done), (2, .int s), (3, .int t), (4, .int b)], [], (sh, I, L, R))) (M := mr_340) rfl (show mcode 340 131 = some (131, .goto 53, 3, 184, 0, 0, _) from rfl) (Or.inr (Or.inl ⟨184, [], rfl, rfl⟩)) ?_
          refine XW.fam (S' := (187, [(5, .int (k + Int32.ofInt 1)), (6, .int ((I 159 (k).toNatClampNeg) &&& ((1 <<< (m &&& 31)) - 1))), (0, .ref 94), (1, .int done), (2, .int s), (3, .int t), (4, .int b)], [], (sh, I, L, R))) (M := mr_340) rfl (show mcode 340 184 = some (184, .iinc 5 1, 3, 0, 0, 0, _) from rfl) (Or.inr (Or.inr (Or.inr (Or.inr (Or.inr (Or.inr (Or.inr (Or.inr (Or.inr ⟨5, 1, k, rfl, rfl, by decide, rfl⟩))))))))) ?_
          refine XW.fam (S' := (85, [(5, .int (k + Int32.ofInt 1)), (6, .int ((I 159 (k).toNatClampNeg) &&& ((1 <<< (m &&& 31)) - 1))), (0, .ref 94), (1, .int done), (2, .int s), (3, .int t), (4, .int b)], [], (sh, I, L, R))) (M := mr_340) rfl (show mcode 340 187 = some (187, .goto (-102), 3, 85, 0, 0, _) from rfl) (Or.inr (Or.inl ⟨85, [], rfl, rfl⟩)) ?_
          have eo := incO (m := k) (by omega) (by omega)
          have en : (k + Int32.ofInt 1).toInt.toNat = k.toInt.toNat + 1 := by omega
          refine XW.sub (ls' := [(5, .int (k + Int32.ofInt 1)), (0, .ref 94), (1, .int done), (2, .int s), (3, .int t), (4, .int b)]) (List.forall_mem_cons.mpr ⟨List.mem_of_getElem? (i := 0) rfl, (List.forall_mem_cons.mpr ⟨List.mem_of_getElem? (i := 2) rfl, (List.forall_mem_cons.mpr ⟨List.mem_of_getElem? (i := 3) rfl, (List.forall_mem_cons.mpr ⟨List.mem_of_getElem? (i := 4) rfl, (List.forall_mem_cons.mpr ⟨List.mem_of_getElem? (i := 5) rfl, (List.forall_mem_cons.mpr ⟨List.mem_of_getElem? (i := 6) rfl, (fun _ h => absurd h List.not_mem_nil)⟩)⟩)⟩)⟩)⟩)⟩) ?_
          have hb := b_shr (s := s) (i := k) (by omega) (by omega)
          have hoA := okA_eq (A := J 159) (n := m) (al := (1 <<< (m &&& 31)) - 1) (s := s) (i := k) (by omega) rfl
          have e159 : J 159 (k).toNatClampNeg = I 159 (k).toNatClampNeg := (hkp 159 _ rfl).symm
          rw [e159] at hoA
          have efn := bFI_no (I := J) (qd := 157) (qb := 158) (qa := 159) (n := m) (s := s.toInt.toNat) (i := k.toInt.toNat) (fun q => by have q1 := q.1; have q2 := hoA.mp q.2; omega)
          refine ih (k + Int32.ofInt 1) (by omega) (by omega) (by omega) hw hf hkp ?_
          rw [en, lmn_no (f := bFI J 157 158 159 m s.toInt.toNat) (n := k.toInt.toNat) efn]
          exact hp
theorem tc_son {d : Nat} {sh : List mE} {J : Nat → Nat → Int32} {R : Nat → Nat → Option Nat} {m : Int32} (hm : 1 ≤ m.toInt ∧ m.toInt ≤ 8) (em : J 94 92 = m) (hJ7 : ∀ k, 0 ≤ (J 157 k).toInt ∧ (J 157 k).toInt ≤ 20) (hJ8 : ∀ k, 0 ≤ (J 158 k).toInt ∧ (J 158 k).toInt ≤ 999) : ∀ (zz : Nat) {I : Nat → Nat → Int32} {L : Nat → Nat → Int64} (done s t b : Int32), wOK (mkT vV []) (wE sh R) (sh, I, L, R) → fresh (sh, I, L, R) → (∀ q k, inm mdSO q k = false → I q k = J q k) → (0 ≤ s.toInt ∧ s.toInt < ((2 ^ m.toInt.toNat : Nat) : Int)) → done.toInt = tmS (fun _ => 1) s.toInt.toNat m.toInt.toNat → t.toInt = tmS (rI J 157) s.toInt.toNat m.toInt.toNat → (0 ≤ b.toInt ∧ b.toInt ≤ 179820 * done.toInt) → m.toInt - done.toInt < zz → Tc 340 (d + zz) 0 0 [.ref 94, .int done, .int s, .int t, .int b] (sh, I, L, R) (fun r w' => r = none ∧ fresh w' ∧ wOK (mkT vV []) (wE sh R) w' ∧ (∀ q k, inm mdSO q k = false → w'.2.1 q k = J q k) ∧ ((w'.2.1 94 101).toInt, (w'.2.1 94 100).toInt) = updS (EEI J 157 158 159 m s.toInt.toNat) b.toInt ((I 94 101).toInt, (I 94 100).toInt)) := by
  have z0 : (0 : Int32).toInt = 0 := rfl
  have z1 : (1 : Int32).toInt = 1 := rfl
  have p8 := pow8 (n := m.toInt.toNat) (by omega)
  intro zz
  induction zz with
  | zero =>
    intro I L done s t b hw hf hkp hs hdn ht hb hz
    exfalso
    have hcr := tm_rng (D := fun _ => 1) (s := s.toInt.toNat) (c := 1) (fun _ => ⟨by decide, by decide⟩) (n := m.toInt.toNat)
    rw [← hdn] at hcr
    omega
  | succ zz ihz =>
    intro I L done s t b hw hf hkp hs hdn ht hb hz
    have hcr := tm_rng (D := fun _ => 1) (s := s.toInt.toNat) (c := 1) (fun _ => ⟨by decide, by decide⟩) (n := m.toInt.toNat)
    rw [← hdn] at hcr
    have vm : I 94 92 = m := (hkp 94 92 rfl).trans em
    have h01 : 0 ≤ (I 94 101).toInt ∧ (I 94 101).toInt ≤ 1 := hw.2.2.1 94 101
    have c94 : sh[94]? = some (.inr 12) := hw.1 94 _ rfl
    refine Tc.of mr_340 rfl (show 5 ≤ mr_340.2.2.2.1 by decide) ?_
    refine XW.fam (S' := (1, [(0, .ref 94), (1, .int done), (2, .int s), (3, .int t), (4, .int b)], [.int done], (sh, I, L, R))) (M := mr_340) rfl (show mcode 340 0 = some (0, .iload_n 1, 1, 0, 0, 0, _) from rfl) (Or.inl ⟨.int done, rfl, rfl⟩) ?_
    refine XW.fam (S' := (2, [(0, .ref 94), (1, .int done), (2, .int s), (3, .int t), (4, .int b)], [.ref 94, .int done], (sh, I, L, R))) (M := mr_340) rfl (show mcode 340 1 = some (1, .aload_n 0, 1, 0, 0, 0, _) from rfl) (Or.inl ⟨.ref 94, rfl, rfl⟩) ?_
    refine XW.fam (S' := (5, [(0, .ref 94), (1, .int done), (2, .int s), (3, .int t), (4, .int b)], [.int (I 94 92), .int done], (sh, I, L, R))) (M := mr_340) rfl (show mcode 340 2 = some (2, .getfield 570, 3, 12, 92, 0, _) from rfl) (Or.inr (Or.inr (Or.inr (Or.inr (Or.inr (Or.inr (Or.inr (Or.inl ⟨_, _, rfl, fl_ldI c94 (by decide) (by decide), rfl⟩)))))))) ?_
    rw [vm]
    cases k1 : bcmp .ne done m with
    | true =>
      have gk1 : ¬ (done).toInt = (m).toInt := icT (c := .ne) (a := (done).toInt) (b := (m).toInt) rfl rfl k1
      refine XW.fam (S' := (82, [(0, .ref 94), (1, .int done), (2, .int s), (3, .int t), (4, .int b)], [], (sh, I, L, R))) (M := mr_340) rfl (show mcode 340 5 = some (5, .if_icmp .ne 77, 3, 82, 0, 0, _) from rfl) (Or.inr (Or.inl ⟨82, [], by simp [brn, k1], rfl⟩)) ?_
      refine XW.fam (S' := (83, [(0, .ref 94), (1, .int done), (2, .int s), (3, .int t), (4, .int b)], [.int 0], (sh, I, L, R))) (M := mr_340) rfl (show mcode 340 82 = some (82, .iconst 0, 1, 0, 0, 0, _) from rfl) (Or.inl ⟨.int 0, rfl, rfl⟩) ?_
      refine XW.fam (S' := (85, [(5, .int 0), (0, .ref 94), (1, .int done), (2, .int s), (3, .int t), (4, .int b)], [], (sh, I, L, R))) (M := mr_340) rfl (show mcode 340 83 = some (83, .istore 5, 2, 0, 0, 0, _) from rfl) (Or.inr (Or.inr (Or.inr (Or.inr (Or.inr (Or.inr (Or.inl ⟨_, [], _, rfl, rfl, rfl⟩))))))) ?_
      refine XW.sub (ls' := [(5, .int 0), (0, .ref 94), (1, .int done), (2, .int s), (3, .int t), (4, .int b)]) (List.forall_mem_cons.mpr ⟨List.mem_of_getElem? (i := 0) rfl, (List.forall_mem_cons.mpr ⟨List.mem_of_getElem? (i := 1) rfl, (List.forall_mem_cons.mpr ⟨List.mem_of_getElem? (i := 2) rfl, (List.forall_mem_cons.mpr ⟨List.mem_of_getElem? (i := 3) rfl, (List.forall_mem_cons.mpr ⟨List.mem_of_getElem? (i := 4) rfl, (List.forall_mem_cons.mpr ⟨List.mem_of_getElem? (i := 5) rfl, (fun _ h => absurd h List.not_mem_nil)⟩)⟩)⟩)⟩)⟩)⟩) ?_
      have hnf : ¬ s.toInt.toNat + 1 = 2 ^ m.toInt.toNat := fun q => by have := (cd_full (n := m.toInt.toNat) (s := s.toInt.toNat) (by omega) (by omega)).mpr q; omega
      refine son_lp (d := d) (zz := zz) (p0 := ((I 94 101).toInt, (I 94 100).toInt)) hm em hJ7 hJ8 ihz (by omega) hdn ht hb (by omega) (by omega) 9 0 (by decide) (by omega) (by omega) hw hf hkp ?_
      show ((I 94 101).toInt, (I 94 100).toInt) = updS (lmn (bFI J 157 158 159 m s.toInt.toNat) 0) b.toInt ((I 94 101).toInt, (I 94 100).toInt)
      exact upd_none.symm
    | false =>
      have gk1 : ¬ (¬ (done).toInt = (m).toInt) := icF (c := .ne) (a := (done).toInt) (b := (m).toInt) rfl rfl k1
      refine XW.fam (S' := (8, [(0, .ref 94), (1, .int done), (2, .int s), (3, .int t), (4, .int b)], [], (sh, I, L, R))) (M := mr_340) rfl (show mcode 340 5 = some (5, .if_icmp .ne 77, 3, 82, 0, 0, _) from rfl) (Or.inr (Or.inl ⟨8, [], by simp [brn, k1], rfl⟩)) ?_
      have hfull := (cd_full (n := m.toInt.toNat) (s := s.toInt.toNat) (by omega) (by omega)).mp (by rw [← hdn]; omega)
      have hE0 : EEI J 157 158 159 m s.toInt.toNat = 0 := EE_full hfull
      refine XW.fam (S' := (9, [(0, .ref 94), (1, .int done), (2, .int s), (3, .int t), (4, .int b)], [.ref 94], (sh, I, L, R))) (M := mr_340) rfl (show mcode 340 8 = some (8, .aload_n 0, 1, 0, 0, 0, _) from rfl) (Or.inl ⟨.ref 94, rfl, rfl⟩) ?_
      refine XW.fam (S' := (12, [(0, .ref 94), (1, .int done), (2, .int s), (3, .int t), (4, .int b)], [.int (I 94 101)], (sh, I, L, R))) (M := mr_340) rfl (show mcode 340 9 = some (9, .getfield 573, 3, 12, 101, 0, _) from rfl) (Or.inr (Or.inr (Or.inr (Or.inr (Or.inr (Or.inr (Or.inr (Or.inl ⟨_, _, rfl, fl_ldI c94 (by decide) (by decide), rfl⟩)))))))) ?_
      cases k2 : bcmp .eq (I 94 101) 0 with
      | true =>
        have gk2 : ((I 94 101)).toInt = 0 := icT (c := .eq) (a := ((I 94 101)).toInt) (b := 0) rfl (by decide) k2
        refine XW.fam (S' := (25, [(0, .ref 94), (1, .int done), (2, .int s), (3, .int t), (4, .int b)], [], (sh, I, L, R))) (M := mr_340) rfl (show mcode 340 12 = some (12, .ifCond .eq 13, 3, 25, 0, 0, _) from rfl) (Or.inr (Or.inl ⟨25, [], by simp [brn, k2], rfl⟩)) ?_
        refine XW.fam (S' := (26, [(0, .ref 94), (1, .int done), (2, .int s), (3, .int t), (4, .int b)], [.ref 94], (sh, I, L, R))) (M := mr_340) rfl (show mcode 340 25 = some (25, .aload_n 0, 1, 0, 0, 0, _) from rfl) (Or.inl ⟨.ref 94, rfl, rfl⟩) ?_
        refine XW.fam (S' := (27, [(0, .ref 94), (1, .int done), (2, .int s), (3, .int t), (4, .int b)], [.int 1, .ref 94], (sh, I, L, R))) (M := mr_340) rfl (show mcode 340 26 = some (26, .iconst 1, 1, 0, 0, 0, _) from rfl) (Or.inl ⟨.int 1, rfl, rfl⟩) ?_
        obtain ⟨I3, eI3⟩ : ∃ X, X = up2 I 94 101 1 := ⟨_, rfl⟩
        refine XW.fam (S' := (30, [(0, .ref 94), (1, .int done), (2, .int s), (3, .int t), (4, .int b)], [], (sh, I3, L, R))) (M := mr_340) rfl (show mcode 340 27 = some (27, .putfield 573, 3, 12, 101, 0, _) from rfl) (Or.inr (Or.inr (Or.inr (Or.inr (Or.inr (Or.inr (Or.inr (Or.inr (Or.inl ⟨_, _, _, rfl, by rw [eI3]; exact stf_Z c94 (by decide) (by decide) (by decide) (by decide), rfl⟩))))))))) ?_
        have hwI3 : wOK (mkT vV []) (wE sh R) (sh, I3, L, R) := by rw [eI3]; exact wOK_u2 (q := 94) (k := 101) (x := 1) wE_put hw rfl (by show (0 : Int) ≤ _; omega) (by show _ ≤ (1 : Int); omega)
        have hfI3 : fresh (sh, I3, L, R) := by rw [eI3]; exact fresh_I hf c94
        have v4 : I3 94 92 = m := by rw [eI3, up2_ne (fun e => by cases e.2)]; exact vm
        have v5 : I3 94 101 = 1 := by rw [eI3]; exact up2_eq
        refine XW.fam (S' := (31, [(0, .ref 94), (1, .int done), (2, .int s), (3, .int t), (4, .int b)], [.ref 94], (sh, I3, L, R))) (M := mr_340) rfl (show mcode 340 30 = some (30, .aload_n 0, 1, 0, 0, 0, _) from rfl) (Or.inl ⟨.ref 94, rfl, rfl⟩) ?_
        refine XW.fam (S' := (33, [(0, .ref 94), (1, .int done), (2, .int s), (3, .int t), (4, .int b)], [.int b, .ref 94], (sh, I3, L, R))) (M := mr_340) rfl (show mcode 340 31 = some (31, .iload 4, 2, 0, 0, 0, _) from rfl) (Or.inl ⟨.int b, rfl, rfl⟩) ?_
        obtain ⟨I6, eI6⟩ : ∃ X, X = up2 I3 94 100 b := ⟨_, rfl⟩
        refine XW.fam (S' := (36, [(0, .ref 94), (1, .int done), (2, .int s), (3, .int t), (4, .int b)], [], (sh, I6, L, R))) (M := mr_340) rfl (show mcode 340 33 = some (33, .putfield 576, 3, 12, 100, 0, _) from rfl) (Or.inr (Or.inr (Or.inr (Or.inr (Or.inr (Or.inr (Or.inr (Or.inr (Or.inl ⟨_, _, _, rfl, by rw [eI6]; exact stf_I c94 (by decide) (by decide) (by decide), rfl⟩))))))))) ?_
        have xb := i32b b
        unfold lo32 hi32 at xb
        have hwI6 : wOK (mkT vV []) (wE sh R) (sh, I6, L, R) := by rw [eI6]; exact wOK_u2 (q := 94) (k := 100) (x := b) wE_put hwI3 rfl (by show ((-2147483648) : Int) ≤ _; omega) (by show _ ≤ (2147483647 : Int); omega)
        have hfI6 : fresh (sh, I6, L, R) := by rw [eI6]; exact fresh_I hfI3 c94
        have v7 : I6 94 92 = m := by rw [eI6, up2_ne (fun e => by cases e.2)]; exact v4
        have v8 : I6 94 101 = 1 := by rw [eI6, up2_ne (fun e => by cases e.2)]; exact v5
        have v9 : I6 94 100 = b := by rw [eI6]; exact up2_eq
        refine XW.fam (S' := (37, [(0, .ref 94), (1, .int done), (2, .int s), (3, .int t), (4, .int b)], [.ref 94], (sh, I6, L, R))) (M := mr_340) rfl (show mcode 340 36 = some (36, .aload_n 0, 1, 0, 0, 0, _) from rfl) (Or.inl ⟨.ref 94, rfl, rfl⟩) ?_
        refine XW.fam (S' := (38, [(0, .ref 94), (1, .int done), (2, .int s), (3, .int t), (4, .int b)], [.ref 94, .ref 94], (sh, I6, L, R))) (M := mr_340) rfl (show mcode 340 37 = some (37, .aload_n 0, 1, 0, 0, 0, _) from rfl) (Or.inl ⟨.ref 94, rfl, rfl⟩) ?_
        refine XW.fam (S' := (41, [(0, .ref 94), (1, .int done), (2, .int s), (3, .int t), (4, .int b)], [.int (I6 94 92), .ref 94], (sh, I6, L, R))) (M := mr_340) rfl (show mcode 340 38 = some (38, .getfield 570, 3, 12, 92, 0, _) from rfl) (Or.inr (Or.inr (Or.inr (Or.inr (Or.inr (Or.inr (Or.inr (Or.inl ⟨_, _, rfl, fl_ldI c94 (by decide) (by decide), rfl⟩)))))))) ?_
        rw [v7]
        obtain ⟨I10, eI10⟩ : ∃ X, X = up2 I6 94 99 m := ⟨_, rfl⟩
        refine XW.fam (S' := (44, [(0, .ref 94), (1, .int done), (2, .int s), (3, .int t), (4, .int b)], [], (sh, I10, L, R))) (M := mr_340) rfl (show mcode 340 41 = some (41, .putfield 223, 3, 12, 99, 0, _) from rfl) (Or.inr (Or.inr (Or.inr (Or.inr (Or.inr (Or.inr (Or.inr (Or.inr (Or.inl ⟨_, _, _, rfl, by rw [eI10]; exact stf_I c94 (by decide) (by decide) (by decide), rfl⟩))))))))) ?_
        have hwI10 : wOK (mkT vV []) (wE sh R) (sh, I10, L, R) := by rw [eI10]; exact wOK_u2 (q := 94) (k := 99) (x := m) wE_put hwI6 rfl (by show ((-1) : Int) ≤ _; omega) (by show _ ≤ (8 : Int); omega)
        have hfI10 : fresh (sh, I10, L, R) := by rw [eI10]; exact fresh_I hfI6 c94
        have v11 : I10 94 92 = m := by rw [eI10, up2_ne (fun e => by cases e.2)]; exact v7
        have v12 : I10 94 101 = 1 := by rw [eI10, up2_ne (fun e => by cases e.2)]; exact v8
        have v13 : I10 94 100 = b := by rw [eI10, up2_ne (fun e => by cases e.2)]; exact v9
        have v14 : I10 94 99 = m := by rw [eI10]; exact up2_eq
        refine XW.fam (S' := (45, [(0, .ref 94), (1, .int done), (2, .int s), (3, .int t), (4, .int b)], [.int 0], (sh, I10, L, R))) (M := mr_340) rfl (show mcode 340 44 = some (44, .iconst 0, 1, 0, 0, 0, _) from rfl) (Or.inl ⟨.int 0, rfl, rfl⟩) ?_
        refine XW.fam (S' := (47, [(5, .int 0), (0, .ref 94), (1, .int done), (2, .int s), (3, .int t), (4, .int b)], [], (sh, I10, L, R))) (M := mr_340) rfl (show mcode 340 45 = some (45, .istore 5, 2, 0, 0, 0, _) from rfl) (Or.inr (Or.inr (Or.inr (Or.inr (Or.inr (Or.inr (Or.inl ⟨_, [], _, rfl, rfl, rfl⟩))))))) ?_
        refine XW.sub (ls' := [(5, .int 0), (0, .ref 94), (1, .int done), (2, .int s), (3, .int t), (4, .int b)]) (List.forall_mem_cons.mpr ⟨List.mem_of_getElem? (i := 0) rfl, (List.forall_mem_cons.mpr ⟨List.mem_of_getElem? (i := 1) rfl, (List.forall_mem_cons.mpr ⟨List.mem_of_getElem? (i := 2) rfl, (List.forall_mem_cons.mpr ⟨List.mem_of_getElem? (i := 3) rfl, (List.forall_mem_cons.mpr ⟨List.mem_of_getElem? (i := 4) rfl, (List.forall_mem_cons.mpr ⟨List.mem_of_getElem? (i := 5) rfl, (fun _ h => absurd h List.not_mem_nil)⟩)⟩)⟩)⟩)⟩)⟩) ?_
        refine cp_lp (J := I10) (by omega) v11 9 0 (by decide) (by omega) (by omega) hwI10 hfI10 (fun _ _ _ => rfl) (fun {I2} hw2 hf2 hkp2 k => ?_)
        refine XW.ret (r := none) ⟨rfl, by decide +kernel⟩ ?_
        have hkq : ∀ q k, inm mdSO q k = false → I2 q k = J q k := by
          intro q k h
          rw [hkp2 q k (fun e => by rw [e] at h; cases h), eI10, up2_ne (fun e => by rw [e.1, e.2] at h; cases h), eI6, up2_ne (fun e => by rw [e.1, e.2] at h; cases h), eI3, up2_ne (fun e => by rw [e.1, e.2] at h; cases h)]
          exact hkp q k h
        have q1 : I2 94 101 = 1 := by rw [hkp2 94 101 (by decide), eI10, up2_ne (fun e => by cases e.2), eI6, up2_ne (fun e => by cases e.2), eI3, up2_eq]
        have q2 : I2 94 100 = b := by rw [hkp2 94 100 (by decide), eI10, up2_ne (fun e => by cases e.2), eI6, up2_eq]
        refine ⟨rfl, hf2, hw2, hkq, ?_⟩
        show ((I2 94 101).toInt, (I2 94 100).toInt) = updS _ b.toInt ((I 94 101).toInt, (I 94 100).toInt)
        rw [hE0, q1, q2]
        refine Eq.trans ?_ (if_pos (by dsimp only; omega)).symm
        show ((1 : Int32).toInt, b.toInt) = (1, b.toInt + 0)
        rw [Int.add_zero]
        rfl
      | false =>
        have gk2 : ¬ (((I 94 101)).toInt = 0) := icF (c := .eq) (a := ((I 94 101)).toInt) (b := 0) rfl (by decide) k2
        refine XW.fam (S' := (15, [(0, .ref 94), (1, .int done), (2, .int s), (3, .int t), (4, .int b)], [], (sh, I, L, R))) (M := mr_340) rfl (show mcode 340 12 = some (12, .ifCond .eq 13, 3, 25, 0, 0, _) from rfl) (Or.inr (Or.inl ⟨15, [], by simp [brn, k2], rfl⟩)) ?_
        refine XW.fam (S' := (17, [(0, .ref 94), (1, .int done), (2, .int s), (3, .int t), (4, .int b)], [.int b], (sh, I, L, R))) (M := mr_340) rfl (show mcode 340 15 = some (15, .iload 4, 2, 0, 0, 0, _) from rfl) (Or.inl ⟨.int b, rfl, rfl⟩) ?_
        refine XW.fam (S' := (18, [(0, .ref 94), (1, .int done), (2, .int s), (3, .int t), (4, .int b)], [.ref 94, .int b], (sh, I, L, R))) (M := mr_340) rfl (show mcode 340 17 = some (17, .aload_n 0, 1, 0, 0, 0, _) from rfl) (Or.inl ⟨.ref 94, rfl, rfl⟩) ?_
        refine XW.fam (S' := (21, [(0, .ref 94), (1, .int done), (2, .int s), (3, .int t), (4, .int b)], [.int (I 94 100), .int b], (sh, I, L, R))) (M := mr_340) rfl (show mcode 340 18 = some (18, .getfield 576, 3, 12, 100, 0, _) from rfl) (Or.inr (Or.inr (Or.inr (Or.inr (Or.inr (Or.inr (Or.inr (Or.inl ⟨_, _, rfl, fl_ldI c94 (by decide) (by decide), rfl⟩)))))))) ?_
        cases k15 : bcmp .lt b (I 94 100) with
        | true =>
          have gk15 : (b).toInt < ((I 94 100)).toInt := icT (c := .lt) (a := (b).toInt) (b := ((I 94 100)).toInt) rfl rfl k15
          refine XW.fam (S' := (25, [(0, .ref 94), (1, .int done), (2, .int s), (3, .int t), (4, .int b)], [], (sh, I, L, R))) (M := mr_340) rfl (show mcode 340 21 = some (21, .if_icmp .lt 4, 3, 25, 0, 0, _) from rfl) (Or.inr (Or.inl ⟨25, [], by simp [brn, k15], rfl⟩)) ?_
          refine XW.fam (S' := (26, [(0, .ref 94), (1, .int done), (2, .int s), (3, .int t), (4, .int b)], [.ref 94], (sh, I, L, R))) (M := mr_340) rfl (show mcode 340 25 = some (25, .aload_n 0, 1, 0, 0, 0, _) from rfl) (Or.inl ⟨.ref 94, rfl, rfl⟩) ?_
          refine XW.fam (S' := (27, [(0, .ref 94), (1, .int done), (2, .int s), (3, .int t), (4, .int b)], [.int 1, .ref 94], (sh, I, L, R))) (M := mr_340) rfl (show mcode 340 26 = some (26, .iconst 1, 1, 0, 0, 0, _) from rfl) (Or.inl ⟨.int 1, rfl, rfl⟩) ?_
          obtain ⟨I16, eI16⟩ : ∃ X, X = up2 I 94 101 1 := ⟨_, rfl⟩
          refine XW.fam (S' := (30, [(0, .ref 94), (1, .int done), (2, .int s), (3, .int t), (4, .int b)], [], (sh, I16, L, R))) (M := mr_340) rfl (show mcode 340 27 = some (27, .putfield 573, 3, 12, 101, 0, _) from rfl) (Or.inr (Or.inr (Or.inr (Or.inr (Or.inr (Or.inr (Or.inr (Or.inr (Or.inl ⟨_, _, _, rfl, by rw [eI16]; exact stf_Z c94 (by decide) (by decide) (by decide) (by decide), rfl⟩))))))))) ?_
          have hwI16 : wOK (mkT vV []) (wE sh R) (sh, I16, L, R) := by rw [eI16]; exact wOK_u2 (q := 94) (k := 101) (x := 1) wE_put hw rfl (by show (0 : Int) ≤ _; omega) (by show _ ≤ (1 : Int); omega)
          have hfI16 : fresh (sh, I16, L, R) := by rw [eI16]; exact fresh_I hf c94
          have v17 : I16 94 92 = m := by rw [eI16, up2_ne (fun e => by cases e.2)]; exact vm
          have v18 : I16 94 101 = 1 := by rw [eI16]; exact up2_eq
          refine XW.fam (S' := (31, [(0, .ref 94), (1, .int done), (2, .int s), (3, .int t), (4, .int b)], [.ref 94], (sh, I16, L, R))) (M := mr_340) rfl (show mcode 340 30 = some (30, .aload_n 0, 1, 0, 0, 0, _) from rfl) (Or.inl ⟨.ref 94, rfl, rfl⟩) ?_
          refine XW.fam (S' := (33, [(0, .ref 94), (1, .int done), (2, .int s), (3, .int t), (4, .int b)], [.int b, .ref 94], (sh, I16, L, R))) (M := mr_340) rfl (show mcode 340 31 = some (31, .iload 4, 2, 0, 0, 0, _) from rfl) (Or.inl ⟨.int b, rfl, rfl⟩) ?_
          obtain ⟨I19, eI19⟩ : ∃ X, X = up2 I16 94 100 b := ⟨_, rfl⟩
          refine XW.fam (S' := (36, [(0, .ref 94), (1, .int done), (2, .int s), (3, .int t), (4, .int b)], [], (sh, I19, L, R))) (M := mr_340) rfl (show mcode 340 33 = some (33, .putfield 576, 3, 12, 100, 0, _) from rfl) (Or.inr (Or.inr (Or.inr (Or.inr (Or.inr (Or.inr (Or.inr (Or.inr (Or.inl ⟨_, _, _, rfl, by rw [eI19]; exact stf_I c94 (by decide) (by decide) (by decide), rfl⟩))))))))) ?_
          have xb := i32b b
          unfold lo32 hi32 at xb
          have hwI19 : wOK (mkT vV []) (wE sh R) (sh, I19, L, R) := by rw [eI19]; exact wOK_u2 (q := 94) (k := 100) (x := b) wE_put hwI16 rfl (by show ((-2147483648) : Int) ≤ _; omega) (by show _ ≤ (2147483647 : Int); omega)
          have hfI19 : fresh (sh, I19, L, R) := by rw [eI19]; exact fresh_I hfI16 c94
          have v20 : I19 94 92 = m := by rw [eI19, up2_ne (fun e => by cases e.2)]; exact v17
          have v21 : I19 94 101 = 1 := by rw [eI19, up2_ne (fun e => by cases e.2)]; exact v18
          have v22 : I19 94 100 = b := by rw [eI19]; exact up2_eq
          refine XW.fam (S' := (37, [(0, .ref 94), (1, .int done), (2, .int s), (3, .int t), (4, .int b)], [.ref 94], (sh, I19, L, R))) (M := mr_340) rfl (show mcode 340 36 = some (36, .aload_n 0, 1, 0, 0, 0, _) from rfl) (Or.inl ⟨.ref 94, rfl, rfl⟩) ?_
          refine XW.fam (S' := (38, [(0, .ref 94), (1, .int done), (2, .int s), (3, .int t), (4, .int b)], [.ref 94, .ref 94], (sh, I19, L, R))) (M := mr_340) rfl (show mcode 340 37 = some (37, .aload_n 0, 1, 0, 0, 0, _) from rfl) (Or.inl ⟨.ref 94, rfl, rfl⟩) ?_
          refine XW.fam (S' := (41, [(0, .ref 94), (1, .int done), (2, .int s), (3, .int t), (4, .int b)], [.int (I19 94 92), .ref 94], (sh, I19, L, R))) (M := mr_340) rfl (show mcode 340 38 = some (38, .getfield 570, 3, 12, 92, 0, _) from rfl) (Or.inr (Or.inr (Or.inr (Or.inr (Or.inr (Or.inr (Or.inr (Or.inl ⟨_, _, rfl, fl_ldI c94 (by decide) (by decide), rfl⟩)))))))) ?_
          rw [v20]
          obtain ⟨I23, eI23⟩ : ∃ X, X = up2 I19 94 99 m := ⟨_, rfl⟩
          refine XW.fam (S' := (44, [(0, .ref 94), (1, .int done), (2, .int s), (3, .int t), (4, .int b)], [], (sh, I23, L, R))) (M := mr_340) rfl (show mcode 340 41 = some (41, .putfield 223, 3, 12, 99, 0, _) from rfl) (Or.inr (Or.inr (Or.inr (Or.inr (Or.inr (Or.inr (Or.inr (Or.inr (Or.inl ⟨_, _, _, rfl, by rw [eI23]; exact stf_I c94 (by decide) (by decide) (by decide), rfl⟩))))))))) ?_
          have hwI23 : wOK (mkT vV []) (wE sh R) (sh, I23, L, R) := by rw [eI23]; exact wOK_u2 (q := 94) (k := 99) (x := m) wE_put hwI19 rfl (by show ((-1) : Int) ≤ _; omega) (by show _ ≤ (8 : Int); omega)
          have hfI23 : fresh (sh, I23, L, R) := by rw [eI23]; exact fresh_I hfI19 c94
          have v24 : I23 94 92 = m := by rw [eI23, up2_ne (fun e => by cases e.2)]; exact v20
          have v25 : I23 94 101 = 1 := by rw [eI23, up2_ne (fun e => by cases e.2)]; exact v21
          have v26 : I23 94 100 = b := by rw [eI23, up2_ne (fun e => by cases e.2)]; exact v22
          have v27 : I23 94 99 = m := by rw [eI23]; exact up2_eq
          refine XW.fam (S' := (45, [(0, .ref 94), (1, .int done), (2, .int s), (3, .int t), (4, .int b)], [.int 0], (sh, I23, L, R))) (M := mr_340) rfl (show mcode 340 44 = some (44, .iconst 0, 1, 0, 0, 0, _) from rfl) (Or.inl ⟨.int 0, rfl, rfl⟩) ?_
          refine XW.fam (S' := (47, [(5, .int 0), (0, .ref 94), (1, .int done), (2, .int s), (3, .int t), (4, .int b)], [], (sh, I23, L, R))) (M := mr_340) rfl (show mcode 340 45 = some (45, .istore 5, 2, 0, 0, 0, _) from rfl) (Or.inr (Or.inr (Or.inr (Or.inr (Or.inr (Or.inr (Or.inl ⟨_, [], _, rfl, rfl, rfl⟩))))))) ?_
          refine XW.sub (ls' := [(5, .int 0), (0, .ref 94), (1, .int done), (2, .int s), (3, .int t), (4, .int b)]) (List.forall_mem_cons.mpr ⟨List.mem_of_getElem? (i := 0) rfl, (List.forall_mem_cons.mpr ⟨List.mem_of_getElem? (i := 1) rfl, (List.forall_mem_cons.mpr ⟨List.mem_of_getElem? (i := 2) rfl, (List.forall_mem_cons.mpr ⟨List.mem_of_getElem? (i := 3) rfl, (List.forall_mem_cons.mpr ⟨List.mem_of_getElem? (i := 4) rfl, (List.forall_mem_cons.mpr ⟨List.mem_of_getElem? (i := 5) rfl, (fun _ h => absurd h List.not_mem_nil)⟩)⟩)⟩)⟩)⟩)⟩) ?_
          refine cp_lp (J := I23) (by omega) v24 9 0 (by decide) (by omega) (by omega) hwI23 hfI23 (fun _ _ _ => rfl) (fun {I2} hw2 hf2 hkp2 k => ?_)
          refine XW.ret (r := none) ⟨rfl, by decide +kernel⟩ ?_
          have hkq : ∀ q k, inm mdSO q k = false → I2 q k = J q k := by
            intro q k h
            rw [hkp2 q k (fun e => by rw [e] at h; cases h), eI23, up2_ne (fun e => by rw [e.1, e.2] at h; cases h), eI19, up2_ne (fun e => by rw [e.1, e.2] at h; cases h), eI16, up2_ne (fun e => by rw [e.1, e.2] at h; cases h)]
            exact hkp q k h
          have q1 : I2 94 101 = 1 := by rw [hkp2 94 101 (by decide), eI23, up2_ne (fun e => by cases e.2), eI19, up2_ne (fun e => by cases e.2), eI16, up2_eq]
          have q2 : I2 94 100 = b := by rw [hkp2 94 100 (by decide), eI23, up2_ne (fun e => by cases e.2), eI19, up2_eq]
          refine ⟨rfl, hf2, hw2, hkq, ?_⟩
          show ((I2 94 101).toInt, (I2 94 100).toInt) = updS _ b.toInt ((I 94 101).toInt, (I 94 100).toInt)
          rw [hE0, q1, q2]
          refine Eq.trans ?_ (if_pos (by dsimp only; omega)).symm
          show ((1 : Int32).toInt, b.toInt) = (1, b.toInt + 0)
          rw [Int.add_zero]
          rfl
        | false =>
          have gk15 : ¬ ((b).toInt < ((I 94 100)).toInt) := icF (c := .lt) (a := (b).toInt) (b := ((I 94 100)).toInt) rfl rfl k15
          refine XW.fam (S' := (24, [(0, .ref 94), (1, .int done), (2, .int s), (3, .int t), (4, .int b)], [], (sh, I, L, R))) (M := mr_340) rfl (show mcode 340 21 = some (21, .if_icmp .lt 4, 3, 25, 0, 0, _) from rfl) (Or.inr (Or.inl ⟨24, [], by simp [brn, k15], rfl⟩)) ?_
          refine XW.ret (r := none) ⟨rfl, by decide +kernel⟩ ?_
          refine ⟨rfl, hf, hw, hkp, ?_⟩
          show ((I 94 101).toInt, (I 94 100).toInt) = updS _ b.toInt ((I 94 101).toInt, (I 94 100).toInt)
          rw [hE0]
          exact (if_neg (by dsimp only; omega)).symm
theorem inm_so {q k : Nat} (h : inm mdBM q k = false) : inm mdSO q k = false := by
  unfold inm at h ⊢
  rw [List.any_eq_false] at h ⊢
  intro e he
  exact h e (List.mem_cons_of_mem _ he)
theorem tc_breadM {d : Nat} {sh : List mE} {R : Nat → Nat → Option Nat} {w : mW} (hw : wOK (mkT vV []) (wE sh R) w) (hf : fresh w) (hD : ∀ k, 0 ≤ (w.2.1 157 k).toInt ∧ (w.2.1 157 k).toInt ≤ 20) : Tc 339 (d + 10) 0 0 [.ref 94] w (Qbr 94 92 157 158 159 mdBM w) := by
  obtain ⟨sh0, I, L, R0⟩ := w
  obtain rfl : sh = sh0 := hw.2.2.2.1.symm
  obtain rfl : R = R0 := hw.2.2.2.2.1.symm
  have c94 : sh[94]? = some (.inr 12) := hw.1 94 _ rfl
  have zm2 : ((-2) : Int32).toInt = (-2) := rfl
  have zm1 : ((-1) : Int32).toInt = (-1) := rfl
  have z0 : (0 : Int32).toInt = 0 := rfl
  have hm : 0 ≤ (I 94 92).toInt ∧ (I 94 92).toInt ≤ 8 := hw.2.2.1 94 92
  obtain ⟨m, em⟩ : ∃ m, I 94 92 = m := ⟨_, rfl⟩
  rw [em] at hm
  have p8 := pow8 (n := m.toInt.toNat) (by omega)
  refine Tc.of mr_339 rfl (show 1 ≤ mr_339.2.2.2.1 by decide) ?_
  refine XW.fam (S' := (1, [(0, .ref 94)], [.ref 94], (sh, I, L, R))) (M := mr_339) rfl (show mcode 339 0 = some (0, .aload_n 0, 1, 0, 0, 0, _) from rfl) (Or.inl ⟨.ref 94, rfl, rfl⟩) ?_
  refine XW.fam (S' := (4, [(0, .ref 94)], [.int (I 94 92)], (sh, I, L, R))) (M := mr_339) rfl (show mcode 339 1 = some (1, .getfield 570, 3, 12, 92, 0, _) from rfl) (Or.inr (Or.inr (Or.inr (Or.inr (Or.inr (Or.inr (Or.inr (Or.inl ⟨_, _, rfl, fl_ldI c94 (by decide) (by decide), rfl⟩)))))))) ?_
  rw [em]
  cases k1 : bcmp .ne m 0 with
  | true =>
    have gk1 : ¬ (m).toInt = 0 := icT (c := .ne) (a := (m).toInt) (b := 0) rfl (by decide) k1
    refine XW.fam (S' := (9, [(0, .ref 94)], [], (sh, I, L, R))) (M := mr_339) rfl (show mcode 339 4 = some (4, .ifCond .ne 5, 3, 9, 0, 0, _) from rfl) (Or.inr (Or.inl ⟨9, [], by simp [brn, k1], rfl⟩)) ?_
    refine XW.fam (S' := (10, [(0, .ref 94)], [.ref 94], (sh, I, L, R))) (M := mr_339) rfl (show mcode 339 9 = some (9, .aload_n 0, 1, 0, 0, 0, _) from rfl) (Or.inl ⟨.ref 94, rfl, rfl⟩) ?_
    refine XW.fam (S' := (11, [(0, .ref 94)], [.int 0, .ref 94], (sh, I, L, R))) (M := mr_339) rfl (show mcode 339 10 = some (10, .iconst 0, 1, 0, 0, 0, _) from rfl) (Or.inl ⟨.int 0, rfl, rfl⟩) ?_
    obtain ⟨I2, eI2⟩ : ∃ X, X = up2 I 94 101 0 := ⟨_, rfl⟩
    refine XW.fam (S' := (14, [(0, .ref 94)], [], (sh, I2, L, R))) (M := mr_339) rfl (show mcode 339 11 = some (11, .putfield 573, 3, 12, 101, 0, _) from rfl) (Or.inr (Or.inr (Or.inr (Or.inr (Or.inr (Or.inr (Or.inr (Or.inr (Or.inl ⟨_, _, _, rfl, by rw [eI2]; exact stf_Z c94 (by decide) (by decide) (by decide) (by decide), rfl⟩))))))))) ?_
    have hwI2 : wOK (mkT vV []) (wE sh R) (sh, I2, L, R) := by rw [eI2]; exact wOK_u2 (q := 94) (k := 101) (x := 0) wE_put hw rfl (by show (0 : Int) ≤ _; omega) (by show _ ≤ (1 : Int); omega)
    have hfI2 : fresh (sh, I2, L, R) := by rw [eI2]; exact fresh_I hf c94
    have v3 : I2 94 92 = m := by rw [eI2, up2_ne (fun e => by cases e.2)]; exact em
    have v4 : I2 94 101 = 0 := by rw [eI2]; exact up2_eq
    refine XW.fam (S' := (15, [(0, .ref 94)], [.ref 94], (sh, I2, L, R))) (M := mr_339) rfl (show mcode 339 14 = some (14, .aload_n 0, 1, 0, 0, 0, _) from rfl) (Or.inl ⟨.ref 94, rfl, rfl⟩) ?_
    refine XW.fam (S' := (16, [(0, .ref 94)], [.int 0, .ref 94], (sh, I2, L, R))) (M := mr_339) rfl (show mcode 339 15 = some (15, .iconst 0, 1, 0, 0, 0, _) from rfl) (Or.inl ⟨.int 0, rfl, rfl⟩) ?_
    refine XW.fam (S' := (17, [(0, .ref 94)], [.int 0, .int 0, .ref 94], (sh, I2, L, R))) (M := mr_339) rfl (show mcode 339 16 = some (16, .iconst 0, 1, 0, 0, 0, _) from rfl) (Or.inl ⟨.int 0, rfl, rfl⟩) ?_
    refine XW.fam (S' := (18, [(0, .ref 94)], [.int 0, .int 0, .int 0, .ref 94], (sh, I2, L, R))) (M := mr_339) rfl (show mcode 339 17 = some (17, .iconst 0, 1, 0, 0, 0, _) from rfl) (Or.inl ⟨.int 0, rfl, rfl⟩) ?_
    refine XW.fam (S' := (19, [(0, .ref 94)], [.int 0, .int 0, .int 0, .int 0, .ref 94], (sh, I2, L, R))) (M := mr_339) rfl (show mcode 339 18 = some (18, .iconst 0, 1, 0, 0, 0, _) from rfl) (Or.inl ⟨.int 0, rfl, rfl⟩) ?_
    have a1 : EEI I2 157 158 159 m = EEI I 157 158 159 m := by
      unfold EEI
      have a1 : rI I2 157 = rI I 157 := by funext k; unfold rI; rw [eI2, up2_ne (fun e => by cases e.1)]
      have a2 : rI I2 158 = rI I 158 := by funext k; unfold rI; rw [eI2, up2_ne (fun e => by cases e.1)]
      have a3 : I2 159 = I 159 := by funext k; rw [eI2, up2_ne (fun e => by cases e.1)]
      funext u
      rw [a1, a2, a3]
    have z0n : (0 : Int32).toInt.toNat = 0 := rfl
    refine XW.call (d' := d + 9) (mc' := 0) (ms' := 0) (av := [.ref 94, .int 0, .int 0, .int 0, .int 0]) (rest := []) (M := mr_339) (Ma := mr_340) rfl (show mcode 339 19 = some (19, .invokevirtual 579, 3, 340, 0, 0, _) from rfl) rfl (by decide) (by decide) ⟨rfl, 94, _, rfl, c94⟩ rfl rfl (show 0 ≤ 8 by decide) (tc_son (d := d) (J := I2) (m := m) (by omega) v3 (fun k => by rw [eI2, up2_ne (fun e => by cases e.1)]; exact hD k) (fun k => hwI2.2.2.1 158 k) 9 (I := I2) (L := L) 0 0 0 0 hwI2 hfI2 (fun _ _ _ => rfl) ⟨by decide, by omega⟩ (by rw [z0n, tm_zero]; rfl) (by rw [z0n, tm_zero]; rfl) ⟨by decide, by decide⟩ (by omega)) (by omega) (Nat.zero_le _) (Nat.zero_le _) (fun rQ5 wQ5 Q5 => ?_)
    obtain ⟨hrQ5, hfQ5, hwQ5, hIQ5, hPQ5⟩ := Q5
    subst hrQ5
    obtain ⟨shQ5, IQ5, LQ5, RQ5⟩ := wQ5
    obtain rfl : sh = shQ5 := hwQ5.2.2.2.1.symm
    obtain rfl : R = RQ5 := hwQ5.2.2.2.2.1.symm
    have hP : ((IQ5 94 101).toInt, (IQ5 94 100).toInt) = updS (EEI I2 157 158 159 m 0) 0 ((I2 94 101).toInt, (I2 94 100).toInt) := hPQ5
    rw [a1] at hP
    have h101 : I2 94 101 = 0 := by rw [eI2, up2_eq]
    have hP1 := congrArg Prod.fst hP
    have hP2 := congrArg Prod.snd hP
    unfold updS at hP1 hP2
    dsimp only at hP1 hP2
    rw [h101] at hP1 hP2
    refine XW.fam (S' := (23, [(0, .ref 94)], [.ref 94], (sh, IQ5, LQ5, R))) (M := mr_339) rfl (show mcode 339 22 = some (22, .aload_n 0, 1, 0, 0, 0, _) from rfl) (Or.inl ⟨.ref 94, rfl, rfl⟩) ?_
    refine XW.fam (S' := (24, [(0, .ref 94)], [.int 0, .ref 94], (sh, IQ5, LQ5, R))) (M := mr_339) rfl (show mcode 339 23 = some (23, .iconst 0, 1, 0, 0, 0, _) from rfl) (Or.inl ⟨.int 0, rfl, rfl⟩) ?_
    obtain ⟨I6, eI6⟩ : ∃ X, X = up2 IQ5 94 92 0 := ⟨_, rfl⟩
    refine XW.fam (S' := (27, [(0, .ref 94)], [], (sh, I6, LQ5, R))) (M := mr_339) rfl (show mcode 339 24 = some (24, .putfield 570, 3, 12, 92, 0, _) from rfl) (Or.inr (Or.inr (Or.inr (Or.inr (Or.inr (Or.inr (Or.inr (Or.inr (Or.inl ⟨_, _, _, rfl, by rw [eI6]; exact stf_I c94 (by decide) (by decide) (by decide), rfl⟩))))))))) ?_
    have hwI6 : wOK (mkT vV []) (wE sh R) (sh, I6, LQ5, R) := by rw [eI6]; exact wOK_u2 (q := 94) (k := 92) (x := 0) wE_put hwQ5 rfl (by show (0 : Int) ≤ _; omega) (by show _ ≤ (8 : Int); omega)
    have hfI6 : fresh (sh, I6, LQ5, R) := by rw [eI6]; exact fresh_I hfQ5 c94
    have v7 : I6 94 92 = 0 := by rw [eI6]; exact up2_eq
    refine XW.fam (S' := (28, [(0, .ref 94)], [.ref 94], (sh, I6, LQ5, R))) (M := mr_339) rfl (show mcode 339 27 = some (27, .aload_n 0, 1, 0, 0, 0, _) from rfl) (Or.inl ⟨.ref 94, rfl, rfl⟩) ?_
    refine XW.fam (S' := (31, [(0, .ref 94)], [.int (I6 94 101)], (sh, I6, LQ5, R))) (M := mr_339) rfl (show mcode 339 28 = some (28, .getfield 573, 3, 12, 101, 0, _) from rfl) (Or.inr (Or.inr (Or.inr (Or.inr (Or.inr (Or.inr (Or.inr (Or.inl ⟨_, _, rfl, fl_ldI c94 (by decide) (by decide), rfl⟩)))))))) ?_
    have rd101 : (I6 94 101) = IQ5 94 101 := by rw [eI6, up2_ne (fun e => by cases e.2)]
    rw [rd101]
    cases k8 : bcmp .eq (IQ5 94 101) 0 with
    | true =>
      have gk8 : ((IQ5 94 101)).toInt = 0 := icT (c := .eq) (a := ((IQ5 94 101)).toInt) (b := 0) rfl (by decide) k8
      refine XW.fam (S' := (41, [(0, .ref 94)], [], (sh, I6, LQ5, R))) (M := mr_339) rfl (show mcode 339 31 = some (31, .ifCond .eq 10, 3, 41, 0, 0, _) from rfl) (Or.inr (Or.inl ⟨41, [], by simp [brn, k8], rfl⟩)) ?_
      refine XW.fam (S' := (43, [(0, .ref 94)], [.int (-2)], (sh, I6, LQ5, R))) (M := mr_339) rfl (show mcode 339 41 = some (41, .bipush (-2), 2, 0, 0, 0, _) from rfl) (Or.inl ⟨.int (-2), rfl, rfl⟩) ?_
      refine XW.ret (r := some (.int (-2))) ⟨⟨.int, rfl, rfl⟩, by decide +kernel⟩ ?_
      have hkq : ∀ q k, inm mdBM q k = false → I6 q k = I q k := by
        intro q k h
        rw [eI6, up2_ne (fun e => by rw [e.1, e.2] at h; cases h), (show IQ5 q k = I2 q k from hIQ5 q k (inm_so h)), eI2, up2_ne (fun e => by rw [e.1, e.2] at h; cases h)]
      refine ⟨hfI6, ⟨sh, R, hwI6⟩, ⟨_, rfl, ?_⟩, ?_, hkq⟩
      · show _ = (if (I 94 92).toInt = 0 then _ else if EEI I 157 158 159 (I 94 92) 0 < 100000000 then EEI I 157 158 159 (I 94 92) 0 else _)
        rw [em, if_neg (by omega)]
        by_cases ce : EEI I 157 158 159 m 0 < 100000000
        · rw [if_pos ⟨ce, Or.inl rfl⟩] at hP1 hP2
          rw [if_pos ce]
          exfalso
          dsimp only at hP1
          omega
        · rw [if_neg (fun q => ce q.1)] at hP1 hP2
          rw [if_neg ce]
          rfl
      · show I6 94 92 = 0
        rw [eI6, up2_eq]
    | false =>
      have gk8 : ¬ (((IQ5 94 101)).toInt = 0) := icF (c := .eq) (a := ((IQ5 94 101)).toInt) (b := 0) rfl (by decide) k8
      refine XW.fam (S' := (34, [(0, .ref 94)], [], (sh, I6, LQ5, R))) (M := mr_339) rfl (show mcode 339 31 = some (31, .ifCond .eq 10, 3, 41, 0, 0, _) from rfl) (Or.inr (Or.inl ⟨34, [], by simp [brn, k8], rfl⟩)) ?_
      refine XW.fam (S' := (35, [(0, .ref 94)], [.ref 94], (sh, I6, LQ5, R))) (M := mr_339) rfl (show mcode 339 34 = some (34, .aload_n 0, 1, 0, 0, 0, _) from rfl) (Or.inl ⟨.ref 94, rfl, rfl⟩) ?_
      refine XW.fam (S' := (38, [(0, .ref 94)], [.int (I6 94 100)], (sh, I6, LQ5, R))) (M := mr_339) rfl (show mcode 339 35 = some (35, .getfield 576, 3, 12, 100, 0, _) from rfl) (Or.inr (Or.inr (Or.inr (Or.inr (Or.inr (Or.inr (Or.inr (Or.inl ⟨_, _, rfl, fl_ldI c94 (by decide) (by decide), rfl⟩)))))))) ?_
      have rd100 : (I6 94 100) = IQ5 94 100 := by rw [eI6, up2_ne (fun e => by cases e.2)]
      rw [rd100]
      refine XW.fam (S' := (43, [(0, .ref 94)], [.int (IQ5 94 100)], (sh, I6, LQ5, R))) (M := mr_339) rfl (show mcode 339 38 = some (38, .goto 5, 3, 43, 0, 0, _) from rfl) (Or.inr (Or.inl ⟨43, [.int (IQ5 94 100)], rfl, rfl⟩)) ?_
      refine XW.ret (r := some (.int (IQ5 94 100))) ⟨⟨.int, rfl, rfl⟩, by decide +kernel⟩ ?_
      have hkq : ∀ q k, inm mdBM q k = false → I6 q k = I q k := by
        intro q k h
        rw [eI6, up2_ne (fun e => by rw [e.1, e.2] at h; cases h), (show IQ5 q k = I2 q k from hIQ5 q k (inm_so h)), eI2, up2_ne (fun e => by rw [e.1, e.2] at h; cases h)]
      refine ⟨hfI6, ⟨sh, R, hwI6⟩, ⟨_, rfl, ?_⟩, ?_, hkq⟩
      · show _ = (if (I 94 92).toInt = 0 then _ else if EEI I 157 158 159 (I 94 92) 0 < 100000000 then EEI I 157 158 159 (I 94 92) 0 else _)
        rw [em, if_neg (by omega)]
        by_cases ce : EEI I 157 158 159 m 0 < 100000000
        · rw [if_pos ⟨ce, Or.inl rfl⟩] at hP1 hP2
          rw [if_pos ce]
          dsimp only at hP2
          omega
        · rw [if_neg (fun q => ce q.1)] at hP1 hP2
          rw [if_neg ce]
          exfalso
          dsimp only at hP1
          omega
      · show I6 94 92 = 0
        rw [eI6, up2_eq]
  | false =>
    have gk1 : ¬ (¬ (m).toInt = 0) := icF (c := .ne) (a := (m).toInt) (b := 0) rfl (by decide) k1
    refine XW.fam (S' := (7, [(0, .ref 94)], [], (sh, I, L, R))) (M := mr_339) rfl (show mcode 339 4 = some (4, .ifCond .ne 5, 3, 9, 0, 0, _) from rfl) (Or.inr (Or.inl ⟨7, [], by simp [brn, k1], rfl⟩)) ?_
    refine XW.fam (S' := (8, [(0, .ref 94)], [.int (-1)], (sh, I, L, R))) (M := mr_339) rfl (show mcode 339 7 = some (7, .iconst (-1), 1, 0, 0, 0, _) from rfl) (Or.inl ⟨.int (-1), rfl, rfl⟩) ?_
    refine XW.ret (r := some (.int (-1))) ⟨⟨.int, rfl, rfl⟩, by decide +kernel⟩ ?_
    exact ⟨hf, ⟨sh, R, hw⟩, ⟨_, rfl, by show _ = (if (I 94 92).toInt = 0 then _ else _); rw [em, if_pos (by omega)]; rfl⟩, show I 94 92 = 0 by rw [em]; exact Int32.toInt_inj.mp (by omega), fun _ _ _ => rfl⟩
