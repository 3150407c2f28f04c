/-! ===== translate of our side (wip/gentrans.py) ===== -/
def flV (S : Nat → Nat) (r : Bool × Nat) : Int := if r.1 = true then -1 else (S r.2 : Int)
theorem flV_t {S : Nat → Nat} {j : Nat} : flV S (true, j) = -1 := rfl
theorem flV_f {S : Nat → Nat} {j : Nat} : flV S (false, j) = (S j : Int) := rfl
theorem tr_lp {d F : Nat} {sh : List mE} {J : Nat → Nat → Int32} {R : Nat → Nat → Option Nat} {K : Nat → Int} {S : Nat → Nat} {N : Nat} (hT : tvC J K S N) (Hf : 2500 ≤ F) (Ha : CTx sh R J K S N d 103 6 9 F) (Hs : CTx sh R J K S N d 109 3 4 F) : ∀ (f : Nat) {I : Nat → Nat → Int32} {L : Nat → Nat → Int64} (c : Int32) (g : Bool × Nat), QW sh R J K S N g (sh, I, L, R) → g.2 ≤ N → (0 ≤ c.toInt ∧ c.toInt ≤ (g.2 : Int)) → N - g.2 < f → XW 92 mr_92 none (d + 2 + (6 * (8 - 0) + 8)) 0 0 (fun r w' => (∃ y : Int32, r = some (.int y) ∧ y.toInt = flV S (gB g (fun j => if K j = 59 then gLs K F f (j + 1) else if K j = 302 then (true, j) else (false, j)))) ∧ fresh w' ∧ wOK (mkT vV []) (wE sh R) w' ∧ ∀ q k, inm mdT q k = false → w'.2.1 q k = J q k) (35, [(1, .int c), (0, .ref 41)], [], (sh, I, L, R)) := by
  obtain ⟨⟨hN5, hN2⟩, hN, hTk⟩ := id hT
  have z0 : (0 : Int32).toInt = 0 := rfl
  have z59 : (59 : Int32).toInt = 59 := rfl
  have z240 : (240 : Int32).toInt = 240 := rfl
  have z302 : (302 : Int32).toInt = 302 := rfl
  intro f
  induction f with
  | zero =>
    intro I L c g _ _ _ h
    exact absurd h (Nat.not_lt_zero _)
  | succ f ih =>
    intro I L c g hq hg2 hcc hfu
    obtain ⟨hf, hw, hk, hs⟩ := hq
    have hk : ∀ q k, inm mdT q k = false → I q k = J q k := hk
    have hjN : g.2 = N → K g.2 = 302 := fun e => by rw [e]; exact hN
    have c41 : sh[41]? = some (.inr 5) := hw.1 41 _ rfl
    cases e : g.1 with
    | true =>
      have hst := hs.1 e
      obtain ⟨a, ea⟩ : ∃ z : Int32, I 41 6 = z := ⟨_, rfl⟩
      have ha : a.toInt = (g.2 : Int) := by rw [← ea]; exact hst.1
      obtain ⟨tk, etk⟩ : ∃ z : Int32, I 41 7 = z := ⟨_, rfl⟩
      have htk : tk.toInt = K g.2 := by rw [← etk]; exact hst.2.1
      obtain ⟨fl, efl⟩ : ∃ z : Int32, I 41 8 = z := ⟨_, rfl⟩
      have hfl : fl.toInt = -1 := by rw [← efl]; exact hst.2.2.1
      have hle : g.2 ≤ N := hst.2.2.2
      have hlt : ¬ K g.2 = 302 → g.2 < N := lt_N hN hle
      refine XW.fam (S' := (36, [(1, .int c), (0, .ref 41)], [.int c], (sh, I, L, R))) (M := mr_92) rfl (show mcode 92 35 = some (35, .iload_n 1, 1, 0, 0, 0, _) from rfl) (Or.inl ⟨.int c, rfl, rfl⟩) ?_
      refine XW.fam (S' := (39, [(1, .int c), (0, .ref 41)], [.int 240, .int c], (sh, I, L, R))) (M := mr_92) rfl (show mcode 92 36 = some (36, .sipush 240, 3, 0, 0, 0, _) from rfl) (Or.inl ⟨.int 240, rfl, rfl⟩) ?_
      cases k1 : bcmp .ge c 240 with
      | true =>
        have gk1 : 240 ≤ (c).toInt := icT (c := .ge) (a := (c).toInt) (b := 240) rfl (by decide) k1
        refine XW.fam (S' := (72, [(1, .int c), (0, .ref 41)], [], (sh, I, L, R))) (M := mr_92) rfl (show mcode 92 39 = some (39, .if_icmp .ge 33, 3, 72, 0, 0, _) from rfl) (Or.inr (Or.inl ⟨72, [], by simp [brn, k1], rfl⟩)) ?_
        refine XW.fam (S' := (73, [(1, .int c), (0, .ref 41)], [.ref 41], (sh, I, L, R))) (M := mr_92) rfl (show mcode 92 72 = some (72, .aload_n 0, 1, 0, 0, 0, _) from rfl) (Or.inl ⟨.ref 41, rfl, rfl⟩) ?_
        refine XW.fam (S' := (76, [(1, .int c), (0, .ref 41)], [.int (I 41 7)], (sh, I, L, R))) (M := mr_92) rfl (show mcode 92 73 = some (73, .getfield 38, 3, 5, 7, 0, _) from rfl) (Or.inr (Or.inr (Or.inr (Or.inr (Or.inr (Or.inr (Or.inr (Or.inl ⟨_, _, rfl, fl_ldI c41 (by decide) (by decide), rfl⟩)))))))) ?_
        rw [etk]
        refine XW.fam (S' := (79, [(1, .int c), (0, .ref 41)], [.int 302, .int tk], (sh, I, L, R))) (M := mr_92) rfl (show mcode 92 76 = some (76, .sipush 302, 3, 0, 0, 0, _) from rfl) (Or.inl ⟨.int 302, rfl, rfl⟩) ?_
        cases k2 : bcmp .eq tk 302 with
        | true =>
          have gk2 : (tk).toInt = 302 := icT (c := .eq) (a := (tk).toInt) (b := 302) rfl (by decide) k2
          refine XW.fam (S' := (86, [(1, .int c), (0, .ref 41)], [], (sh, I, L, R))) (M := mr_92) rfl (show mcode 92 79 = some (79, .if_icmp .eq 7, 3, 86, 0, 0, _) from rfl) (Or.inr (Or.inl ⟨86, [], by simp [brn, k2], rfl⟩)) ?_
          refine XW.fam (S' := (87, [(1, .int c), (0, .ref 41)], [.ref 41], (sh, I, L, R))) (M := mr_92) rfl (show mcode 92 86 = some (86, .aload_n 0, 1, 0, 0, 0, _) from rfl) (Or.inl ⟨.ref 41, rfl, rfl⟩) ?_
          refine XW.fam (S' := (90, [(1, .int c), (0, .ref 41)], [.int (I 41 8)], (sh, I, L, R))) (M := mr_92) rfl (show mcode 92 87 = some (87, .getfield 44, 3, 5, 8, 0, _) from rfl) (Or.inr (Or.inr (Or.inr (Or.inr (Or.inr (Or.inr (Or.inr (Or.inl ⟨_, _, rfl, fl_ldI c41 (by decide) (by decide), rfl⟩)))))))) ?_
          rw [efl]
          refine XW.ret (r := some (.int fl)) ⟨⟨.int, rfl, rfl⟩, by decide +kernel⟩ ?_
          refine ⟨⟨_, rfl, ?_⟩, hf, hw, hk⟩
          rw [gB_t e, if_neg (by omega), if_pos (by omega), flV_t]
          exact hfl
        | false =>
          have gk2 : ¬ ((tk).toInt = 302) := icF (c := .eq) (a := (tk).toInt) (b := 302) rfl (by decide) k2
          refine XW.fam (S' := (82, [(1, .int c), (0, .ref 41)], [], (sh, I, L, R))) (M := mr_92) rfl (show mcode 92 79 = some (79, .if_icmp .eq 7, 3, 86, 0, 0, _) from rfl) (Or.inr (Or.inl ⟨82, [], by simp [brn, k2], rfl⟩)) ?_
          refine XW.fam (S' := (83, [(1, .int c), (0, .ref 41)], [.ref 41], (sh, I, L, R))) (M := mr_92) rfl (show mcode 92 82 = some (82, .aload_n 0, 1, 0, 0, 0, _) from rfl) (Or.inl ⟨.ref 41, rfl, rfl⟩) ?_
          refine XW.call (d' := d) (mc' := 0) (ms' := 0) (av := [.ref 41]) (rest := []) (M := mr_92) (Ma := mr_101) rfl (show mcode 92 83 = some (83, .invokevirtual 53, 3, 101, 0, 0, _) from rfl) rfl (by decide) (by decide) ⟨rfl, 41, _, rfl, c41⟩ rfl rfl (show 0 ≤ 8 by decide) (tc_fail (d := d) hT hw hf hk hst) (by omega) (Nat.zero_le _) (Nat.zero_le _) (fun rQ3 wQ3 Q3 => ?_)
          obtain ⟨hrQ3, hfQ3, hwQ3, hkQ3, hsQ3⟩ := Q3
          subst hrQ3
          obtain ⟨shQ3, IQ3, LQ3, RQ3⟩ := wQ3
          obtain rfl : sh = shQ3 := hwQ3.2.2.2.1.symm
          obtain rfl : R = RQ3 := hwQ3.2.2.2.2.1.symm
          have hkQ3 : ∀ q k, inm mdT q k = false → IQ3 q k = J q k := hkQ3
          obtain ⟨fl2, efl2⟩ : ∃ z : Int32, IQ3 41 8 = z := ⟨_, rfl⟩
          have hfl2 : fl2.toInt = (S g.2 : Int) := by rw [← efl2]; exact hsQ3.2 rfl
          refine XW.fam (S' := (87, [(1, .int c), (0, .ref 41)], [.ref 41], (sh, IQ3, LQ3, R))) (M := mr_92) rfl (show mcode 92 86 = some (86, .aload_n 0, 1, 0, 0, 0, _) from rfl) (Or.inl ⟨.ref 41, rfl, rfl⟩) ?_
          refine XW.fam (S' := (90, [(1, .int c), (0, .ref 41)], [.int (IQ3 41 8)], (sh, IQ3, LQ3, R))) (M := mr_92) rfl (show mcode 92 87 = some (87, .getfield 44, 3, 5, 8, 0, _) from rfl) (Or.inr (Or.inr (Or.inr (Or.inr (Or.inr (Or.inr (Or.inr (Or.inl ⟨_, _, rfl, fl_ldI c41 (by decide) (by decide), rfl⟩)))))))) ?_
          rw [efl2]
          refine XW.ret (r := some (.int fl2)) ⟨⟨.int, rfl, rfl⟩, by decide +kernel⟩ ?_
          refine ⟨⟨_, rfl, ?_⟩, hfQ3, hwQ3, hkQ3⟩
          rw [gB_t e, if_neg (by omega), if_neg (by omega), flV_f]
          exact hfl2
      | false =>
        have gk1 : ¬ (240 ≤ (c).toInt) := icF (c := .ge) (a := (c).toInt) (b := 240) rfl (by decide) k1
        refine XW.fam (S' := (42, [(1, .int c), (0, .ref 41)], [], (sh, I, L, R))) (M := mr_92) rfl (show mcode 92 39 = some (39, .if_icmp .ge 33, 3, 72, 0, 0, _) from rfl) (Or.inr (Or.inl ⟨42, [], by simp [brn, k1], rfl⟩)) ?_
        refine XW.fam (S' := (43, [(1, .int c), (0, .ref 41)], [.ref 41], (sh, I, L, R))) (M := mr_92) rfl (show mcode 92 42 = some (42, .aload_n 0, 1, 0, 0, 0, _) from rfl) (Or.inl ⟨.ref 41, rfl, rfl⟩) ?_
        refine XW.fam (S' := (46, [(1, .int c), (0, .ref 41)], [.int (I 41 8)], (sh, I, L, R))) (M := mr_92) rfl (show mcode 92 43 = some (43, .getfield 44, 3, 5, 8, 0, _) from rfl) (Or.inr (Or.inr (Or.inr (Or.inr (Or.inr (Or.inr (Or.inr (Or.inl ⟨_, _, rfl, fl_ldI c41 (by decide) (by decide), rfl⟩)))))))) ?_
        rw [efl]
        have k4 : bcmp .ge fl 0 = false := bcF (c := .ge) (a := (fl).toInt) (b := 0) rfl (by decide) (by show ¬ (0 ≤ (fl).toInt); omega)
        refine XW.fam (S' := (49, [(1, .int c), (0, .ref 41)], [], (sh, I, L, R))) (M := mr_92) rfl (show mcode 92 46 = some (46, .ifCond .ge 26, 3, 72, 0, 0, _) from rfl) (Or.inr (Or.inl ⟨49, [], by simp [brn, k4], rfl⟩)) ?_
        refine XW.fam (S' := (50, [(1, .int c), (0, .ref 41)], [.ref 41], (sh, I, L, R))) (M := mr_92) rfl (show mcode 92 49 = some (49, .aload_n 0, 1, 0, 0, 0, _) from rfl) (Or.inl ⟨.ref 41, rfl, rfl⟩) ?_
        refine XW.fam (S' := (53, [(1, .int c), (0, .ref 41)], [.int (I 41 7)], (sh, I, L, R))) (M := mr_92) rfl (show mcode 92 50 = some (50, .getfield 38, 3, 5, 7, 0, _) from rfl) (Or.inr (Or.inr (Or.inr (Or.inr (Or.inr (Or.inr (Or.inr (Or.inl ⟨_, _, rfl, fl_ldI c41 (by decide) (by decide), rfl⟩)))))))) ?_
        rw [etk]
        refine XW.fam (S' := (55, [(1, .int c), (0, .ref 41)], [.int 59, .int tk], (sh, I, L, R))) (M := mr_92) rfl (show mcode 92 53 = some (53, .bipush 59, 2, 0, 0, 0, _) from rfl) (Or.inl ⟨.int 59, rfl, rfl⟩) ?_
        cases k5 : bcmp .ne tk 59 with
        | true =>
          have gk5 : ¬ (tk).toInt = 59 := icT (c := .ne) (a := (tk).toInt) (b := 59) rfl (by decide) k5
          refine XW.fam (S' := (72, [(1, .int c), (0, .ref 41)], [], (sh, I, L, R))) (M := mr_92) rfl (show mcode 92 55 = some (55, .if_icmp .ne 17, 3, 72, 0, 0, _) from rfl) (Or.inr (Or.inl ⟨72, [], by simp [brn, k5], rfl⟩)) ?_
          refine XW.fam (S' := (73, [(1, .int c), (0, .ref 41)], [.ref 41], (sh, I, L, R))) (M := mr_92) rfl (show mcode 92 72 = some (72, .aload_n 0, 1, 0, 0, 0, _) from rfl) (Or.inl ⟨.ref 41, rfl, rfl⟩) ?_
          refine XW.fam (S' := (76, [(1, .int c), (0, .ref 41)], [.int (I 41 7)], (sh, I, L, R))) (M := mr_92) rfl (show mcode 92 73 = some (73, .getfield 38, 3, 5, 7, 0, _) from rfl) (Or.inr (Or.inr (Or.inr (Or.inr (Or.inr (Or.inr (Or.inr (Or.inl ⟨_, _, rfl, fl_ldI c41 (by decide) (by decide), rfl⟩)))))))) ?_
          rw [etk]
          refine XW.fam (S' := (79, [(1, .int c), (0, .ref 41)], [.int 302, .int tk], (sh, I, L, R))) (M := mr_92) rfl (show mcode 92 76 = some (76, .sipush 302, 3, 0, 0, 0, _) from rfl) (Or.inl ⟨.int 302, rfl, rfl⟩) ?_
          cases k6 : bcmp .eq tk 302 with
          | true =>
            have gk6 : (tk).toInt = 302 := icT (c := .eq) (a := (tk).toInt) (b := 302) rfl (by decide) k6
            refine XW.fam (S' := (86, [(1, .int c), (0, .ref 41)], [], (sh, I, L, R))) (M := mr_92) rfl (show mcode 92 79 = some (79, .if_icmp .eq 7, 3, 86, 0, 0, _) from rfl) (Or.inr (Or.inl ⟨86, [], by simp [brn, k6], rfl⟩)) ?_
            refine XW.fam (S' := (87, [(1, .int c), (0, .ref 41)], [.ref 41], (sh, I, L, R))) (M := mr_92) rfl (show mcode 92 86 = some (86, .aload_n 0, 1, 0, 0, 0, _) from rfl) (Or.inl ⟨.ref 41, rfl, rfl⟩) ?_
            refine XW.fam (S' := (90, [(1, .int c), (0, .ref 41)], [.int (I 41 8)], (sh, I, L, R))) (M := mr_92) rfl (show mcode 92 87 = some (87, .getfield 44, 3, 5, 8, 0, _) from rfl) (Or.inr (Or.inr (Or.inr (Or.inr (Or.inr (Or.inr (Or.inr (Or.inl ⟨_, _, rfl, fl_ldI c41 (by decide) (by decide), rfl⟩)))))))) ?_
            rw [efl]
            refine XW.ret (r := some (.int fl)) ⟨⟨.int, rfl, rfl⟩, by decide +kernel⟩ ?_
            refine ⟨⟨_, rfl, ?_⟩, hf, hw, hk⟩
            rw [gB_t e, if_neg (by omega), if_pos (by omega), flV_t]
            exact hfl
          | false =>
            have gk6 : ¬ ((tk).toInt = 302) := icF (c := .eq) (a := (tk).toInt) (b := 302) rfl (by decide) k6
            refine XW.fam (S' := (82, [(1, .int c), (0, .ref 41)], [], (sh, I, L, R))) (M := mr_92) rfl (show mcode 92 79 = some (79, .if_icmp .eq 7, 3, 86, 0, 0, _) from rfl) (Or.inr (Or.inl ⟨82, [], by simp [brn, k6], rfl⟩)) ?_
            refine XW.fam (S' := (83, [(1, .int c), (0, .ref 41)], [.ref 41], (sh, I, L, R))) (M := mr_92) rfl (show mcode 92 82 = some (82, .aload_n 0, 1, 0, 0, 0, _) from rfl) (Or.inl ⟨.ref 41, rfl, rfl⟩) ?_
            refine XW.call (d' := d) (mc' := 0) (ms' := 0) (av := [.ref 41]) (rest := []) (M := mr_92) (Ma := mr_101) rfl (show mcode 92 83 = some (83, .invokevirtual 53, 3, 101, 0, 0, _) from rfl) rfl (by decide) (by decide) ⟨rfl, 41, _, rfl, c41⟩ rfl rfl (show 0 ≤ 8 by decide) (tc_fail (d := d) hT hw hf hk hst) (by omega) (Nat.zero_le _) (Nat.zero_le _) (fun rQ7 wQ7 Q7 => ?_)
            obtain ⟨hrQ7, hfQ7, hwQ7, hkQ7, hsQ7⟩ := Q7
            subst hrQ7
            obtain ⟨shQ7, IQ7, LQ7, RQ7⟩ := wQ7
            obtain rfl : sh = shQ7 := hwQ7.2.2.2.1.symm
            obtain rfl : R = RQ7 := hwQ7.2.2.2.2.1.symm
            have hkQ7 : ∀ q k, inm mdT q k = false → IQ7 q k = J q k := hkQ7
            obtain ⟨fl2, efl2⟩ : ∃ z : Int32, IQ7 41 8 = z := ⟨_, rfl⟩
            have hfl2 : fl2.toInt = (S g.2 : Int) := by rw [← efl2]; exact hsQ7.2 rfl
            refine XW.fam (S' := (87, [(1, .int c), (0, .ref 41)], [.ref 41], (sh, IQ7, LQ7, R))) (M := mr_92) rfl (show mcode 92 86 = some (86, .aload_n 0, 1, 0, 0, 0, _) from rfl) (Or.inl ⟨.ref 41, rfl, rfl⟩) ?_
            refine XW.fam (S' := (90, [(1, .int c), (0, .ref 41)], [.int (IQ7 41 8)], (sh, IQ7, LQ7, R))) (M := mr_92) rfl (show mcode 92 87 = some (87, .getfield 44, 3, 5, 8, 0, _) from rfl) (Or.inr (Or.inr (Or.inr (Or.inr (Or.inr (Or.inr (Or.inr (Or.inl ⟨_, _, rfl, fl_ldI c41 (by decide) (by decide), rfl⟩)))))))) ?_
            rw [efl2]
            refine XW.ret (r := some (.int fl2)) ⟨⟨.int, rfl, rfl⟩, by decide +kernel⟩ ?_
            refine ⟨⟨_, rfl, ?_⟩, hfQ7, hwQ7, hkQ7⟩
            rw [gB_t e, if_neg (by omega), if_neg (by omega), flV_f]
            exact hfl2
        | false =>
          have gk5 : ¬ (¬ (tk).toInt = 59) := icF (c := .ne) (a := (tk).toInt) (b := 59) rfl (by decide) k5
          refine XW.fam (S' := (58, [(1, .int c), (0, .ref 41)], [], (sh, I, L, R))) (M := mr_92) rfl (show mcode 92 55 = some (55, .if_icmp .ne 17, 3, 72, 0, 0, _) from rfl) (Or.inr (Or.inl ⟨58, [], by simp [brn, k5], rfl⟩)) ?_
          refine XW.fam (S' := (59, [(1, .int c), (0, .ref 41)], [.ref 41], (sh, I, L, R))) (M := mr_92) rfl (show mcode 92 58 = some (58, .aload_n 0, 1, 0, 0, 0, _) from rfl) (Or.inl ⟨.ref 41, rfl, rfl⟩) ?_
          refine XW.call (d' := d) (mc' := 0) (ms' := 0) (av := [.ref 41]) (rest := []) (M := mr_92) (Ma := mr_102) rfl (show mcode 92 59 = some (59, .invokevirtual 50, 3, 102, 0, 0, _) from rfl) rfl (by decide) (by decide) ⟨rfl, 41, _, rfl, c41⟩ rfl rfl (show 0 ≤ 8 by decide) (tc_adv (d := d) hT hw hf hk hst (lt_N hN hle (by omega))) (by omega) (Nat.zero_le _) (Nat.zero_le _) (fun rQ8 wQ8 Q8 => ?_)
          obtain ⟨hrQ8, hfQ8, hwQ8, hkQ8, hsQ8⟩ := Q8
          subst hrQ8
          obtain ⟨shQ8, IQ8, LQ8, RQ8⟩ := wQ8
          obtain rfl : sh = shQ8 := hwQ8.2.2.2.1.symm
          obtain rfl : R = RQ8 := hwQ8.2.2.2.2.1.symm
          have hkQ8 : ∀ q k, inm mdT q k = false → IQ8 q k = J q k := hkQ8
          refine XW.fam (S' := (63, [(1, .int c), (0, .ref 41)], [.ref 41], (sh, IQ8, LQ8, R))) (M := mr_92) rfl (show mcode 92 62 = some (62, .aload_n 0, 1, 0, 0, 0, _) from rfl) (Or.inl ⟨.ref 41, rfl, rfl⟩) ?_
          refine XW.call (d' := (d + 2 + (6 * (8 - 0) + 7))) (mc' := 0) (ms' := 0) (av := [.ref 41]) (rest := []) (M := mr_92) (Ma := mr_100) rfl (show mcode 92 63 = some (63, .invokevirtual 47, 3, 100, 0, 0, _) from rfl) rfl (by decide) (by decide) ⟨rfl, 41, _, rfl, c41⟩ rfl rfl (show 0 ≤ 8 by decide) (tc_line1 (d := d) (F := F) (i := g.2 + 1) hT Hf Ha Hs hwQ8 hfQ8 hkQ8 (hsQ8.1 rfl)) (by omega) (Nat.zero_le _) (Nat.zero_le _) (fun rQ9 wQ9 Q9 => ?_)
          obtain ⟨hrQ9, hfQ9, hwQ9, hkQ9, hsQ9⟩ := Q9
          subst hrQ9
          obtain ⟨shQ9, IQ9, LQ9, RQ9⟩ := wQ9
          obtain rfl : sh = shQ9 := hwQ9.2.2.2.1.symm
          obtain rfl : R = RQ9 := hwQ9.2.2.2.2.1.symm
          have hkQ9 : ∀ q k, inm mdT q k = false → IQ9 q k = J q k := hkQ9
          refine XW.fam (S' := (69, [(1, .int (c + Int32.ofInt 1)), (0, .ref 41)], [], (sh, IQ9, LQ9, R))) (M := mr_92) rfl (show mcode 92 66 = some (66, .iinc 1 1, 3, 0, 0, 0, _) from rfl) (Or.inr (Or.inr (Or.inr (Or.inr (Or.inr (Or.inr (Or.inr (Or.inr (Or.inr ⟨1, 1, c, rfl, rfl, by decide, rfl⟩))))))))) ?_
          refine XW.fam (S' := (35, [(1, .int (c + Int32.ofInt 1)), (0, .ref 41)], [], (sh, IQ9, LQ9, R))) (M := mr_92) rfl (show mcode 92 69 = some (69, .goto (-34), 3, 35, 0, 0, _) from rfl) (Or.inr (Or.inl ⟨35, [], rfl, rfl⟩)) ?_
          have eo := incO (m := c) (by omega) (by omega)
          refine XW.sub (ls' := [(1, .int (c + Int32.ofInt 1)), (0, .ref 41)]) (List.forall_mem_cons.mpr ⟨List.mem_of_getElem? (i := 0) rfl, (List.forall_mem_cons.mpr ⟨List.mem_of_getElem? (i := 1) rfl, (fun _ h => absurd h List.not_mem_nil)⟩)⟩) ?_
          have hgo := gLn_ok (F := F) (i := g.2 + 1) hN (lt_N hN hle (by omega))
          have g1 := hgo.1
          have g2 := hgo.2.1
          have eg9 : gB g (fun j => if K j = 59 then gLs K F (f + 1) (j + 1) else if K j = 302 then (true, j) else (false, j)) = gB (gLn K F (g.2 + 1)) (fun j => if K j = 59 then gLs K F f (j + 1) else if K j = 302 then (true, j) else (false, j)) := by
            rw [gB_t e, if_pos (by omega)]
            rfl
          rw [eg9]
          exact ih (c + Int32.ofInt 1) (gLn K F (g.2 + 1)) ⟨hfQ9, hwQ9, hkQ9, hsQ9⟩ (by omega) (by omega) (by omega)
    | false =>
      obtain ⟨fl, efl⟩ : ∃ z : Int32, I 41 8 = z := ⟨_, rfl⟩
      have hfl : fl.toInt = (S g.2 : Int) := by rw [← efl]; exact hs.2 e
      refine XW.fam (S' := (36, [(1, .int c), (0, .ref 41)], [.int c], (sh, I, L, R))) (M := mr_92) rfl (show mcode 92 35 = some (35, .iload_n 1, 1, 0, 0, 0, _) from rfl) (Or.inl ⟨.int c, rfl, rfl⟩) ?_
      refine XW.fam (S' := (39, [(1, .int c), (0, .ref 41)], [.int 240, .int c], (sh, I, L, R))) (M := mr_92) rfl (show mcode 92 36 = some (36, .sipush 240, 3, 0, 0, 0, _) from rfl) (Or.inl ⟨.int 240, rfl, rfl⟩) ?_
      cases k1 : bcmp .ge c 240 with
      | true =>
        have gk1 : 240 ≤ (c).toInt := icT (c := .ge) (a := (c).toInt) (b := 240) rfl (by decide) k1
        refine XW.fam (S' := (72, [(1, .int c), (0, .ref 41)], [], (sh, I, L, R))) (M := mr_92) rfl (show mcode 92 39 = some (39, .if_icmp .ge 33, 3, 72, 0, 0, _) from rfl) (Or.inr (Or.inl ⟨72, [], by simp [brn, k1], rfl⟩)) ?_
        refine XW.fam (S' := (73, [(1, .int c), (0, .ref 41)], [.ref 41], (sh, I, L, R))) (M := mr_92) rfl (show mcode 92 72 = some (72, .aload_n 0, 1, 0, 0, 0, _) from rfl) (Or.inl ⟨.ref 41, rfl, rfl⟩) ?_
        refine XW.fam (S' := (76, [(1, .int c), (0, .ref 41)], [.int (I 41 7)], (sh, I, L, R))) (M := mr_92) rfl (show mcode 92 73 = some (73, .getfield 38, 3, 5, 7, 0, _) from rfl) (Or.inr (Or.inr (Or.inr (Or.inr (Or.inr (Or.inr (Or.inr (Or.inl ⟨_, _, rfl, fl_ldI c41 (by decide) (by decide), rfl⟩)))))))) ?_
        refine XW.fam (S' := (79, [(1, .int c), (0, .ref 41)], [.int 302, .int (I 41 7)], (sh, I, L, R))) (M := mr_92) rfl (show mcode 92 76 = some (76, .sipush 302, 3, 0, 0, 0, _) from rfl) (Or.inl ⟨.int 302, rfl, rfl⟩) ?_
        cases k2 : bcmp .eq (I 41 7) 302 with
        | true =>
          have gk2 : ((I 41 7)).toInt = 302 := icT (c := .eq) (a := ((I 41 7)).toInt) (b := 302) rfl (by decide) k2
          refine XW.fam (S' := (86, [(1, .int c), (0, .ref 41)], [], (sh, I, L, R))) (M := mr_92) rfl (show mcode 92 79 = some (79, .if_icmp .eq 7, 3, 86, 0, 0, _) from rfl) (Or.inr (Or.inl ⟨86, [], by simp [brn, k2], rfl⟩)) ?_
          refine XW.fam (S' := (87, [(1, .int c), (0, .ref 41)], [.ref 41], (sh, I, L, R))) (M := mr_92) rfl (show mcode 92 86 = some (86, .aload_n 0, 1, 0, 0, 0, _) from rfl) (Or.inl ⟨.ref 41, rfl, rfl⟩) ?_
          refine XW.fam (S' := (90, [(1, .int c), (0, .ref 41)], [.int (I 41 8)], (sh, I, L, R))) (M := mr_92) rfl (show mcode 92 87 = some (87, .getfield 44, 3, 5, 8, 0, _) from rfl) (Or.inr (Or.inr (Or.inr (Or.inr (Or.inr (Or.inr (Or.inr (Or.inl ⟨_, _, rfl, fl_ldI c41 (by decide) (by decide), rfl⟩)))))))) ?_
          rw [efl]
          refine XW.ret (r := some (.int fl)) ⟨⟨.int, rfl, rfl⟩, by decide +kernel⟩ ?_
          refine ⟨⟨_, rfl, ?_⟩, hf, hw, hk⟩
          rw [gB_f e]
          have eg : g = (false, g.2) := Prod.ext e rfl
          rw [eg, flV_f]
          exact hfl
        | false =>
          have gk2 : ¬ (((I 41 7)).toInt = 302) := icF (c := .eq) (a := ((I 41 7)).toInt) (b := 302) rfl (by decide) k2
          refine XW.fam (S' := (82, [(1, .int c), (0, .ref 41)], [], (sh, I, L, R))) (M := mr_92) rfl (show mcode 92 79 = some (79, .if_icmp .eq 7, 3, 86, 0, 0, _) from rfl) (Or.inr (Or.inl ⟨82, [], by simp [brn, k2], rfl⟩)) ?_
          refine XW.fam (S' := (83, [(1, .int c), (0, .ref 41)], [.ref 41], (sh, I, L, R))) (M := mr_92) rfl (show mcode 92 82 = some (82, .aload_n 0, 1, 0, 0, 0, _) from rfl) (Or.inl ⟨.ref 41, rfl, rfl⟩) ?_
          refine XW.call (d' := d) (mc' := 0) (ms' := 0) (av := [.ref 41]) (rest := []) (M := mr_92) (Ma := mr_101) rfl (show mcode 92 83 = some (83, .invokevirtual 53, 3, 101, 0, 0, _) from rfl) rfl (by decide) (by decide) ⟨rfl, 41, _, rfl, c41⟩ rfl rfl (show 0 ≤ 8 by decide) (tc_failN (d := d) hw (by rw [efl]; omega)) (by omega) (Nat.zero_le _) (Nat.zero_le _) (fun rQ3 wQ3 Q3 => ?_)
          obtain ⟨rfl, rfl⟩ := Q3
          refine XW.fam (S' := (87, [(1, .int c), (0, .ref 41)], [.ref 41], (sh, I, L, R))) (M := mr_92) rfl (show mcode 92 86 = some (86, .aload_n 0, 1, 0, 0, 0, _) from rfl) (Or.inl ⟨.ref 41, rfl, rfl⟩) ?_
          refine XW.fam (S' := (90, [(1, .int c), (0, .ref 41)], [.int (I 41 8)], (sh, I, L, R))) (M := mr_92) rfl (show mcode 92 87 = some (87, .getfield 44, 3, 5, 8, 0, _) from rfl) (Or.inr (Or.inr (Or.inr (Or.inr (Or.inr (Or.inr (Or.inr (Or.inl ⟨_, _, rfl, fl_ldI c41 (by decide) (by decide), rfl⟩)))))))) ?_
          rw [efl]
          refine XW.ret (r := some (.int fl)) ⟨⟨.int, rfl, rfl⟩, by decide +kernel⟩ ?_
          refine ⟨⟨_, rfl, ?_⟩, hf, hw, hk⟩
          rw [gB_f e]
          have eg : g = (false, g.2) := Prod.ext e rfl
          rw [eg, flV_f]
          exact hfl
      | false =>
        have gk1 : ¬ (240 ≤ (c).toInt) := icF (c := .ge) (a := (c).toInt) (b := 240) rfl (by decide) k1
        refine XW.fam (S' := (42, [(1, .int c), (0, .ref 41)], [], (sh, I, L, R))) (M := mr_92) rfl (show mcode 92 39 = some (39, .if_icmp .ge 33, 3, 72, 0, 0, _) from rfl) (Or.inr (Or.inl ⟨42, [], by simp [brn, k1], rfl⟩)) ?_
        refine XW.fam (S' := (43, [(1, .int c), (0, .ref 41)], [.ref 41], (sh, I, L, R))) (M := mr_92) rfl (show mcode 92 42 = some (42, .aload_n 0, 1, 0, 0, 0, _) from rfl) (Or.inl ⟨.ref 41, rfl, rfl⟩) ?_
        refine XW.fam (S' := (46, [(1, .int c), (0, .ref 41)], [.int (I 41 8)], (sh, I, L, R))) (M := mr_92) rfl (show mcode 92 43 = some (43, .getfield 44, 3, 5, 8, 0, _) from rfl) (Or.inr (Or.inr (Or.inr (Or.inr (Or.inr (Or.inr (Or.inr (Or.inl ⟨_, _, rfl, fl_ldI c41 (by decide) (by decide), rfl⟩)))))))) ?_
        rw [efl]
        have k4 : bcmp .ge fl 0 = true := bcT (c := .ge) (a := (fl).toInt) (b := 0) rfl (by decide) (by show 0 ≤ (fl).toInt; omega)
        refine XW.fam (S' := (72, [(1, .int c), (0, .ref 41)], [], (sh, I, L, R))) (M := mr_92) rfl (show mcode 92 46 = some (46, .ifCond .ge 26, 3, 72, 0, 0, _) from rfl) (Or.inr (Or.inl ⟨72, [], by simp [brn, k4], rfl⟩)) ?_
        refine XW.fam (S' := (73, [(1, .int c), (0, .ref 41)], [.ref 41], (sh, I, L, R))) (M := mr_92) rfl (show mcode 92 72 = some (72, .aload_n 0, 1, 0, 0, 0, _) from rfl) (Or.inl ⟨.ref 41, rfl, rfl⟩) ?_
        refine XW.fam (S' := (76, [(1, .int c), (0, .ref 41)], [.int (I 41 7)], (sh, I, L, R))) (M := mr_92) rfl (show mcode 92 73 = some (73, .getfield 38, 3, 5, 7, 0, _) from rfl) (Or.inr (Or.inr (Or.inr (Or.inr (Or.inr (Or.inr (Or.inr (Or.inl ⟨_, _, rfl, fl_ldI c41 (by decide) (by decide), rfl⟩)))))))) ?_
        refine XW.fam (S' := (79, [(1, .int c), (0, .ref 41)], [.int 302, .int (I 41 7)], (sh, I, L, R))) (M := mr_92) rfl (show mcode 92 76 = some (76, .sipush 302, 3, 0, 0, 0, _) from rfl) (Or.inl ⟨.int 302, rfl, rfl⟩) ?_
        cases k5 : bcmp .eq (I 41 7) 302 with
        | true =>
          have gk5 : ((I 41 7)).toInt = 302 := icT (c := .eq) (a := ((I 41 7)).toInt) (b := 302) rfl (by decide) k5
          refine XW.fam (S' := (86, [(1, .int c), (0, .ref 41)], [], (sh, I, L, R))) (M := mr_92) rfl (show mcode 92 79 = some (79, .if_icmp .eq 7, 3, 86, 0, 0, _) from rfl) (Or.inr (Or.inl ⟨86, [], by simp [brn, k5], rfl⟩)) ?_
          refine XW.fam (S' := (87, [(1, .int c), (0, .ref 41)], [.ref 41], (sh, I, L, R))) (M := mr_92) rfl (show mcode 92 86 = some (86, .aload_n 0, 1, 0, 0, 0, _) from rfl) (Or.inl ⟨.ref 41, rfl, rfl⟩) ?_
          refine XW.fam (S' := (90, [(1, .int c), (0, .ref 41)], [.int (I 41 8)], (sh, I, L, R))) (M := mr_92) rfl (show mcode 92 87 = some (87, .getfield 44, 3, 5, 8, 0, _) from rfl) (Or.inr (Or.inr (Or.inr (Or.inr (Or.inr (Or.inr (Or.inr (Or.inl ⟨_, _, rfl, fl_ldI c41 (by decide) (by decide), rfl⟩)))))))) ?_
          rw [efl]
          refine XW.ret (r := some (.int fl)) ⟨⟨.int, rfl, rfl⟩, by decide +kernel⟩ ?_
          refine ⟨⟨_, rfl, ?_⟩, hf, hw, hk⟩
          rw [gB_f e]
          have eg : g = (false, g.2) := Prod.ext e rfl
          rw [eg, flV_f]
          exact hfl
        | false =>
          have gk5 : ¬ (((I 41 7)).toInt = 302) := icF (c := .eq) (a := ((I 41 7)).toInt) (b := 302) rfl (by decide) k5
          refine XW.fam (S' := (82, [(1, .int c), (0, .ref 41)], [], (sh, I, L, R))) (M := mr_92) rfl (show mcode 92 79 = some (79, .if_icmp .eq 7, 3, 86, 0, 0, _) from rfl) (Or.inr (Or.inl ⟨82, [], by simp [brn, k5], rfl⟩)) ?_
          refine XW.fam (S' := (83, [(1, .int c), (0, .ref 41)], [.ref 41], (sh, I, L, R))) (M := mr_92) rfl (show mcode 92 82 = some (82, .aload_n 0, 1, 0, 0, 0, _) from rfl) (Or.inl ⟨.ref 41, rfl, rfl⟩) ?_
          refine XW.call (d' := d) (mc' := 0) (ms' := 0) (av := [.ref 41]) (rest := []) (M := mr_92) (Ma := mr_101) rfl (show mcode 92 83 = some (83, .invokevirtual 53, 3, 101, 0, 0, _) from rfl) rfl (by decide) (by decide) ⟨rfl, 41, _, rfl, c41⟩ rfl rfl (show 0 ≤ 8 by decide) (tc_failN (d := d) hw (by rw [efl]; omega)) (by omega) (Nat.zero_le _) (Nat.zero_le _) (fun rQ6 wQ6 Q6 => ?_)
          obtain ⟨rfl, rfl⟩ := Q6
          refine XW.fam (S' := (87, [(1, .int c), (0, .ref 41)], [.ref 41], (sh, I, L, R))) (M := mr_92) rfl (show mcode 92 86 = some (86, .aload_n 0, 1, 0, 0, 0, _) from rfl) (Or.inl ⟨.ref 41, rfl, rfl⟩) ?_
          refine XW.fam (S' := (90, [(1, .int c), (0, .ref 41)], [.int (I 41 8)], (sh, I, L, R))) (M := mr_92) rfl (show mcode 92 87 = some (87, .getfield 44, 3, 5, 8, 0, _) from rfl) (Or.inr (Or.inr (Or.inr (Or.inr (Or.inr (Or.inr (Or.inr (Or.inl ⟨_, _, rfl, fl_ldI c41 (by decide) (by decide), rfl⟩)))))))) ?_
          rw [efl]
          refine XW.ret (r := some (.int fl)) ⟨⟨.int, rfl, rfl⟩, by decide +kernel⟩ ?_
          refine ⟨⟨_, rfl, ?_⟩, hf, hw, hk⟩
          rw [gB_f e]
          have eg : g = (false, g.2) := Prod.ext e rfl
          rw [eg, flV_f]
          exact hfl
theorem XW.imp {j : Nat} {M : mMt} {X : mX} {d mc ms : Nat} {Q Q' : Option Value → mW → Prop} {S : mS} (K : XW j M X d mc ms Q S) (h : ∀ r w', Q r w' → Q' r w') : XW j M X d mc ms Q' S := by
  intro D base xa p l e R s m args below meth c Z H locs cells slots lsA cA hC hfr hlo hce hsl hH hL hl hret
  exact K D base xa p l e R s m args below meth c Z H locs cells slots lsA cA hC hfr hlo hce hsl hH hL hl (fun r w2 H2 locs2 ls2 cA2 c2 s2 pc2 q1 q2 q3 q4 q5 q6 => hret r w2 H2 locs2 ls2 cA2 c2 s2 pc2 (h r w2 q1) q2 q3 q4 q5 q6)
def mdTl : aM := [(41, some 5), (41, some 6), (41, some 7), (41, some 8), (41, some 10), (43, none), (44, none), (45, none), (46, none)]
theorem inm_sub {A B : aM} (h : ∀ e ∈ A, e ∈ B) {q k : Nat} (hq : inm B q k = false) : inm A q k = false := by
  unfold inm at hq ⊢
  rw [List.any_eq_false] at hq ⊢
  exact fun e he => hq e (h e he)
theorem inm_lT {q k : Nat} (hq : inm mdTl q k = false) : inm mdT q k = false := inm_sub (A := mdT) (fun e he => by
  rcases List.mem_cons.mp he with rfl | he
  · exact List.mem_of_getElem? (i := 1) rfl
  rcases List.mem_cons.mp he with rfl | he
  · exact List.mem_of_getElem? (i := 2) rfl
  rcases List.mem_cons.mp he with rfl | he
  · exact List.mem_of_getElem? (i := 3) rfl
  rcases List.mem_cons.mp he with rfl | he
  · exact List.mem_of_getElem? (i := 4) rfl
  rcases List.mem_singleton.mp he with rfl
  exact List.mem_of_getElem? (i := 8) rfl) hq
theorem inm_lK {q k : Nat} (hq : inm mdTl q k = false) : inm mdK q k = false := inm_sub (A := mdK) (fun e he => by
  rcases List.mem_cons.mp he with rfl | he
  · exact List.mem_of_getElem? (i := 0) rfl
  rcases List.mem_cons.mp he with rfl | he
  · exact List.mem_of_getElem? (i := 5) rfl
  rcases List.mem_cons.mp he with rfl | he
  · exact List.mem_of_getElem? (i := 6) rfl
  rcases List.mem_singleton.mp he with rfl
  exact List.mem_of_getElem? (i := 7) rfl) hq
theorem tc_trans {d : Nat} {sh : List mE} {I : Nat → Nat → Int32} {L : Nat → Nat → Int64} {R : Nat → Nat → Option Nat} (hw : wOK (mkT vV []) (wE sh R) (sh, I, L, R)) (hf : fresh (sh, I, L, R)) : Tc 92 (d + 2 + (6 * (8 - 0) + 8)) 0 0 [.ref 41] (sh, I, L, R) (fun r w' => (∃ y : Int32, r = some (.int y) ∧ y.toInt = gFl (fun k => (I 42 k).toInt) (I 41 0).toInt.toNat) ∧ fresh w' ∧ wOK (mkT vV []) (wE sh R) w' ∧ ∀ q k, inm mdTl q k = false → w'.2.1 q k = I q k) := by
  have c41 : sh[41]? = some (.inr 5) := hw.1 41 _ rfl
  have c43 : sh[43]? = some (.inl (.int, 241)) := hw.1 43 _ rfl
  have r41_2 : R 41 2 = some 43 := hw.2.1 41 2 _ rfl
  have zm1 : ((-1) : Int32).toInt = (-1) := rfl
  have z0 : (0 : Int32).toInt = 0 := rfl
  refine Tc.of mr_92 rfl (show 1 ≤ mr_92.2.2.2.1 by decide) ?_
  refine XW.fam (S' := (1, [(0, .ref 41)], [.ref 41], (sh, I, L, R))) (M := mr_92) rfl (show mcode 92 0 = some (0, .aload_n 0, 1, 0, 0, 0, _) from rfl) (Or.inl ⟨.ref 41, rfl, rfl⟩) ?_
  refine XW.call (d' := d + 40 + 7) (mc' := 0) (ms' := 0) (av := [.ref 41]) (rest := []) (M := mr_92) (Ma := mr_93) rfl (show mcode 92 1 = some (1, .invokevirtual 32, 3, 93, 0, 0, _) from rfl) rfl (by decide) (by decide) ⟨rfl, 41, _, rfl, c41⟩ rfl rfl (show 0 ≤ 8 by decide) (tc_split (d := d + 40) hw hf) (by omega) (Nat.zero_le _) (Nat.zero_le _) (fun rQ1 wQ1 Q1 => ?_)
  obtain ⟨hrQ1, hfQ1, hwQ1, hkQ1, N, hTQ1⟩ := Q1
  subst hrQ1
  obtain ⟨shQ1, IQ1, LQ1, RQ1⟩ := wQ1
  obtain rfl : sh = shQ1 := hwQ1.2.2.2.1.symm
  obtain rfl : R = RQ1 := hwQ1.2.2.2.2.1.symm
  have hkQ1 : ∀ q k, inm mdK q k = false → IQ1 q k = I q k := hkQ1
  have hTQ1 : tvC IQ1 (tK (fun k => (I 42 k).toInt) (I 41 0).toInt.toNat) (tS (fun k => (I 42 k).toInt) (I 41 0).toInt.toNat) N := hTQ1
  obtain ⟨t0, et0⟩ : ∃ z : Int32, IQ1 43 ((0 : Int32)).toNatClampNeg = z := ⟨_, rfl⟩
  have ht0 : t0.toInt = tK (fun k => (I 42 k).toInt) (I 41 0).toInt.toNat 0 := by rw [← et0]; exact (hTQ1.2.2 0 (Nat.zero_le _)).1
  refine XW.fam (S' := (5, [(0, .ref 41)], [.ref 41], (sh, IQ1, LQ1, R))) (M := mr_92) rfl (show mcode 92 4 = some (4, .aload_n 0, 1, 0, 0, 0, _) from rfl) (Or.inl ⟨.ref 41, rfl, rfl⟩) ?_
  refine XW.fam (S' := (6, [(0, .ref 41)], [.int 0, .ref 41], (sh, IQ1, LQ1, R))) (M := mr_92) rfl (show mcode 92 5 = some (5, .iconst 0, 1, 0, 0, 0, _) from rfl) (Or.inl ⟨.int 0, rfl, rfl⟩) ?_
  obtain ⟨I2, eI2⟩ : ∃ X, X = up2 IQ1 41 6 0 := ⟨_, rfl⟩
  refine XW.fam (S' := (9, [(0, .ref 41)], [], (sh, I2, LQ1, R))) (M := mr_92) rfl (show mcode 92 6 = some (6, .putfield 35, 3, 5, 6, 0, _) from rfl) (Or.inr (Or.inr (Or.inr (Or.inr (Or.inr (Or.inr (Or.inr (Or.inr (Or.inl ⟨_, _, _, rfl, by rw [eI2]; exact stf_I c41 (by decide) (by decide) (by decide), rfl⟩))))))))) ?_
  have hwI2 : wOK (mkT vV []) (wE sh R) (sh, I2, LQ1, R) := by rw [eI2]; exact wOK_u2 (q := 41) (k := 6) (x := 0) wE_put hwQ1 rfl (by show (0 : Int) ≤ _; omega) (by show _ ≤ (240 : Int); omega)
  have hfI2 : fresh (sh, I2, LQ1, R) := by rw [eI2]; exact fresh_I hfQ1 c41
  have v3 : I2 43 (0 : Int32).toNatClampNeg = t0 := by rw [eI2, up2_ne (fun e => by cases e.1)]; exact et0
  have v4 : I2 41 6 = 0 := by rw [eI2]; exact up2_eq
  refine XW.fam (S' := (10, [(0, .ref 41)], [.ref 41], (sh, I2, LQ1, R))) (M := mr_92) rfl (show mcode 92 9 = some (9, .aload_n 0, 1, 0, 0, 0, _) from rfl) (Or.inl ⟨.ref 41, rfl, rfl⟩) ?_
  refine XW.fam (S' := (11, [(0, .ref 41)], [.ref 41, .ref 41], (sh, I2, LQ1, R))) (M := mr_92) rfl (show mcode 92 10 = some (10, .aload_n 0, 1, 0, 0, 0, _) from rfl) (Or.inl ⟨.ref 41, rfl, rfl⟩) ?_
  refine XW.fam (S' := (14, [(0, .ref 41)], [.ref 43, .ref 41], (sh, I2, LQ1, R))) (M := mr_92) rfl (show mcode 92 11 = some (11, .getfield 15, 3, 5, 2, 0, _) from rfl) (Or.inr (Or.inr (Or.inr (Or.inr (Or.inr (Or.inr (Or.inr (Or.inl ⟨_, _, rfl, fl_ld c41 r41_2 (by decide) (by decide), rfl⟩)))))))) ?_
  refine XW.fam (S' := (15, [(0, .ref 41)], [.int 0, .ref 43, .ref 41], (sh, I2, LQ1, R))) (M := mr_92) rfl (show mcode 92 14 = some (14, .iconst 0, 1, 0, 0, 0, _) from rfl) (Or.inl ⟨.int 0, rfl, rfl⟩) ?_
  have hin5 : inR 0 241 = true := inR_of (by omega) (by omega)
  refine XW.fam (S' := (16, [(0, .ref 41)], [.int (I2 43 (0 : Int32).toNatClampNeg), .ref 41], (sh, I2, LQ1, R))) (M := mr_92) rfl (show mcode 92 15 = some (15, .iaload, 1, 0, 0, 0, _) from rfl) (Or.inr (Or.inr (Or.inl ⟨_, lda_i c43 hin5, rfl⟩))) ?_
  rw [v3]
  obtain ⟨I6, eI6⟩ : ∃ X, X = up2 I2 41 7 t0 := ⟨_, rfl⟩
  refine XW.fam (S' := (19, [(0, .ref 41)], [], (sh, I6, LQ1, R))) (M := mr_92) rfl (show mcode 92 16 = some (16, .putfield 38, 3, 5, 7, 0, _) from rfl) (Or.inr (Or.inr (Or.inr (Or.inr (Or.inr (Or.inr (Or.inr (Or.inr (Or.inl ⟨_, _, _, rfl, by rw [eI6]; exact stf_I c41 (by decide) (by decide) (by decide), rfl⟩))))))))) ?_
  have xb := i32b (t0)
  unfold lo32 hi32 at xb
  have hwI6 : wOK (mkT vV []) (wE sh R) (sh, I6, LQ1, R) := by rw [eI6]; exact wOK_u2 (q := 41) (k := 7) (x := t0) wE_put hwI2 rfl (by show ((-2147483648) : Int) ≤ _; omega) (by show _ ≤ (2147483647 : Int); omega)
  have hfI6 : fresh (sh, I6, LQ1, R) := by rw [eI6]; exact fresh_I hfI2 c41
  have v7 : I6 43 (0 : Int32).toNatClampNeg = t0 := by rw [eI6, up2_ne (fun e => by cases e.1)]; exact v3
  have v8 : I6 41 6 = 0 := by rw [eI6, up2_ne (fun e => by cases e.2)]; exact v4
  have v9 : I6 41 7 = t0 := by rw [eI6]; exact up2_eq
  refine XW.fam (S' := (20, [(0, .ref 41)], [.ref 41], (sh, I6, LQ1, R))) (M := mr_92) rfl (show mcode 92 19 = some (19, .aload_n 0, 1, 0, 0, 0, _) from rfl) (Or.inl ⟨.ref 41, rfl, rfl⟩) ?_
  refine XW.fam (S' := (21, [(0, .ref 41)], [.int 0, .ref 41], (sh, I6, LQ1, R))) (M := mr_92) rfl (show mcode 92 20 = some (20, .iconst 0, 1, 0, 0, 0, _) from rfl) (Or.inl ⟨.int 0, rfl, rfl⟩) ?_
  obtain ⟨I10, eI10⟩ : ∃ X, X = up2 I6 41 10 0 := ⟨_, rfl⟩
  refine XW.fam (S' := (24, [(0, .ref 41)], [], (sh, I10, LQ1, R))) (M := mr_92) rfl (show mcode 92 21 = some (21, .putfield 41, 3, 5, 10, 0, _) from rfl) (Or.inr (Or.inr (Or.inr (Or.inr (Or.inr (Or.inr (Or.inr (Or.inr (Or.inl ⟨_, _, _, rfl, by rw [eI10]; exact stf_I c41 (by decide) (by decide) (by decide), rfl⟩))))))))) ?_
  have hwI10 : wOK (mkT vV []) (wE sh R) (sh, I10, LQ1, R) := by rw [eI10]; exact wOK_u2 (q := 41) (k := 10) (x := 0) wE_put hwI6 rfl (by show (0 : Int) ≤ _; omega) (by show _ ≤ (240 : Int); omega)
  have hfI10 : fresh (sh, I10, LQ1, R) := by rw [eI10]; exact fresh_I hfI6 c41
  have v11 : I10 43 (0 : Int32).toNatClampNeg = t0 := by rw [eI10, up2_ne (fun e => by cases e.1)]; exact v7
  have v12 : I10 41 6 = 0 := by rw [eI10, up2_ne (fun e => by cases e.2)]; exact v8
  have v13 : I10 41 7 = t0 := by rw [eI10, up2_ne (fun e => by cases e.2)]; exact v9
  have v14 : I10 41 10 = 0 := by rw [eI10]; exact up2_eq
  refine XW.fam (S' := (25, [(0, .ref 41)], [.ref 41], (sh, I10, LQ1, R))) (M := mr_92) rfl (show mcode 92 24 = some (24, .aload_n 0, 1, 0, 0, 0, _) from rfl) (Or.inl ⟨.ref 41, rfl, rfl⟩) ?_
  refine XW.fam (S' := (26, [(0, .ref 41)], [.int (-1), .ref 41], (sh, I10, LQ1, R))) (M := mr_92) rfl (show mcode 92 25 = some (25, .iconst (-1), 1, 0, 0, 0, _) from rfl) (Or.inl ⟨.int (-1), rfl, rfl⟩) ?_
  obtain ⟨I15, eI15⟩ : ∃ X, X = up2 I10 41 8 (-1) := ⟨_, rfl⟩
  refine XW.fam (S' := (29, [(0, .ref 41)], [], (sh, I15, LQ1, R))) (M := mr_92) rfl (show mcode 92 26 = some (26, .putfield 44, 3, 5, 8, 0, _) from rfl) (Or.inr (Or.inr (Or.inr (Or.inr (Or.inr (Or.inr (Or.inr (Or.inr (Or.inl ⟨_, _, _, rfl, by rw [eI15]; exact stf_I c41 (by decide) (by decide) (by decide), rfl⟩))))))))) ?_
  have hwI15 : wOK (mkT vV []) (wE sh R) (sh, I15, LQ1, R) := by rw [eI15]; exact wOK_u2 (q := 41) (k := 8) (x := (-1)) wE_put hwI10 rfl (by show ((-1) : Int) ≤ _; omega) (by show _ ≤ (240 : Int); omega)
  have hfI15 : fresh (sh, I15, LQ1, R) := by rw [eI15]; exact fresh_I hfI10 c41
  have v16 : I15 43 (0 : Int32).toNatClampNeg = t0 := by rw [eI15, up2_ne (fun e => by cases e.1)]; exact v11
  have v17 : I15 41 6 = 0 := by rw [eI15, up2_ne (fun e => by cases e.2)]; exact v12
  have v18 : I15 41 7 = t0 := by rw [eI15, up2_ne (fun e => by cases e.2)]; exact v13
  have v19 : I15 41 10 = 0 := by rw [eI15, up2_ne (fun e => by cases e.2)]; exact v14
  have v20 : I15 41 8 = (-1) := by rw [eI15]; exact up2_eq
  refine XW.fam (S' := (30, [(0, .ref 41)], [.ref 41], (sh, I15, LQ1, R))) (M := mr_92) rfl (show mcode 92 29 = some (29, .aload_n 0, 1, 0, 0, 0, _) from rfl) (Or.inl ⟨.ref 41, rfl, rfl⟩) ?_
  have n41 : ∀ q k, ¬ q = 41 → I15 q k = IQ1 q k := by
    intro q k a1
    rw [eI15, up2_ne (fun e => a1 e.1), eI10, up2_ne (fun e => a1 e.1), eI6, up2_ne (fun e => a1 e.1), eI2, up2_ne (fun e => a1 e.1)]
  have n5 : I15 41 5 = IQ1 41 5 := by rw [eI15, up2_ne (by decide), eI10, up2_ne (by decide), eI6, up2_ne (by decide), eI2, up2_ne (by decide)]
  have hT : tvC I15 (tK (fun k => (I 42 k).toInt) (I 41 0).toInt.toNat) (tS (fun k => (I 42 k).toInt) (I 41 0).toInt.toNat) N := by
    refine ⟨⟨by rw [n5]; exact hTQ1.1.1, hTQ1.1.2⟩, hTQ1.2.1, fun i hi => ?_⟩
    rw [n41 43 i (by decide), n41 44 i (by decide)]
    exact hTQ1.2.2 i hi
  have hst : stt (tK (fun k => (I 42 k).toInt) (I 41 0).toInt.toNat) N I15 0 := ⟨by rw [eI15, up2_ne (by decide), eI10, up2_ne (by decide), eI6, up2_ne (by decide), eI2, up2_eq]; rfl, by rw [eI15, up2_ne (by decide), eI10, up2_ne (by decide), eI6, up2_eq]; exact ht0, by rw [eI15, up2_eq]; rfl, Nat.zero_le _⟩
  have hga := gram_all (d := d) (sh := sh) (J := I15) (R := R) (K := tK (fun k => (I 42 k).toInt) (I 41 0).toInt.toNat) (S := tS (fun k => (I 42 k).toInt) (I 41 0).toInt.toNat) (N := N) hT 3000
  refine XW.call (d' := (d + 2 + (6 * (8 - 0) + 7))) (mc' := 0) (ms' := 0) (av := [.ref 41]) (rest := []) (M := mr_92) (Ma := mr_100) rfl (show mcode 92 30 = some (30, .invokevirtual 47, 3, 100, 0, 0, _) from rfl) rfl (by decide) (by decide) ⟨rfl, 41, _, rfl, c41⟩ rfl rfl (show 0 ≤ 8 by decide) (tc_line1 (d := d) (F := 3000) (i := 0) (J := I15) hT (by decide) hga.2.2.2.2.2 hga.2.2.1 hwI15 hfI15 (fun _ _ _ => rfl) hst) (by omega) (Nat.zero_le _) (Nat.zero_le _) (fun rQ21 wQ21 Q21 => ?_)
  obtain ⟨hrQ21, hfQ21, hwQ21, hkQ21, hsQ21⟩ := Q21
  subst hrQ21
  obtain ⟨shQ21, IQ21, LQ21, RQ21⟩ := wQ21
  obtain rfl : sh = shQ21 := hwQ21.2.2.2.1.symm
  obtain rfl : R = RQ21 := hwQ21.2.2.2.2.1.symm
  have hkQ21 : ∀ q k, inm mdT q k = false → IQ21 q k = I15 q k := hkQ21
  refine XW.fam (S' := (34, [(0, .ref 41)], [.int 0], (sh, IQ21, LQ21, R))) (M := mr_92) rfl (show mcode 92 33 = some (33, .iconst 0, 1, 0, 0, 0, _) from rfl) (Or.inl ⟨.int 0, rfl, rfl⟩) ?_
  refine XW.fam (S' := (35, [(1, .int 0), (0, .ref 41)], [], (sh, IQ21, LQ21, R))) (M := mr_92) rfl (show mcode 92 34 = some (34, .istore_n 1, 1, 0, 0, 0, _) from rfl) (Or.inr (Or.inr (Or.inr (Or.inr (Or.inr (Or.inr (Or.inl ⟨_, [], _, rfl, rfl, rfl⟩))))))) ?_
  refine XW.sub (ls' := [(1, .int 0), (0, .ref 41)]) (List.forall_mem_cons.mpr ⟨List.mem_of_getElem? (i := 0) rfl, (List.forall_mem_cons.mpr ⟨List.mem_of_getElem? (i := 1) rfl, (fun _ h => absurd h List.not_mem_nil)⟩)⟩) ?_
  have hgo := gLn_ok (F := 3000) (i := 0) hT.2.1 (Nat.zero_le _)
  refine XW.imp (tr_lp (d := d) hT (by decide) hga.2.2.2.2.2 hga.2.2.1 299 0 _ ⟨hfQ21, hwQ21, hkQ21, hsQ21⟩ hgo.2.1 ⟨by decide, by have z9 : (0 : Int32).toInt = 0 := rfl; omega⟩ (by have := hT.1.2; omega)) (fun r w' q9 => ?_)
  obtain ⟨⟨y, e1, e2⟩, e3, e4, e5⟩ := q9
  refine ⟨⟨y, e1, e2.trans ?_⟩, e3, e4, fun q k hq => ?_⟩
  · rfl
  · rw [e5 q k (inm_lT hq)]
    rw [eI15, up2_ne (fun e => by rw [e.1, e.2] at hq; cases hq), eI10, up2_ne (fun e => by rw [e.1, e.2] at hq; cases hq), eI6, up2_ne (fun e => by rw [e.1, e.2] at hq; cases hq), eI2, up2_ne (fun e => by rw [e.1, e.2] at hq; cases hq)]
    exact hkQ1 q k (inm_lK hq)
