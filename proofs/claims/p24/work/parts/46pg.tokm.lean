/-! ===== nextToken of the model (wip/genmtok.py) ===== -/
def mdNx : aM := [(94, some 46), (94, some 47), (94, some 48), (94, some 49)]
/-- the token that begins at p is looked at -/
def mst (b : Nat → Int) (n : Nat) (I : Nat → Nat → Int32) (p : Nat) : Prop := (I 94 46).toInt = (p : Int) ∧ (I 94 47).toInt = (tkE b n p : Int) ∧ (I 94 48).toInt = mtok b n p
theorem tc_isLt {d : Nat} {w : mW} {x : Int32} : Tc 279 (d + 1) 0 0 [.int x] w (fun r w' => ((r = some (.int 0) ∧ ¬ (97 ≤ x.toInt ∧ x.toInt ≤ 122)) ∨ (r = some (.int 1) ∧ 97 ≤ x.toInt ∧ x.toInt ≤ 122)) ∧ w' = w) := by
  have z97 : (97 : Int32).toInt = 97 := rfl
  have z122 : (122 : Int32).toInt = 122 := rfl
  refine Tc.of mr_279 rfl (show 1 ≤ mr_279.2.2.2.1 by decide) ?_
  refine XW.fam (S' := (1, [(0, .int x)], [.int x], w)) (M := mr_279) rfl (show mcode 279 0 = some (0, .iload_n 0, 1, 0, 0, 0, _) from rfl) (Or.inl ⟨.int x, rfl, rfl⟩) ?_
  refine XW.fam (S' := (3, [(0, .int x)], [.int 97, .int x], w)) (M := mr_279) rfl (show mcode 279 1 = some (1, .bipush 97, 2, 0, 0, 0, _) from rfl) (Or.inl ⟨.int 97, rfl, rfl⟩) ?_
  refine XW.fam (S' := (5, [(0, .int x)], [.int 122, .int 97, .int x], w)) (M := mr_279) rfl (show mcode 279 3 = some (3, .bipush 122, 2, 0, 0, 0, _) from rfl) (Or.inl ⟨.int 122, rfl, rfl⟩) ?_
  refine XW.call (d' := d) (mc' := 0) (ms' := 0) (av := [.int x, .int 97, .int 122]) (rest := []) (M := mr_279) (Ma := mr_236) rfl (show mcode 279 5 = some (5, .invokestatic 254, 3, 236, 0, 0, _) from rfl) rfl (by decide) (by decide) rfl rfl rfl (show 0 ≤ 8 by decide) (tc_inM) (by omega) (Nat.zero_le _) (Nat.zero_le _) (fun rQ1 wQ1 Q1 => ?_)
  obtain ⟨hQ1, rfl⟩ := Q1
  rcases hQ1 with ⟨rfl, gQ1⟩ | ⟨rfl, gQ1⟩
  · skip
    refine XW.ret (r := some (.int 0)) ⟨⟨.boolean, rfl, rfl⟩, by decide +kernel⟩ ?_
    exact ⟨Or.inl ⟨rfl, fun q => by omega⟩, rfl⟩
  · skip
    refine XW.ret (r := some (.int 1)) ⟨⟨.boolean, rfl, rfl⟩, by decide +kernel⟩ ?_
    exact ⟨Or.inr ⟨rfl, by omega⟩, rfl⟩
theorem tc_isDg {d : Nat} {w : mW} {x : Int32} : Tc 280 (d + 1) 0 0 [.int x] w (fun r w' => ((r = some (.int 0) ∧ ¬ (48 ≤ x.toInt ∧ x.toInt ≤ 57)) ∨ (r = some (.int 1) ∧ 48 ≤ x.toInt ∧ x.toInt ≤ 57)) ∧ w' = w) := by
  have z48 : (48 : Int32).toInt = 48 := rfl
  have z57 : (57 : Int32).toInt = 57 := rfl
  refine Tc.of mr_280 rfl (show 1 ≤ mr_280.2.2.2.1 by decide) ?_
  refine XW.fam (S' := (1, [(0, .int x)], [.int x], w)) (M := mr_280) rfl (show mcode 280 0 = some (0, .iload_n 0, 1, 0, 0, 0, _) from rfl) (Or.inl ⟨.int x, rfl, rfl⟩) ?_
  refine XW.fam (S' := (3, [(0, .int x)], [.int 48, .int x], w)) (M := mr_280) rfl (show mcode 280 1 = some (1, .bipush 48, 2, 0, 0, 0, _) from rfl) (Or.inl ⟨.int 48, rfl, rfl⟩) ?_
  refine XW.fam (S' := (5, [(0, .int x)], [.int 57, .int 48, .int x], w)) (M := mr_280) rfl (show mcode 280 3 = some (3, .bipush 57, 2, 0, 0, 0, _) from rfl) (Or.inl ⟨.int 57, rfl, rfl⟩) ?_
  refine XW.call (d' := d) (mc' := 0) (ms' := 0) (av := [.int x, .int 48, .int 57]) (rest := []) (M := mr_280) (Ma := mr_236) rfl (show mcode 280 5 = some (5, .invokestatic 254, 3, 236, 0, 0, _) from rfl) rfl (by decide) (by decide) rfl rfl rfl (show 0 ≤ 8 by decide) (tc_inM) (by omega) (Nat.zero_le _) (Nat.zero_le _) (fun rQ1 wQ1 Q1 => ?_)
  obtain ⟨hQ1, rfl⟩ := Q1
  rcases hQ1 with ⟨rfl, gQ1⟩ | ⟨rfl, gQ1⟩
  · skip
    refine XW.ret (r := some (.int 0)) ⟨⟨.boolean, rfl, rfl⟩, by decide +kernel⟩ ?_
    exact ⟨Or.inl ⟨rfl, fun q => by omega⟩, rfl⟩
  · skip
    refine XW.ret (r := some (.int 1)) ⟨⟨.boolean, rfl, rfl⟩, by decide +kernel⟩ ?_
    exact ⟨Or.inr ⟨rfl, by omega⟩, rfl⟩
theorem nx_sp {d u : Nat} {sh : List mE} {J : Nat → Nat → Int32} {L : Nat → Nat → Int64} {R : Nat → Nat → Option Nat} {Q : Option Value → mW → Prop} : ∀ (z : Nat) {I : Nat → Nat → Int32} (fv : Int32), 0 ≤ fv.toInt → fv.toInt ≤ (J 94 34).toInt → (J 94 34).toInt - fv.toInt < z → wOK (mkT vV []) (wE sh R) (sh, I, L, R) → fresh (sh, I, L, R) → (∀ q k, ¬ (q = 94 ∧ k = 46) → I q k = J q k) → I 94 46 = fv → tE (cS (fun k => (J 122 k).toInt)) (J 94 34).toInt.toNat fv.toInt.toNat = tE (cS (fun k => (J 122 k).toInt)) (J 94 34).toInt.toNat u → (∀ {I : Nat → Nat → Int32}, wOK (mkT vV []) (wE sh R) (sh, I, L, R) → fresh (sh, I, L, R) → (∀ q k, ¬ (q = 94 ∧ k = 46) → I q k = J q k) → (I 94 46).toInt = (tE (cS (fun k => (J 122 k).toInt)) (J 94 34).toInt.toNat u : Int) → XW 278 mr_278 none (d + 2) 0 0 Q (46, [(0, .ref 94)], [], (sh, I, L, R))) → XW 278 mr_278 none (d + 2) 0 0 Q (8, [(0, .ref 94)], [], (sh, I, L, R)) := by
  have z1 : (1 : Int32).toInt = 1 := rfl
  have z32 : (32 : Int32).toInt = 32 := rfl
  intro z
  induction z with
  | zero =>
    intro I fv h1 h2 hz
    exfalso
    omega
  | succ z ih =>
    intro I fv h1 h2 hz hw hf hkp efv hq K
    have hl0 : 0 ≤ (I 94 34).toInt ∧ (I 94 34).toInt ≤ 240 := hw.2.2.1 94 34
    have k34 : I 94 34 = J 94 34 := hkp 94 34 (by decide)
    rw [k34] at hl0
    obtain ⟨tp, etp⟩ : ∃ z : Int32, I 94 34 = z := ⟨_, rfl⟩
    have htp : tp.toInt = (J 94 34).toInt := by rw [← etp, k34]
    obtain ⟨x, ex⟩ : ∃ z : Int32, I 122 (fv).toNatClampNeg = z := ⟨_, rfl⟩
    have hx : x.toInt = (J 122 fv.toInt.toNat).toInt := by rw [← ex, hkp 122 _ (fun e => by cases e.1)]; rfl
    have c94 : sh[94]? = some (.inr 12) := hw.1 94 _ rfl
    have c122 : sh[122]? = some (.inl (.byte, 240)) := hw.1 122 _ rfl
    have r94_33 : R 94 33 = some 122 := hw.2.1 94 33 _ rfl
    refine XW.fam (S' := (9, [(0, .ref 94)], [.ref 94], (sh, I, L, R))) (M := mr_278) rfl (show mcode 278 8 = some (8, .aload_n 0, 1, 0, 0, 0, _) from rfl) (Or.inl ⟨.ref 94, rfl, rfl⟩) ?_
    refine XW.fam (S' := (12, [(0, .ref 94)], [.int (I 94 46)], (sh, I, L, R))) (M := mr_278) rfl (show mcode 278 9 = some (9, .getfield 351, 3, 12, 46, 0, _) from rfl) (Or.inr (Or.inr (Or.inr (Or.inr (Or.inr (Or.inr (Or.inr (Or.inl ⟨_, _, rfl, fl_ldI c94 (by decide) (by decide), rfl⟩)))))))) ?_
    rw [efv]
    refine XW.fam (S' := (13, [(0, .ref 94)], [.ref 94, .int fv], (sh, I, L, R))) (M := mr_278) rfl (show mcode 278 12 = some (12, .aload_n 0, 1, 0, 0, 0, _) from rfl) (Or.inl ⟨.ref 94, rfl, rfl⟩) ?_
    refine XW.fam (S' := (16, [(0, .ref 94)], [.int (I 94 34), .int fv], (sh, I, L, R))) (M := mr_278) rfl (show mcode 278 13 = some (13, .getfield 341, 3, 12, 34, 0, _) from rfl) (Or.inr (Or.inr (Or.inr (Or.inr (Or.inr (Or.inr (Or.inr (Or.inl ⟨_, _, rfl, fl_ldI c94 (by decide) (by decide), rfl⟩)))))))) ?_
    rw [etp]
    cases k1 : bcmp .ge fv tp with
    | true =>
      have gk1 : (tp).toInt ≤ (fv).toInt := icT (c := .ge) (a := (fv).toInt) (b := (tp).toInt) rfl rfl k1
      refine XW.fam (S' := (46, [(0, .ref 94)], [], (sh, I, L, R))) (M := mr_278) rfl (show mcode 278 16 = some (16, .if_icmp .ge 30, 3, 46, 0, 0, _) from rfl) (Or.inr (Or.inl ⟨46, [], by simp [brn, k1], rfl⟩)) ?_
      have ep : fv.toInt.toNat = tE (cS (fun k => (J 122 k).toInt)) (J 94 34).toInt.toNat u := tE_same hq (fun q => by
        have q1 := q.1
        have q2 : (J 122 fv.toInt.toNat).toInt = 32 := of_decide_eq_true q.2
        omega)
      exact K hw hf hkp (by rw [efv]; omega)
    | false =>
      have gk1 : ¬ ((tp).toInt ≤ (fv).toInt) := icF (c := .ge) (a := (fv).toInt) (b := (tp).toInt) rfl rfl k1
      refine XW.fam (S' := (19, [(0, .ref 94)], [], (sh, I, L, R))) (M := mr_278) rfl (show mcode 278 16 = some (16, .if_icmp .ge 30, 3, 46, 0, 0, _) from rfl) (Or.inr (Or.inl ⟨19, [], by simp [brn, k1], rfl⟩)) ?_
      refine XW.fam (S' := (20, [(0, .ref 94)], [.ref 94], (sh, I, L, R))) (M := mr_278) rfl (show mcode 278 19 = some (19, .aload_n 0, 1, 0, 0, 0, _) from rfl) (Or.inl ⟨.ref 94, rfl, rfl⟩) ?_
      refine XW.fam (S' := (23, [(0, .ref 94)], [.ref 122], (sh, I, L, R))) (M := mr_278) rfl (show mcode 278 20 = some (20, .getfield 96, 3, 12, 33, 0, _) from rfl) (Or.inr (Or.inr (Or.inr (Or.inr (Or.inr (Or.inr (Or.inr (Or.inl ⟨_, _, rfl, fl_ld c94 r94_33 (by decide) (by decide), rfl⟩)))))))) ?_
      refine XW.fam (S' := (24, [(0, .ref 94)], [.ref 94, .ref 122], (sh, I, L, R))) (M := mr_278) rfl (show mcode 278 23 = some (23, .aload_n 0, 1, 0, 0, 0, _) from rfl) (Or.inl ⟨.ref 94, rfl, rfl⟩) ?_
      refine XW.fam (S' := (27, [(0, .ref 94)], [.int (I 94 46), .ref 122], (sh, I, L, R))) (M := mr_278) rfl (show mcode 278 24 = some (24, .getfield 351, 3, 12, 46, 0, _) from rfl) (Or.inr (Or.inr (Or.inr (Or.inr (Or.inr (Or.inr (Or.inr (Or.inl ⟨_, _, rfl, fl_ldI c94 (by decide) (by decide), rfl⟩)))))))) ?_
      rw [efv]
      have hin2 : inR fv 240 = true := inR_of (by omega) (by omega)
      refine XW.fam (S' := (28, [(0, .ref 94)], [.int (I 122 (fv).toNatClampNeg)], (sh, I, L, R))) (M := mr_278) rfl (show mcode 278 27 = some (27, .baload, 1, 0, 0, 0, _) from rfl) (Or.inr (Or.inr (Or.inl ⟨_, lda_y c122 hin2, rfl⟩))) ?_
      rw [ex]
      refine XW.fam (S' := (30, [(0, .ref 94)], [.int 32, .int x], (sh, I, L, R))) (M := mr_278) rfl (show mcode 278 28 = some (28, .bipush 32, 2, 0, 0, 0, _) from rfl) (Or.inl ⟨.int 32, rfl, rfl⟩) ?_
      cases k3 : bcmp .ne x 32 with
      | true =>
        have gk3 : ¬ (x).toInt = 32 := icT (c := .ne) (a := (x).toInt) (b := 32) rfl (by decide) k3
        refine XW.fam (S' := (46, [(0, .ref 94)], [], (sh, I, L, R))) (M := mr_278) rfl (show mcode 278 30 = some (30, .if_icmp .ne 16, 3, 46, 0, 0, _) from rfl) (Or.inr (Or.inl ⟨46, [], by simp [brn, k3], rfl⟩)) ?_
        have ep : fv.toInt.toNat = tE (cS (fun k => (J 122 k).toInt)) (J 94 34).toInt.toNat u := tE_same hq (fun q => by
          have q1 := q.1
          have q2 : (J 122 fv.toInt.toNat).toInt = 32 := of_decide_eq_true q.2
          omega)
        exact K hw hf hkp (by rw [efv]; omega)
      | false =>
        have gk3 : ¬ (¬ (x).toInt = 32) := icF (c := .ne) (a := (x).toInt) (b := 32) rfl (by decide) k3
        refine XW.fam (S' := (33, [(0, .ref 94)], [], (sh, I, L, R))) (M := mr_278) rfl (show mcode 278 30 = some (30, .if_icmp .ne 16, 3, 46, 0, 0, _) from rfl) (Or.inr (Or.inl ⟨33, [], by simp [brn, k3], rfl⟩)) ?_
        refine XW.fam (S' := (34, [(0, .ref 94)], [.ref 94], (sh, I, L, R))) (M := mr_278) rfl (show mcode 278 33 = some (33, .aload_n 0, 1, 0, 0, 0, _) from rfl) (Or.inl ⟨.ref 94, rfl, rfl⟩) ?_
        refine XW.fam (S' := (35, [(0, .ref 94)], [.ref 94, .ref 94], (sh, I, L, R))) (M := mr_278) rfl (show mcode 278 34 = some (34, .dup, 1, 0, 0, 0, _) from rfl) (Or.inr (Or.inr (Or.inr (Or.inr (Or.inr (Or.inl ⟨_, rfl, rfl⟩)))))) ?_
        refine XW.fam (S' := (38, [(0, .ref 94)], [.int (I 94 46), .ref 94], (sh, I, L, R))) (M := mr_278) rfl (show mcode 278 35 = some (35, .getfield 351, 3, 12, 46, 0, _) from rfl) (Or.inr (Or.inr (Or.inr (Or.inr (Or.inr (Or.inr (Or.inr (Or.inl ⟨_, _, rfl, fl_ldI c94 (by decide) (by decide), rfl⟩)))))))) ?_
        rw [efv]
        refine XW.fam (S' := (39, [(0, .ref 94)], [.int 1, .int fv, .ref 94], (sh, I, L, R))) (M := mr_278) rfl (show mcode 278 38 = some (38, .iconst 1, 1, 0, 0, 0, _) from rfl) (Or.inl ⟨.int 1, rfl, rfl⟩) ?_
        refine XW.fam (S' := (40, [(0, .ref 94)], [.int (fv + 1), .ref 94], (sh, I, L, R))) (M := mr_278) rfl (show mcode 278 39 = some (39, .iadd, 1, 0, 0, 0, _) from rfl) (Or.inr (Or.inr (Or.inr (Or.inr (Or.inr (Or.inl ⟨_, rfl, rfl⟩)))))) ?_
        obtain ⟨I4, eI4⟩ : ∃ X, X = up2 I 94 46 (fv + 1) := ⟨_, rfl⟩
        refine XW.fam (S' := (43, [(0, .ref 94)], [], (sh, I4, L, R))) (M := mr_278) rfl (show mcode 278 40 = some (40, .putfield 351, 3, 12, 46, 0, _) from rfl) (Or.inr (Or.inr (Or.inr (Or.inr (Or.inr (Or.inr (Or.inr (Or.inr (Or.inl ⟨_, _, _, rfl, by rw [eI4]; exact stf_I c94 (by decide) (by decide) (by decide), rfl⟩))))))))) ?_
        have xi := inc32 (m := fv) (by omega) (by omega)
        have hwI4 : wOK (mkT vV []) (wE sh R) (sh, I4, L, R) := by rw [eI4]; exact wOK_u2 (q := 94) (k := 46) (x := (fv + 1)) wE_put hw rfl (by show (0 : Int) ≤ _; omega) (by show _ ≤ (240 : Int); omega)
        have hfI4 : fresh (sh, I4, L, R) := by rw [eI4]; exact fresh_I hf c94
        have v6 : I4 94 34 = tp := by rw [eI4, up2_ne (fun e => by cases e.2)]; exact etp
        have v7 : I4 122 (fv).toNatClampNeg = x := by rw [eI4, up2_ne (fun e => by cases e.1)]; exact ex
        have v8 : I4 94 46 = (fv + 1) := by rw [eI4]; exact up2_eq
        refine XW.fam (S' := (8, [(0, .ref 94)], [], (sh, I4, L, R))) (M := mr_278) rfl (show mcode 278 43 = some (43, .goto (-35), 3, 8, 0, 0, _) from rfl) (Or.inr (Or.inl ⟨8, [], rfl, rfl⟩)) ?_
        have en1 : (fv + 1).toInt.toNat = fv.toInt.toNat + 1 := by omega
        have hyy : cS (fun k => (J 122 k).toInt) fv.toInt.toNat = true := decide_eq_true (show (J 122 fv.toInt.toNat).toInt = 32 by omega)
        refine ih (fv + 1) (by omega) (by omega) (by omega) hwI4 hfI4 (fun q k a1 => by rw [eI4, up2_ne a1]; exact hkp q k a1) v8 ?_ K
        rw [en1, ← tE_go (by omega) hyy]
        exact hq
theorem nx_lt {d u : Nat} {sh : List mE} {J : Nat → Nat → Int32} {L : Nat → Nat → Int64} {R : Nat → Nat → Option Nat} {Q : Option Value → mW → Prop} : ∀ (z : Nat) {I : Nat → Nat → Int32} (fv : Int32), 0 ≤ fv.toInt → fv.toInt ≤ (J 94 34).toInt → (J 94 34).toInt - fv.toInt < z → wOK (mkT vV []) (wE sh R) (sh, I, L, R) → fresh (sh, I, L, R) → (∀ q k, ¬ (q = 94 ∧ k = 47) → I q k = J q k) → I 94 47 = fv → tE (cL (fun k => (J 122 k).toInt)) (J 94 34).toInt.toNat fv.toInt.toNat = tE (cL (fun k => (J 122 k).toInt)) (J 94 34).toInt.toNat u → (∀ {I : Nat → Nat → Int32}, wOK (mkT vV []) (wE sh R) (sh, I, L, R) → fresh (sh, I, L, R) → (∀ q k, ¬ (q = 94 ∧ k = 47) → I q k = J q k) → (I 94 47).toInt = (tE (cL (fun k => (J 122 k).toInt)) (J 94 34).toInt.toNat u : Int) → XW 278 mr_278 none (d + 2) 0 0 Q (125, [(0, .ref 94)], [], (sh, I, L, R))) → XW 278 mr_278 none (d + 2) 0 0 Q (86, [(0, .ref 94)], [], (sh, I, L, R)) := by
  have z1 : (1 : Int32).toInt = 1 := rfl
  intro z
  induction z with
  | zero =>
    intro I fv h1 h2 hz
    exfalso
    omega
  | succ z ih =>
    intro I fv h1 h2 hz hw hf hkp efv hq K
    have hl0 : 0 ≤ (I 94 34).toInt ∧ (I 94 34).toInt ≤ 240 := hw.2.2.1 94 34
    have k34 : I 94 34 = J 94 34 := hkp 94 34 (by decide)
    rw [k34] at hl0
    obtain ⟨tp, etp⟩ : ∃ z : Int32, I 94 34 = z := ⟨_, rfl⟩
    have htp : tp.toInt = (J 94 34).toInt := by rw [← etp, k34]
    obtain ⟨x, ex⟩ : ∃ z : Int32, I 122 (fv).toNatClampNeg = z := ⟨_, rfl⟩
    have hx : x.toInt = (J 122 fv.toInt.toNat).toInt := by rw [← ex, hkp 122 _ (fun e => by cases e.1)]; rfl
    have c94 : sh[94]? = some (.inr 12) := hw.1 94 _ rfl
    have c122 : sh[122]? = some (.inl (.byte, 240)) := hw.1 122 _ rfl
    have r94_33 : R 94 33 = some 122 := hw.2.1 94 33 _ rfl
    refine XW.fam (S' := (87, [(0, .ref 94)], [.ref 94], (sh, I, L, R))) (M := mr_278) rfl (show mcode 278 86 = some (86, .aload_n 0, 1, 0, 0, 0, _) from rfl) (Or.inl ⟨.ref 94, rfl, rfl⟩) ?_
    refine XW.fam (S' := (90, [(0, .ref 94)], [.int (I 94 47)], (sh, I, L, R))) (M := mr_278) rfl (show mcode 278 87 = some (87, .getfield 348, 3, 12, 47, 0, _) from rfl) (Or.inr (Or.inr (Or.inr (Or.inr (Or.inr (Or.inr (Or.inr (Or.inl ⟨_, _, rfl, fl_ldI c94 (by decide) (by decide), rfl⟩)))))))) ?_
    rw [efv]
    refine XW.fam (S' := (91, [(0, .ref 94)], [.ref 94, .int fv], (sh, I, L, R))) (M := mr_278) rfl (show mcode 278 90 = some (90, .aload_n 0, 1, 0, 0, 0, _) from rfl) (Or.inl ⟨.ref 94, rfl, rfl⟩) ?_
    refine XW.fam (S' := (94, [(0, .ref 94)], [.int (I 94 34), .int fv], (sh, I, L, R))) (M := mr_278) rfl (show mcode 278 91 = some (91, .getfield 341, 3, 12, 34, 0, _) from rfl) (Or.inr (Or.inr (Or.inr (Or.inr (Or.inr (Or.inr (Or.inr (Or.inl ⟨_, _, rfl, fl_ldI c94 (by decide) (by decide), rfl⟩)))))))) ?_
    rw [etp]
    cases k1 : bcmp .ge fv tp with
    | true =>
      have gk1 : (tp).toInt ≤ (fv).toInt := icT (c := .ge) (a := (fv).toInt) (b := (tp).toInt) rfl rfl k1
      refine XW.fam (S' := (125, [(0, .ref 94)], [], (sh, I, L, R))) (M := mr_278) rfl (show mcode 278 94 = some (94, .if_icmp .ge 31, 3, 125, 0, 0, _) from rfl) (Or.inr (Or.inl ⟨125, [], by simp [brn, k1], rfl⟩)) ?_
      have ep : fv.toInt.toNat = tE (cL (fun k => (J 122 k).toInt)) (J 94 34).toInt.toNat u := tE_same hq (fun q => by
        have q1 := q.1
        have q2 : 97 ≤ (J 122 fv.toInt.toNat).toInt ∧ (J 122 fv.toInt.toNat).toInt ≤ 122 := tL_iff.mp q.2
        omega)
      exact K hw hf hkp (by rw [efv]; omega)
    | false =>
      have gk1 : ¬ ((tp).toInt ≤ (fv).toInt) := icF (c := .ge) (a := (fv).toInt) (b := (tp).toInt) rfl rfl k1
      refine XW.fam (S' := (97, [(0, .ref 94)], [], (sh, I, L, R))) (M := mr_278) rfl (show mcode 278 94 = some (94, .if_icmp .ge 31, 3, 125, 0, 0, _) from rfl) (Or.inr (Or.inl ⟨97, [], by simp [brn, k1], rfl⟩)) ?_
      refine XW.fam (S' := (98, [(0, .ref 94)], [.ref 94], (sh, I, L, R))) (M := mr_278) rfl (show mcode 278 97 = some (97, .aload_n 0, 1, 0, 0, 0, _) from rfl) (Or.inl ⟨.ref 94, rfl, rfl⟩) ?_
      refine XW.fam (S' := (101, [(0, .ref 94)], [.ref 122], (sh, I, L, R))) (M := mr_278) rfl (show mcode 278 98 = some (98, .getfield 96, 3, 12, 33, 0, _) from rfl) (Or.inr (Or.inr (Or.inr (Or.inr (Or.inr (Or.inr (Or.inr (Or.inl ⟨_, _, rfl, fl_ld c94 r94_33 (by decide) (by decide), rfl⟩)))))))) ?_
      refine XW.fam (S' := (102, [(0, .ref 94)], [.ref 94, .ref 122], (sh, I, L, R))) (M := mr_278) rfl (show mcode 278 101 = some (101, .aload_n 0, 1, 0, 0, 0, _) from rfl) (Or.inl ⟨.ref 94, rfl, rfl⟩) ?_
      refine XW.fam (S' := (105, [(0, .ref 94)], [.int (I 94 47), .ref 122], (sh, I, L, R))) (M := mr_278) rfl (show mcode 278 102 = some (102, .getfield 348, 3, 12, 47, 0, _) from rfl) (Or.inr (Or.inr (Or.inr (Or.inr (Or.inr (Or.inr (Or.inr (Or.inl ⟨_, _, rfl, fl_ldI c94 (by decide) (by decide), rfl⟩)))))))) ?_
      rw [efv]
      have hin2 : inR fv 240 = true := inR_of (by omega) (by omega)
      refine XW.fam (S' := (106, [(0, .ref 94)], [.int (I 122 (fv).toNatClampNeg)], (sh, I, L, R))) (M := mr_278) rfl (show mcode 278 105 = some (105, .baload, 1, 0, 0, 0, _) from rfl) (Or.inr (Or.inr (Or.inl ⟨_, lda_y c122 hin2, rfl⟩))) ?_
      rw [ex]
      refine XW.call (d' := d + 1) (mc' := 0) (ms' := 0) (av := [.int x]) (rest := []) (M := mr_278) (Ma := mr_279) rfl (show mcode 278 106 = some (106, .invokestatic 357, 3, 279, 0, 0, _) from rfl) rfl (by decide) (by decide) rfl rfl rfl (show 0 ≤ 8 by decide) (tc_isLt (d := d)) (by omega) (Nat.zero_le _) (Nat.zero_le _) (fun rQ3 wQ3 Q3 => ?_)
      obtain ⟨hQ3, rfl⟩ := Q3
      rcases hQ3 with ⟨rfl, gQ3⟩ | ⟨rfl, gQ3⟩
      · skip
        refine XW.fam (S' := (125, [(0, .ref 94)], [], (sh, I, L, R))) (M := mr_278) rfl (show mcode 278 109 = some (109, .ifCond .eq 16, 3, 125, 0, 0, _) from rfl) (Or.inr (Or.inl ⟨125, [], rfl, rfl⟩)) ?_
        have ep : fv.toInt.toNat = tE (cL (fun k => (J 122 k).toInt)) (J 94 34).toInt.toNat u := tE_same hq (fun q => by
          have q1 := q.1
          have q2 : 97 ≤ (J 122 fv.toInt.toNat).toInt ∧ (J 122 fv.toInt.toNat).toInt ≤ 122 := tL_iff.mp q.2
          omega)
        exact K hw hf hkp (by rw [efv]; omega)
      · skip
        refine XW.fam (S' := (112, [(0, .ref 94)], [], (sh, I, L, R))) (M := mr_278) rfl (show mcode 278 109 = some (109, .ifCond .eq 16, 3, 125, 0, 0, _) from rfl) (Or.inr (Or.inl ⟨112, [], rfl, rfl⟩)) ?_
        refine XW.fam (S' := (113, [(0, .ref 94)], [.ref 94], (sh, I, L, R))) (M := mr_278) rfl (show mcode 278 112 = some (112, .aload_n 0, 1, 0, 0, 0, _) from rfl) (Or.inl ⟨.ref 94, rfl, rfl⟩) ?_
        refine XW.fam (S' := (114, [(0, .ref 94)], [.ref 94, .ref 94], (sh, I, L, R))) (M := mr_278) rfl (show mcode 278 113 = some (113, .dup, 1, 0, 0, 0, _) from rfl) (Or.inr (Or.inr (Or.inr (Or.inr (Or.inr (Or.inl ⟨_, rfl, rfl⟩)))))) ?_
        refine XW.fam (S' := (117, [(0, .ref 94)], [.int (I 94 47), .ref 94], (sh, I, L, R))) (M := mr_278) rfl (show mcode 278 114 = some (114, .getfield 348, 3, 12, 47, 0, _) from rfl) (Or.inr (Or.inr (Or.inr (Or.inr (Or.inr (Or.inr (Or.inr (Or.inl ⟨_, _, rfl, fl_ldI c94 (by decide) (by decide), rfl⟩)))))))) ?_
        rw [efv]
        refine XW.fam (S' := (118, [(0, .ref 94)], [.int 1, .int fv, .ref 94], (sh, I, L, R))) (M := mr_278) rfl (show mcode 278 117 = some (117, .iconst 1, 1, 0, 0, 0, _) from rfl) (Or.inl ⟨.int 1, rfl, rfl⟩) ?_
        refine XW.fam (S' := (119, [(0, .ref 94)], [.int (fv + 1), .ref 94], (sh, I, L, R))) (M := mr_278) rfl (show mcode 278 118 = some (118, .iadd, 1, 0, 0, 0, _) from rfl) (Or.inr (Or.inr (Or.inr (Or.inr (Or.inr (Or.inl ⟨_, rfl, rfl⟩)))))) ?_
        obtain ⟨I4, eI4⟩ : ∃ X, X = up2 I 94 47 (fv + 1) := ⟨_, rfl⟩
        refine XW.fam (S' := (122, [(0, .ref 94)], [], (sh, I4, L, R))) (M := mr_278) rfl (show mcode 278 119 = some (119, .putfield 348, 3, 12, 47, 0, _) from rfl) (Or.inr (Or.inr (Or.inr (Or.inr (Or.inr (Or.inr (Or.inr (Or.inr (Or.inl ⟨_, _, _, rfl, by rw [eI4]; exact stf_I c94 (by decide) (by decide) (by decide), rfl⟩))))))))) ?_
        have xi := inc32 (m := fv) (by omega) (by omega)
        have hwI4 : wOK (mkT vV []) (wE sh R) (sh, I4, L, R) := by rw [eI4]; exact wOK_u2 (q := 94) (k := 47) (x := (fv + 1)) wE_put hw rfl (by show (0 : Int) ≤ _; omega) (by show _ ≤ (240 : Int); omega)
        have hfI4 : fresh (sh, I4, L, R) := by rw [eI4]; exact fresh_I hf c94
        have v6 : I4 94 34 = tp := by rw [eI4, up2_ne (fun e => by cases e.2)]; exact etp
        have v7 : I4 122 (fv).toNatClampNeg = x := by rw [eI4, up2_ne (fun e => by cases e.1)]; exact ex
        have v8 : I4 94 47 = (fv + 1) := by rw [eI4]; exact up2_eq
        refine XW.fam (S' := (86, [(0, .ref 94)], [], (sh, I4, L, R))) (M := mr_278) rfl (show mcode 278 122 = some (122, .goto (-36), 3, 86, 0, 0, _) from rfl) (Or.inr (Or.inl ⟨86, [], rfl, rfl⟩)) ?_
        have en1 : (fv + 1).toInt.toNat = fv.toInt.toNat + 1 := by omega
        have hyy : cL (fun k => (J 122 k).toInt) fv.toInt.toNat = true := tL_iff.mpr (show 97 ≤ (J 122 fv.toInt.toNat).toInt ∧ (J 122 fv.toInt.toNat).toInt ≤ 122 by omega)
        refine ih (fv + 1) (by omega) (by omega) (by omega) hwI4 hfI4 (fun q k a1 => by rw [eI4, up2_ne a1]; exact hkp q k a1) v8 ?_ K
        rw [en1, ← tE_go (by omega) hyy]
        exact hq
theorem nx_dg {d u : Nat} {sh : List mE} {J : Nat → Nat → Int32} {L : Nat → Nat → Int64} {R : Nat → Nat → Option Nat} {Q : Option Value → mW → Prop} : ∀ (z : Nat) {I : Nat → Nat → Int32} (fv : Int32), 0 ≤ fv.toInt → fv.toInt ≤ (J 94 34).toInt → (J 94 34).toInt - fv.toInt < z → wOK (mkT vV []) (wE sh R) (sh, I, L, R) → fresh (sh, I, L, R) → (∀ q k, ¬ (q = 94 ∧ k = 47) → ¬ (q = 94 ∧ k = 49) → I q k = J q k) → I 94 47 = fv → tE (cD (fun k => (J 122 k).toInt)) (J 94 34).toInt.toNat fv.toInt.toNat = tE (cD (fun k => (J 122 k).toInt)) (J 94 34).toInt.toNat u → (∀ {I : Nat → Nat → Int32}, wOK (mkT vV []) (wE sh R) (sh, I, L, R) → fresh (sh, I, L, R) → (∀ q k, ¬ (q = 94 ∧ k = 47) → ¬ (q = 94 ∧ k = 49) → I q k = J q k) → (I 94 47).toInt = (tE (cD (fun k => (J 122 k).toInt)) (J 94 34).toInt.toNat u : Int) → XW 278 mr_278 none (d + 2) 0 0 Q (234, [(0, .ref 94)], [], (sh, I, L, R))) → XW 278 mr_278 none (d + 2) 0 0 Q (151, [(0, .ref 94)], [], (sh, I, L, R)) := by
  have z1 : (1 : Int32).toInt = 1 := rfl
  have z5 : (5 : Int32).toInt = 5 := rfl
  have z10 : (10 : Int32).toInt = 10 := rfl
  have z48 : (48 : Int32).toInt = 48 := rfl
  intro z
  induction z with
  | zero =>
    intro I fv h1 h2 hz
    exfalso
    omega
  | succ z ih =>
    intro I fv h1 h2 hz hw hf hkp efv hq K
    have hl0 : 0 ≤ (I 94 34).toInt ∧ (I 94 34).toInt ≤ 240 := hw.2.2.1 94 34
    have k34 : I 94 34 = J 94 34 := hkp 94 34 (by decide) (by decide)
    rw [k34] at hl0
    obtain ⟨tp, etp⟩ : ∃ z : Int32, I 94 34 = z := ⟨_, rfl⟩
    have htp : tp.toInt = (J 94 34).toInt := by rw [← etp, k34]
    obtain ⟨x, ex⟩ : ∃ z : Int32, I 122 (fv).toNatClampNeg = z := ⟨_, rfl⟩
    have hx : x.toInt = (J 122 fv.toInt.toNat).toInt := by rw [← ex, hkp 122 _ (fun e => by cases e.1) (fun e => by cases e.1)]; rfl
    have c94 : sh[94]? = some (.inr 12) := hw.1 94 _ rfl
    have c122 : sh[122]? = some (.inl (.byte, 240)) := hw.1 122 _ rfl
    have r94_33 : R 94 33 = some 122 := hw.2.1 94 33 _ rfl
    refine XW.fam (S' := (152, [(0, .ref 94)], [.ref 94], (sh, I, L, R))) (M := mr_278) rfl (show mcode 278 151 = some (151, .aload_n 0, 1, 0, 0, 0, _) from rfl) (Or.inl ⟨.ref 94, rfl, rfl⟩) ?_
    refine XW.fam (S' := (155, [(0, .ref 94)], [.int (I 94 47)], (sh, I, L, R))) (M := mr_278) rfl (show mcode 278 152 = some (152, .getfield 348, 3, 12, 47, 0, _) from rfl) (Or.inr (Or.inr (Or.inr (Or.inr (Or.inr (Or.inr (Or.inr (Or.inl ⟨_, _, rfl, fl_ldI c94 (by decide) (by decide), rfl⟩)))))))) ?_
    rw [efv]
    refine XW.fam (S' := (156, [(0, .ref 94)], [.ref 94, .int fv], (sh, I, L, R))) (M := mr_278) rfl (show mcode 278 155 = some (155, .aload_n 0, 1, 0, 0, 0, _) from rfl) (Or.inl ⟨.ref 94, rfl, rfl⟩) ?_
    refine XW.fam (S' := (159, [(0, .ref 94)], [.int (I 94 34), .int fv], (sh, I, L, R))) (M := mr_278) rfl (show mcode 278 156 = some (156, .getfield 341, 3, 12, 34, 0, _) from rfl) (Or.inr (Or.inr (Or.inr (Or.inr (Or.inr (Or.inr (Or.inr (Or.inl ⟨_, _, rfl, fl_ldI c94 (by decide) (by decide), rfl⟩)))))))) ?_
    rw [etp]
    cases k1 : bcmp .ge fv tp with
    | true =>
      have gk1 : (tp).toInt ≤ (fv).toInt := icT (c := .ge) (a := (fv).toInt) (b := (tp).toInt) rfl rfl k1
      refine XW.fam (S' := (234, [(0, .ref 94)], [], (sh, I, L, R))) (M := mr_278) rfl (show mcode 278 159 = some (159, .if_icmp .ge 75, 3, 234, 0, 0, _) from rfl) (Or.inr (Or.inl ⟨234, [], by simp [brn, k1], rfl⟩)) ?_
      have ep : fv.toInt.toNat = tE (cD (fun k => (J 122 k).toInt)) (J 94 34).toInt.toNat u := tE_same hq (fun q => by
        have q1 := q.1
        have q2 : 48 ≤ (J 122 fv.toInt.toNat).toInt ∧ (J 122 fv.toInt.toNat).toInt ≤ 57 := tD_iff.mp q.2
        omega)
      exact K hw hf hkp (by rw [efv]; omega)
    | false =>
      have gk1 : ¬ ((tp).toInt ≤ (fv).toInt) := icF (c := .ge) (a := (fv).toInt) (b := (tp).toInt) rfl rfl k1
      refine XW.fam (S' := (162, [(0, .ref 94)], [], (sh, I, L, R))) (M := mr_278) rfl (show mcode 278 159 = some (159, .if_icmp .ge 75, 3, 234, 0, 0, _) from rfl) (Or.inr (Or.inl ⟨162, [], by simp [brn, k1], rfl⟩)) ?_
      refine XW.fam (S' := (163, [(0, .ref 94)], [.ref 94], (sh, I, L, R))) (M := mr_278) rfl (show mcode 278 162 = some (162, .aload_n 0, 1, 0, 0, 0, _) from rfl) (Or.inl ⟨.ref 94, rfl, rfl⟩) ?_
      refine XW.fam (S' := (166, [(0, .ref 94)], [.ref 122], (sh, I, L, R))) (M := mr_278) rfl (show mcode 278 163 = some (163, .getfield 96, 3, 12, 33, 0, _) from rfl) (Or.inr (Or.inr (Or.inr (Or.inr (Or.inr (Or.inr (Or.inr (Or.inl ⟨_, _, rfl, fl_ld c94 r94_33 (by decide) (by decide), rfl⟩)))))))) ?_
      refine XW.fam (S' := (167, [(0, .ref 94)], [.ref 94, .ref 122], (sh, I, L, R))) (M := mr_278) rfl (show mcode 278 166 = some (166, .aload_n 0, 1, 0, 0, 0, _) from rfl) (Or.inl ⟨.ref 94, rfl, rfl⟩) ?_
      refine XW.fam (S' := (170, [(0, .ref 94)], [.int (I 94 47), .ref 122], (sh, I, L, R))) (M := mr_278) rfl (show mcode 278 167 = some (167, .getfield 348, 3, 12, 47, 0, _) from rfl) (Or.inr (Or.inr (Or.inr (Or.inr (Or.inr (Or.inr (Or.inr (Or.inl ⟨_, _, rfl, fl_ldI c94 (by decide) (by decide), rfl⟩)))))))) ?_
      rw [efv]
      have hin2 : inR fv 240 = true := inR_of (by omega) (by omega)
      refine XW.fam (S' := (171, [(0, .ref 94)], [.int (I 122 (fv).toNatClampNeg)], (sh, I, L, R))) (M := mr_278) rfl (show mcode 278 170 = some (170, .baload, 1, 0, 0, 0, _) from rfl) (Or.inr (Or.inr (Or.inl ⟨_, lda_y c122 hin2, rfl⟩))) ?_
      rw [ex]
      refine XW.call (d' := d + 1) (mc' := 0) (ms' := 0) (av := [.int x]) (rest := []) (M := mr_278) (Ma := mr_280) rfl (show mcode 278 171 = some (171, .invokestatic 360, 3, 280, 0, 0, _) from rfl) rfl (by decide) (by decide) rfl rfl rfl (show 0 ≤ 8 by decide) (tc_isDg (d := d)) (by omega) (Nat.zero_le _) (Nat.zero_le _) (fun rQ3 wQ3 Q3 => ?_)
      obtain ⟨hQ3, rfl⟩ := Q3
      rcases hQ3 with ⟨rfl, gQ3⟩ | ⟨rfl, gQ3⟩
      · skip
        refine XW.fam (S' := (234, [(0, .ref 94)], [], (sh, I, L, R))) (M := mr_278) rfl (show mcode 278 174 = some (174, .ifCond .eq 60, 3, 234, 0, 0, _) from rfl) (Or.inr (Or.inl ⟨234, [], rfl, rfl⟩)) ?_
        have ep : fv.toInt.toNat = tE (cD (fun k => (J 122 k).toInt)) (J 94 34).toInt.toNat u := tE_same hq (fun q => by
          have q1 := q.1
          have q2 : 48 ≤ (J 122 fv.toInt.toNat).toInt ∧ (J 122 fv.toInt.toNat).toInt ≤ 57 := tD_iff.mp q.2
          omega)
        exact K hw hf hkp (by rw [efv]; omega)
      · skip
        refine XW.fam (S' := (177, [(0, .ref 94)], [], (sh, I, L, R))) (M := mr_278) rfl (show mcode 278 174 = some (174, .ifCond .eq 60, 3, 234, 0, 0, _) from rfl) (Or.inr (Or.inl ⟨177, [], rfl, rfl⟩)) ?_
        refine XW.fam (S' := (178, [(0, .ref 94)], [.ref 94], (sh, I, L, R))) (M := mr_278) rfl (show mcode 278 177 = some (177, .aload_n 0, 1, 0, 0, 0, _) from rfl) (Or.inl ⟨.ref 94, rfl, rfl⟩) ?_
        refine XW.fam (S' := (179, [(0, .ref 94)], [.ref 94, .ref 94], (sh, I, L, R))) (M := mr_278) rfl (show mcode 278 178 = some (178, .aload_n 0, 1, 0, 0, 0, _) from rfl) (Or.inl ⟨.ref 94, rfl, rfl⟩) ?_
        refine XW.fam (S' := (182, [(0, .ref 94)], [.int (I 94 47), .ref 94], (sh, I, L, R))) (M := mr_278) rfl (show mcode 278 179 = some (179, .getfield 348, 3, 12, 47, 0, _) from rfl) (Or.inr (Or.inr (Or.inr (Or.inr (Or.inr (Or.inr (Or.inr (Or.inl ⟨_, _, rfl, fl_ldI c94 (by decide) (by decide), rfl⟩)))))))) ?_
        rw [efv]
        refine XW.fam (S' := (183, [(0, .ref 94)], [.ref 94, .int fv, .ref 94], (sh, I, L, R))) (M := mr_278) rfl (show mcode 278 182 = some (182, .aload_n 0, 1, 0, 0, 0, _) from rfl) (Or.inl ⟨.ref 94, rfl, rfl⟩) ?_
        refine XW.fam (S' := (186, [(0, .ref 94)], [.int (I 94 46), .int fv, .ref 94], (sh, I, L, R))) (M := mr_278) rfl (show mcode 278 183 = some (183, .getfield 351, 3, 12, 46, 0, _) from rfl) (Or.inr (Or.inr (Or.inr (Or.inr (Or.inr (Or.inr (Or.inr (Or.inl ⟨_, _, rfl, fl_ldI c94 (by decide) (by decide), rfl⟩)))))))) ?_
        refine XW.fam (S' := (187, [(0, .ref 94)], [.int (fv - (I 94 46)), .ref 94], (sh, I, L, R))) (M := mr_278) rfl (show mcode 278 186 = some (186, .isub, 1, 0, 0, 0, _) from rfl) (Or.inr (Or.inr (Or.inr (Or.inr (Or.inr (Or.inl ⟨_, rfl, rfl⟩)))))) ?_
        refine XW.fam (S' := (188, [(0, .ref 94)], [.int 5, .int (fv - (I 94 46)), .ref 94], (sh, I, L, R))) (M := mr_278) rfl (show mcode 278 187 = some (187, .iconst 5, 1, 0, 0, 0, _) from rfl) (Or.inl ⟨.int 5, rfl, rfl⟩) ?_
        cases k4 : bcmp .ge (fv - (I 94 46)) 5 with
        | true =>
          have gk4 : 5 ≤ ((fv - (I 94 46))).toInt := icT (c := .ge) (a := ((fv - (I 94 46))).toInt) (b := 5) rfl (by decide) k4
          refine XW.fam (S' := (214, [(0, .ref 94)], [.ref 94], (sh, I, L, R))) (M := mr_278) rfl (show mcode 278 188 = some (188, .if_icmp .ge 26, 3, 214, 0, 0, _) from rfl) (Or.inr (Or.inl ⟨214, [.ref 94], by simp [brn, k4], rfl⟩)) ?_
          refine XW.fam (S' := (215, [(0, .ref 94)], [.ref 94, .ref 94], (sh, I, L, R))) (M := mr_278) rfl (show mcode 278 214 = some (214, .aload_n 0, 1, 0, 0, 0, _) from rfl) (Or.inl ⟨.ref 94, rfl, rfl⟩) ?_
          refine XW.fam (S' := (218, [(0, .ref 94)], [.int (I 94 49), .ref 94], (sh, I, L, R))) (M := mr_278) rfl (show mcode 278 215 = some (215, .getfield 363, 3, 12, 49, 0, _) from rfl) (Or.inr (Or.inr (Or.inr (Or.inr (Or.inr (Or.inr (Or.inr (Or.inl ⟨_, _, rfl, fl_ldI c94 (by decide) (by decide), rfl⟩)))))))) ?_
          obtain ⟨I5, eI5⟩ : ∃ X, X = up2 I 94 49 (I 94 49) := ⟨_, rfl⟩
          refine XW.fam (S' := (221, [(0, .ref 94)], [], (sh, I5, L, R))) (M := mr_278) rfl (show mcode 278 218 = some (218, .putfield 363, 3, 12, 49, 0, _) from rfl) (Or.inr (Or.inr (Or.inr (Or.inr (Or.inr (Or.inr (Or.inr (Or.inr (Or.inl ⟨_, _, _, rfl, by rw [eI5]; exact stf_I c94 (by decide) (by decide) (by decide), rfl⟩))))))))) ?_
          have xb := i32b ((I 94 49))
          unfold lo32 hi32 at xb
          have hwI5 : wOK (mkT vV []) (wE sh R) (sh, I5, L, R) := by rw [eI5]; exact wOK_u2 (q := 94) (k := 49) (x := (I 94 49)) wE_put hw rfl (by show ((-2147483648) : Int) ≤ _; omega) (by show _ ≤ (2147483647 : Int); omega)
          have hfI5 : fresh (sh, I5, L, R) := by rw [eI5]; exact fresh_I hf c94
          have v6 : I5 94 47 = fv := by rw [eI5, up2_ne (fun e => by cases e.2)]; exact efv
          have v7 : I5 94 34 = tp := by rw [eI5, up2_ne (fun e => by cases e.2)]; exact etp
          have v8 : I5 122 (fv).toNatClampNeg = x := by rw [eI5, up2_ne (fun e => by cases e.1)]; exact ex
          have v9 : I5 94 49 = (I 94 49) := by rw [eI5]; exact up2_eq
          refine XW.fam (S' := (222, [(0, .ref 94)], [.ref 94], (sh, I5, L, R))) (M := mr_278) rfl (show mcode 278 221 = some (221, .aload_n 0, 1, 0, 0, 0, _) from rfl) (Or.inl ⟨.ref 94, rfl, rfl⟩) ?_
          refine XW.fam (S' := (223, [(0, .ref 94)], [.ref 94, .ref 94], (sh, I5, L, R))) (M := mr_278) rfl (show mcode 278 222 = some (222, .dup, 1, 0, 0, 0, _) from rfl) (Or.inr (Or.inr (Or.inr (Or.inr (Or.inr (Or.inl ⟨_, rfl, rfl⟩)))))) ?_
          refine XW.fam (S' := (226, [(0, .ref 94)], [.int (I5 94 47), .ref 94], (sh, I5, L, R))) (M := mr_278) rfl (show mcode 278 223 = some (223, .getfield 348, 3, 12, 47, 0, _) from rfl) (Or.inr (Or.inr (Or.inr (Or.inr (Or.inr (Or.inr (Or.inr (Or.inl ⟨_, _, rfl, fl_ldI c94 (by decide) (by decide), rfl⟩)))))))) ?_
          rw [v6]
          refine XW.fam (S' := (227, [(0, .ref 94)], [.int 1, .int fv, .ref 94], (sh, I5, L, R))) (M := mr_278) rfl (show mcode 278 226 = some (226, .iconst 1, 1, 0, 0, 0, _) from rfl) (Or.inl ⟨.int 1, rfl, rfl⟩) ?_
          refine XW.fam (S' := (228, [(0, .ref 94)], [.int (fv + 1), .ref 94], (sh, I5, L, R))) (M := mr_278) rfl (show mcode 278 227 = some (227, .iadd, 1, 0, 0, 0, _) from rfl) (Or.inr (Or.inr (Or.inr (Or.inr (Or.inr (Or.inl ⟨_, rfl, rfl⟩)))))) ?_
          obtain ⟨I10, eI10⟩ : ∃ X, X = up2 I5 94 47 (fv + 1) := ⟨_, rfl⟩
          refine XW.fam (S' := (231, [(0, .ref 94)], [], (sh, I10, L, R))) (M := mr_278) rfl (show mcode 278 228 = some (228, .putfield 348, 3, 12, 47, 0, _) from rfl) (Or.inr (Or.inr (Or.inr (Or.inr (Or.inr (Or.inr (Or.inr (Or.inr (Or.inl ⟨_, _, _, rfl, by rw [eI10]; exact stf_I c94 (by decide) (by decide) (by decide), rfl⟩))))))))) ?_
          have xi := inc32 (m := fv) (by omega) (by omega)
          have hwI10 : wOK (mkT vV []) (wE sh R) (sh, I10, L, R) := by rw [eI10]; exact wOK_u2 (q := 94) (k := 47) (x := (fv + 1)) wE_put hwI5 rfl (by show (0 : Int) ≤ _; omega) (by show _ ≤ (240 : Int); omega)
          have hfI10 : fresh (sh, I10, L, R) := by rw [eI10]; exact fresh_I hfI5 c94
          have v12 : I10 94 34 = tp := by rw [eI10, up2_ne (fun e => by cases e.2)]; exact v7
          have v13 : I10 122 (fv).toNatClampNeg = x := by rw [eI10, up2_ne (fun e => by cases e.1)]; exact v8
          have v14 : I10 94 49 = (I 94 49) := by rw [eI10, up2_ne (fun e => by cases e.2)]; exact v9
          have v15 : I10 94 47 = (fv + 1) := by rw [eI10]; exact up2_eq
          refine XW.fam (S' := (151, [(0, .ref 94)], [], (sh, I10, L, R))) (M := mr_278) rfl (show mcode 278 231 = some (231, .goto (-80), 3, 151, 0, 0, _) from rfl) (Or.inr (Or.inl ⟨151, [], rfl, rfl⟩)) ?_
          have en1 : (fv + 1).toInt.toNat = fv.toInt.toNat + 1 := by omega
          have hyy : cD (fun k => (J 122 k).toInt) fv.toInt.toNat = true := tD_iff.mpr (show 48 ≤ (J 122 fv.toInt.toNat).toInt ∧ (J 122 fv.toInt.toNat).toInt ≤ 57 by omega)
          refine ih (fv + 1) (by omega) (by omega) (by omega) hwI10 hfI10 (fun q k a1 a2 => by rw [eI10, up2_ne a1, eI5, up2_ne a2]; exact hkp q k a1 a2) v15 ?_ K
          rw [en1, ← tE_go (by omega) hyy]
          exact hq
        | false =>
          have gk4 : ¬ (5 ≤ ((fv - (I 94 46))).toInt) := icF (c := .ge) (a := ((fv - (I 94 46))).toInt) (b := 5) rfl (by decide) k4
          refine XW.fam (S' := (191, [(0, .ref 94)], [.ref 94], (sh, I, L, R))) (M := mr_278) rfl (show mcode 278 188 = some (188, .if_icmp .ge 26, 3, 214, 0, 0, _) from rfl) (Or.inr (Or.inl ⟨191, [.ref 94], by simp [brn, k4], rfl⟩)) ?_
          refine XW.fam (S' := (193, [(0, .ref 94)], [.int 10, .ref 94], (sh, I, L, R))) (M := mr_278) rfl (show mcode 278 191 = some (191, .bipush 10, 2, 0, 0, 0, _) from rfl) (Or.inl ⟨.int 10, rfl, rfl⟩) ?_
          refine XW.fam (S' := (194, [(0, .ref 94)], [.ref 94, .int 10, .ref 94], (sh, I, L, R))) (M := mr_278) rfl (show mcode 278 193 = some (193, .aload_n 0, 1, 0, 0, 0, _) from rfl) (Or.inl ⟨.ref 94, rfl, rfl⟩) ?_
          refine XW.fam (S' := (197, [(0, .ref 94)], [.int (I 94 49), .int 10, .ref 94], (sh, I, L, R))) (M := mr_278) rfl (show mcode 278 194 = some (194, .getfield 363, 3, 12, 49, 0, _) from rfl) (Or.inr (Or.inr (Or.inr (Or.inr (Or.inr (Or.inr (Or.inr (Or.inl ⟨_, _, rfl, fl_ldI c94 (by decide) (by decide), rfl⟩)))))))) ?_
          refine XW.fam (S' := (198, [(0, .ref 94)], [.int (10 * (I 94 49)), .ref 94], (sh, I, L, R))) (M := mr_278) rfl (show mcode 278 197 = some (197, .imul, 1, 0, 0, 0, _) from rfl) (Or.inr (Or.inr (Or.inr (Or.inr (Or.inr (Or.inl ⟨_, rfl, rfl⟩)))))) ?_
          refine XW.fam (S' := (199, [(0, .ref 94)], [.ref 94, .int (10 * (I 94 49)), .ref 94], (sh, I, L, R))) (M := mr_278) rfl (show mcode 278 198 = some (198, .aload_n 0, 1, 0, 0, 0, _) from rfl) (Or.inl ⟨.ref 94, rfl, rfl⟩) ?_
          refine XW.fam (S' := (202, [(0, .ref 94)], [.ref 122, .int (10 * (I 94 49)), .ref 94], (sh, I, L, R))) (M := mr_278) rfl (show mcode 278 199 = some (199, .getfield 96, 3, 12, 33, 0, _) from rfl) (Or.inr (Or.inr (Or.inr (Or.inr (Or.inr (Or.inr (Or.inr (Or.inl ⟨_, _, rfl, fl_ld c94 r94_33 (by decide) (by decide), rfl⟩)))))))) ?_
          refine XW.fam (S' := (203, [(0, .ref 94)], [.ref 94, .ref 122, .int (10 * (I 94 49)), .ref 94], (sh, I, L, R))) (M := mr_278) rfl (show mcode 278 202 = some (202, .aload_n 0, 1, 0, 0, 0, _) from rfl) (Or.inl ⟨.ref 94, rfl, rfl⟩) ?_
          refine XW.fam (S' := (206, [(0, .ref 94)], [.int (I 94 47), .ref 122, .int (10 * (I 94 49)), .ref 94], (sh, I, L, R))) (M := mr_278) rfl (show mcode 278 203 = some (203, .getfield 348, 3, 12, 47, 0, _) from rfl) (Or.inr (Or.inr (Or.inr (Or.inr (Or.inr (Or.inr (Or.inr (Or.inl ⟨_, _, rfl, fl_ldI c94 (by decide) (by decide), rfl⟩)))))))) ?_
          rw [efv]
          have hin16 : inR fv 240 = true := inR_of (by omega) (by omega)
          refine XW.fam (S' := (207, [(0, .ref 94)], [.int (I 122 (fv).toNatClampNeg), .int (10 * (I 94 49)), .ref 94], (sh, I, L, R))) (M := mr_278) rfl (show mcode 278 206 = some (206, .baload, 1, 0, 0, 0, _) from rfl) (Or.inr (Or.inr (Or.inl ⟨_, lda_y c122 hin16, rfl⟩))) ?_
          rw [ex]
          refine XW.fam (S' := (208, [(0, .ref 94)], [.int ((10 * (I 94 49)) + x), .ref 94], (sh, I, L, R))) (M := mr_278) rfl (show mcode 278 207 = some (207, .iadd, 1, 0, 0, 0, _) from rfl) (Or.inr (Or.inr (Or.inr (Or.inr (Or.inr (Or.inl ⟨_, rfl, rfl⟩)))))) ?_
          refine XW.fam (S' := (210, [(0, .ref 94)], [.int 48, .int ((10 * (I 94 49)) + x), .ref 94], (sh, I, L, R))) (M := mr_278) rfl (show mcode 278 208 = some (208, .bipush 48, 2, 0, 0, 0, _) from rfl) (Or.inl ⟨.int 48, rfl, rfl⟩) ?_
          refine XW.fam (S' := (211, [(0, .ref 94)], [.int (((10 * (I 94 49)) + x) - 48), .ref 94], (sh, I, L, R))) (M := mr_278) rfl (show mcode 278 210 = some (210, .isub, 1, 0, 0, 0, _) from rfl) (Or.inr (Or.inr (Or.inr (Or.inr (Or.inr (Or.inl ⟨_, rfl, rfl⟩)))))) ?_
          refine XW.fam (S' := (218, [(0, .ref 94)], [.int (((10 * (I 94 49)) + x) - 48), .ref 94], (sh, I, L, R))) (M := mr_278) rfl (show mcode 278 211 = some (211, .goto 7, 3, 218, 0, 0, _) from rfl) (Or.inr (Or.inl ⟨218, [.int (((10 * (I 94 49)) + x) - 48), .ref 94], rfl, rfl⟩)) ?_
          obtain ⟨I17, eI17⟩ : ∃ X, X = up2 I 94 49 (((10 * (I 94 49)) + x) - 48) := ⟨_, rfl⟩
          refine XW.fam (S' := (221, [(0, .ref 94)], [], (sh, I17, L, R))) (M := mr_278) rfl (show mcode 278 218 = some (218, .putfield 363, 3, 12, 49, 0, _) from rfl) (Or.inr (Or.inr (Or.inr (Or.inr (Or.inr (Or.inr (Or.inr (Or.inr (Or.inl ⟨_, _, _, rfl, by rw [eI17]; exact stf_I c94 (by decide) (by decide) (by decide), rfl⟩))))))))) ?_
          have xb := i32b ((((10 * (I 94 49)) + x) - 48))
          unfold lo32 hi32 at xb
          have hwI17 : wOK (mkT vV []) (wE sh R) (sh, I17, L, R) := by rw [eI17]; exact wOK_u2 (q := 94) (k := 49) (x := (((10 * (I 94 49)) + x) - 48)) wE_put hw rfl (by show ((-2147483648) : Int) ≤ _; omega) (by show _ ≤ (2147483647 : Int); omega)
          have hfI17 : fresh (sh, I17, L, R) := by rw [eI17]; exact fresh_I hf c94
          have v18 : I17 94 47 = fv := by rw [eI17, up2_ne (fun e => by cases e.2)]; exact efv
          have v19 : I17 94 34 = tp := by rw [eI17, up2_ne (fun e => by cases e.2)]; exact etp
          have v20 : I17 122 (fv).toNatClampNeg = x := by rw [eI17, up2_ne (fun e => by cases e.1)]; exact ex
          have v21 : I17 94 49 = (((10 * (I 94 49)) + x) - 48) := by rw [eI17]; exact up2_eq
          refine XW.fam (S' := (222, [(0, .ref 94)], [.ref 94], (sh, I17, L, R))) (M := mr_278) rfl (show mcode 278 221 = some (221, .aload_n 0, 1, 0, 0, 0, _) from rfl) (Or.inl ⟨.ref 94, rfl, rfl⟩) ?_
          refine XW.fam (S' := (223, [(0, .ref 94)], [.ref 94, .ref 94], (sh, I17, L, R))) (M := mr_278) rfl (show mcode 278 222 = some (222, .dup, 1, 0, 0, 0, _) from rfl) (Or.inr (Or.inr (Or.inr (Or.inr (Or.inr (Or.inl ⟨_, rfl, rfl⟩)))))) ?_
          refine XW.fam (S' := (226, [(0, .ref 94)], [.int (I17 94 47), .ref 94], (sh, I17, L, R))) (M := mr_278) rfl (show mcode 278 223 = some (223, .getfield 348, 3, 12, 47, 0, _) from rfl) (Or.inr (Or.inr (Or.inr (Or.inr (Or.inr (Or.inr (Or.inr (Or.inl ⟨_, _, rfl, fl_ldI c94 (by decide) (by decide), rfl⟩)))))))) ?_
          rw [v18]
          refine XW.fam (S' := (227, [(0, .ref 94)], [.int 1, .int fv, .ref 94], (sh, I17, L, R))) (M := mr_278) rfl (show mcode 278 226 = some (226, .iconst 1, 1, 0, 0, 0, _) from rfl) (Or.inl ⟨.int 1, rfl, rfl⟩) ?_
          refine XW.fam (S' := (228, [(0, .ref 94)], [.int (fv + 1), .ref 94], (sh, I17, L, R))) (M := mr_278) rfl (show mcode 278 227 = some (227, .iadd, 1, 0, 0, 0, _) from rfl) (Or.inr (Or.inr (Or.inr (Or.inr (Or.inr (Or.inl ⟨_, rfl, rfl⟩)))))) ?_
          obtain ⟨I22, eI22⟩ : ∃ X, X = up2 I17 94 47 (fv + 1) := ⟨_, rfl⟩
          refine XW.fam (S' := (231, [(0, .ref 94)], [], (sh, I22, L, R))) (M := mr_278) rfl (show mcode 278 228 = some (228, .putfield 348, 3, 12, 47, 0, _) from rfl) (Or.inr (Or.inr (Or.inr (Or.inr (Or.inr (Or.inr (Or.inr (Or.inr (Or.inl ⟨_, _, _, rfl, by rw [eI22]; exact stf_I c94 (by decide) (by decide) (by decide), rfl⟩))))))))) ?_
          have xi := inc32 (m := fv) (by omega) (by omega)
          have hwI22 : wOK (mkT vV []) (wE sh R) (sh, I22, L, R) := by rw [eI22]; exact wOK_u2 (q := 94) (k := 47) (x := (fv + 1)) wE_put hwI17 rfl (by show (0 : Int) ≤ _; omega) (by show _ ≤ (240 : Int); omega)
          have hfI22 : fresh (sh, I22, L, R) := by rw [eI22]; exact fresh_I hfI17 c94
          have v24 : I22 94 34 = tp := by rw [eI22, up2_ne (fun e => by cases e.2)]; exact v19
          have v25 : I22 122 (fv).toNatClampNeg = x := by rw [eI22, up2_ne (fun e => by cases e.1)]; exact v20
          have v26 : I22 94 49 = (((10 * (I 94 49)) + x) - 48) := by rw [eI22, up2_ne (fun e => by cases e.2)]; exact v21
          have v27 : I22 94 47 = (fv + 1) := by rw [eI22]; exact up2_eq
          refine XW.fam (S' := (151, [(0, .ref 94)], [], (sh, I22, L, R))) (M := mr_278) rfl (show mcode 278 231 = some (231, .goto (-80), 3, 151, 0, 0, _) from rfl) (Or.inr (Or.inl ⟨151, [], rfl, rfl⟩)) ?_
          have en1 : (fv + 1).toInt.toNat = fv.toInt.toNat + 1 := by omega
          have hyy : cD (fun k => (J 122 k).toInt) fv.toInt.toNat = true := tD_iff.mpr (show 48 ≤ (J 122 fv.toInt.toNat).toInt ∧ (J 122 fv.toInt.toNat).toInt ≤ 57 by omega)
          refine ih (fv + 1) (by omega) (by omega) (by omega) hwI22 hfI22 (fun q k a1 a2 => by rw [eI22, up2_ne a1, eI17, up2_ne a2]; exact hkp q k a1 a2) v27 ?_ K
          rw [en1, ← tE_go (by omega) hyy]
          exact hq
theorem tc_nxt {d u : Nat} {sh : List mE} {I : Nat → Nat → Int32} {L : Nat → Nat → Int64} {R : Nat → Nat → Option Nat} (hw : wOK (mkT vV []) (wE sh R) (sh, I, L, R)) (hf : fresh (sh, I, L, R)) (hu : (I 94 47).toInt = (u : Int)) (hun : u ≤ (I 94 34).toInt.toNat) : Tc 278 (d + 2) 0 0 [.ref 94] (sh, I, L, R) (fun r w' => r = none ∧ fresh w' ∧ wOK (mkT vV []) (wE sh R) w' ∧ (∀ q k, inm mdNx q k = false → w'.2.1 q k = I q k) ∧ mst (fun k => (I 122 k).toInt) (I 94 34).toInt.toNat w'.2.1 (tE (cS (fun k => (I 122 k).toInt)) (I 94 34).toInt.toNat u)) := by
  have c94 : sh[94]? = some (.inr 12) := hw.1 94 _ rfl
  have c122 : sh[122]? = some (.inl (.byte, 240)) := hw.1 122 _ rfl
  have r94_33 : R 94 33 = some 122 := hw.2.1 94 33 _ rfl
  have zm1 : ((-1) : Int32).toInt = (-1) := rfl
  have z0 : (0 : Int32).toInt = 0 := rfl
  have z1 : (1 : Int32).toInt = 1 := rfl
  have z2 : (2 : Int32).toInt = 2 := rfl
  have z4 : (4 : Int32).toInt = 4 := rfl
  have z32 : (32 : Int32).toInt = 32 := rfl
  have hl0 : 0 ≤ (I 94 34).toInt ∧ (I 94 34).toInt ≤ 240 := hw.2.2.1 94 34
  obtain ⟨tp, etp⟩ : ∃ z : Int32, I 94 34 = z := ⟨_, rfl⟩
  have htp : tp.toInt = (I 94 34).toInt := by rw [← etp]
  obtain ⟨uv, euv⟩ : ∃ z : Int32, I 94 47 = z := ⟨_, rfl⟩
  have huv : uv.toInt = (u : Int) := by rw [← euv]; exact hu
  refine Tc.of mr_278 rfl (show 1 ≤ mr_278.2.2.2.1 by decide) ?_
  refine XW.fam (S' := (1, [(0, .ref 94)], [.ref 94], (sh, I, L, R))) (M := mr_278) rfl (show mcode 278 0 = some (0, .aload_n 0, 1, 0, 0, 0, _) from rfl) (Or.inl ⟨.ref 94, rfl, rfl⟩) ?_
  refine XW.fam (S' := (2, [(0, .ref 94)], [.ref 94, .ref 94], (sh, I, L, R))) (M := mr_278) rfl (show mcode 278 1 = some (1, .aload_n 0, 1, 0, 0, 0, _) from rfl) (Or.inl ⟨.ref 94, rfl, rfl⟩) ?_
  refine XW.fam (S' := (5, [(0, .ref 94)], [.int (I 94 47), .ref 94], (sh, I, L, R))) (M := mr_278) rfl (show mcode 278 2 = some (2, .getfield 348, 3, 12, 47, 0, _) from rfl) (Or.inr (Or.inr (Or.inr (Or.inr (Or.inr (Or.inr (Or.inr (Or.inl ⟨_, _, rfl, fl_ldI c94 (by decide) (by decide), rfl⟩)))))))) ?_
  rw [euv]
  obtain ⟨I1, eI1⟩ : ∃ X, X = up2 I 94 46 uv := ⟨_, rfl⟩
  refine XW.fam (S' := (8, [(0, .ref 94)], [], (sh, I1, L, R))) (M := mr_278) rfl (show mcode 278 5 = some (5, .putfield 351, 3, 12, 46, 0, _) from rfl) (Or.inr (Or.inr (Or.inr (Or.inr (Or.inr (Or.inr (Or.inr (Or.inr (Or.inl ⟨_, _, _, rfl, by rw [eI1]; exact stf_I c94 (by decide) (by decide) (by decide), rfl⟩))))))))) ?_
  have hwI1 : wOK (mkT vV []) (wE sh R) (sh, I1, L, R) := by rw [eI1]; exact wOK_u2 (q := 94) (k := 46) (x := uv) wE_put hw rfl (by show (0 : Int) ≤ _; omega) (by show _ ≤ (240 : Int); omega)
  have hfI1 : fresh (sh, I1, L, R) := by rw [eI1]; exact fresh_I hf c94
  have v2 : I1 94 47 = uv := by rw [eI1, up2_ne (fun e => by cases e.2)]; exact euv
  have v3 : I1 94 46 = uv := by rw [eI1]; exact up2_eq
  refine nx_sp (d := d) (u := u) (J := I) 300 uv (by omega) (by omega) (by omega) hwI1 hfI1 (fun q k a1 => by rw [eI1, up2_ne a1]) v3 (by rw [show uv.toInt.toNat = u by omega]) (fun {I2} hw2 hf2 hk2 h46 => ?_)
  obtain ⟨fv, efv⟩ : ∃ z : Int32, I2 94 46 = z := ⟨_, rfl⟩
  have hfv : fv.toInt = ((tE (cS (fun k => (I 122 k).toInt)) (I 94 34).toInt.toNat u) : Int) := by rw [← efv]; exact h46
  have hPr := tE_rng (c := cS (fun k => (I 122 k).toInt)) (n := (I 94 34).toInt.toNat) (p := u)
  have hPn := hPr.2 (by omega)
  obtain ⟨p, hp⟩ : ∃ p, p = (tE (cS (fun k => (I 122 k).toInt)) (I 94 34).toInt.toNat u) := ⟨_, rfl⟩
  rw [← hp] at hfv hPr hPn
  rw [← hp]
  have k34 : I2 94 34 = tp := (hk2 94 34 (by decide)).trans etp
  obtain ⟨x, ex⟩ : ∃ z : Int32, I2 122 (fv).toNatClampNeg = z := ⟨_, rfl⟩
  have epn : (fv).toNatClampNeg = p := by show fv.toInt.toNat = p; omega
  have hx : x.toInt = (I 122 p).toInt := by rw [← ex, epn, hk2 122 _ (fun e => by cases e.1)]
  have hxb : -128 ≤ (I 122 p).toInt ∧ (I 122 p).toInt ≤ 127 := hw.2.2.1 122 p
  refine XW.fam (S' := (47, [(0, .ref 94)], [.ref 94], (sh, I2, L, R))) (M := mr_278) rfl (show mcode 278 46 = some (46, .aload_n 0, 1, 0, 0, 0, _) from rfl) (Or.inl ⟨.ref 94, rfl, rfl⟩) ?_
  refine XW.fam (S' := (48, [(0, .ref 94)], [.ref 94, .ref 94], (sh, I2, L, R))) (M := mr_278) rfl (show mcode 278 47 = some (47, .aload_n 0, 1, 0, 0, 0, _) from rfl) (Or.inl ⟨.ref 94, rfl, rfl⟩) ?_
  refine XW.fam (S' := (51, [(0, .ref 94)], [.int (I2 94 46), .ref 94], (sh, I2, L, R))) (M := mr_278) rfl (show mcode 278 48 = some (48, .getfield 351, 3, 12, 46, 0, _) from rfl) (Or.inr (Or.inr (Or.inr (Or.inr (Or.inr (Or.inr (Or.inr (Or.inl ⟨_, _, rfl, fl_ldI c94 (by decide) (by decide), rfl⟩)))))))) ?_
  rw [efv]
  obtain ⟨I4, eI4⟩ : ∃ X, X = up2 I2 94 47 fv := ⟨_, rfl⟩
  refine XW.fam (S' := (54, [(0, .ref 94)], [], (sh, I4, L, R))) (M := mr_278) rfl (show mcode 278 51 = some (51, .putfield 348, 3, 12, 47, 0, _) from rfl) (Or.inr (Or.inr (Or.inr (Or.inr (Or.inr (Or.inr (Or.inr (Or.inr (Or.inl ⟨_, _, _, rfl, by rw [eI4]; exact stf_I c94 (by decide) (by decide) (by decide), rfl⟩))))))))) ?_
  have hwI4 : wOK (mkT vV []) (wE sh R) (sh, I4, L, R) := by rw [eI4]; exact wOK_u2 (q := 94) (k := 47) (x := fv) wE_put hw2 rfl (by show (0 : Int) ≤ _; omega) (by show _ ≤ (240 : Int); omega)
  have hfI4 : fresh (sh, I4, L, R) := by rw [eI4]; exact fresh_I hf2 c94
  have v5 : I4 94 46 = fv := by rw [eI4, up2_ne (fun e => by cases e.2)]; exact efv
  have v6 : I4 94 34 = tp := by rw [eI4, up2_ne (fun e => by cases e.2)]; exact k34
  have v7 : I4 122 (fv).toNatClampNeg = x := by rw [eI4, up2_ne (fun e => by cases e.1)]; exact ex
  have v8 : I4 94 47 = fv := by rw [eI4]; exact up2_eq
  refine XW.fam (S' := (55, [(0, .ref 94)], [.ref 94], (sh, I4, L, R))) (M := mr_278) rfl (show mcode 278 54 = some (54, .aload_n 0, 1, 0, 0, 0, _) from rfl) (Or.inl ⟨.ref 94, rfl, rfl⟩) ?_
  refine XW.fam (S' := (58, [(0, .ref 94)], [.int (I4 94 46)], (sh, I4, L, R))) (M := mr_278) rfl (show mcode 278 55 = some (55, .getfield 351, 3, 12, 46, 0, _) from rfl) (Or.inr (Or.inr (Or.inr (Or.inr (Or.inr (Or.inr (Or.inr (Or.inl ⟨_, _, rfl, fl_ldI c94 (by decide) (by decide), rfl⟩)))))))) ?_
  rw [v5]
  refine XW.fam (S' := (59, [(0, .ref 94)], [.ref 94, .int fv], (sh, I4, L, R))) (M := mr_278) rfl (show mcode 278 58 = some (58, .aload_n 0, 1, 0, 0, 0, _) from rfl) (Or.inl ⟨.ref 94, rfl, rfl⟩) ?_
  refine XW.fam (S' := (62, [(0, .ref 94)], [.int (I4 94 34), .int fv], (sh, I4, L, R))) (M := mr_278) rfl (show mcode 278 59 = some (59, .getfield 341, 3, 12, 34, 0, _) from rfl) (Or.inr (Or.inr (Or.inr (Or.inr (Or.inr (Or.inr (Or.inr (Or.inl ⟨_, _, rfl, fl_ldI c94 (by decide) (by decide), rfl⟩)))))))) ?_
  rw [v6]
  cases k9 : bcmp .ne fv tp with
  | true =>
    have gk9 : ¬ (fv).toInt = (tp).toInt := icT (c := .ne) (a := (fv).toInt) (b := (tp).toInt) rfl rfl k9
    refine XW.fam (S' := (71, [(0, .ref 94)], [], (sh, I4, L, R))) (M := mr_278) rfl (show mcode 278 62 = some (62, .if_icmp .ne 9, 3, 71, 0, 0, _) from rfl) (Or.inr (Or.inl ⟨71, [], by simp [brn, k9], rfl⟩)) ?_
    refine XW.fam (S' := (72, [(0, .ref 94)], [.ref 94], (sh, I4, L, R))) (M := mr_278) rfl (show mcode 278 71 = some (71, .aload_n 0, 1, 0, 0, 0, _) from rfl) (Or.inl ⟨.ref 94, rfl, rfl⟩) ?_
    refine XW.fam (S' := (75, [(0, .ref 94)], [.ref 122], (sh, I4, L, R))) (M := mr_278) rfl (show mcode 278 72 = some (72, .getfield 96, 3, 12, 33, 0, _) from rfl) (Or.inr (Or.inr (Or.inr (Or.inr (Or.inr (Or.inr (Or.inr (Or.inl ⟨_, _, rfl, fl_ld c94 r94_33 (by decide) (by decide), rfl⟩)))))))) ?_
    refine XW.fam (S' := (76, [(0, .ref 94)], [.ref 94, .ref 122], (sh, I4, L, R))) (M := mr_278) rfl (show mcode 278 75 = some (75, .aload_n 0, 1, 0, 0, 0, _) from rfl) (Or.inl ⟨.ref 94, rfl, rfl⟩) ?_
    refine XW.fam (S' := (79, [(0, .ref 94)], [.int (I4 94 46), .ref 122], (sh, I4, L, R))) (M := mr_278) rfl (show mcode 278 76 = some (76, .getfield 351, 3, 12, 46, 0, _) from rfl) (Or.inr (Or.inr (Or.inr (Or.inr (Or.inr (Or.inr (Or.inr (Or.inl ⟨_, _, rfl, fl_ldI c94 (by decide) (by decide), rfl⟩)))))))) ?_
    rw [v5]
    have hin10 : inR fv 240 = true := inR_of (by omega) (by omega)
    refine XW.fam (S' := (80, [(0, .ref 94)], [.int (I4 122 (fv).toNatClampNeg)], (sh, I4, L, R))) (M := mr_278) rfl (show mcode 278 79 = some (79, .baload, 1, 0, 0, 0, _) from rfl) (Or.inr (Or.inr (Or.inl ⟨_, lda_y c122 hin10, rfl⟩))) ?_
    rw [v7]
    refine XW.call (d' := d + 1) (mc' := 0) (ms' := 0) (av := [.int x]) (rest := []) (M := mr_278) (Ma := mr_279) rfl (show mcode 278 80 = some (80, .invokestatic 357, 3, 279, 0, 0, _) from rfl) rfl (by decide) (by decide) rfl rfl rfl (show 0 ≤ 8 by decide) (tc_isLt (d := d)) (by omega) (Nat.zero_le _) (Nat.zero_le _) (fun rQ11 wQ11 Q11 => ?_)
    obtain ⟨hQ11, rfl⟩ := Q11
    rcases hQ11 with ⟨rfl, gQ11⟩ | ⟨rfl, gQ11⟩
    · skip
      have nL : ¬ tL (I 122 p).toInt = true := fun q => by have q1 := tL_iff.mp q; omega
      refine XW.fam (S' := (131, [(0, .ref 94)], [], (sh, I4, L, R))) (M := mr_278) rfl (show mcode 278 83 = some (83, .ifCond .eq 48, 3, 131, 0, 0, _) from rfl) (Or.inr (Or.inl ⟨131, [], rfl, rfl⟩)) ?_
      refine XW.fam (S' := (132, [(0, .ref 94)], [.ref 94], (sh, I4, L, R))) (M := mr_278) rfl (show mcode 278 131 = some (131, .aload_n 0, 1, 0, 0, 0, _) from rfl) (Or.inl ⟨.ref 94, rfl, rfl⟩) ?_
      refine XW.fam (S' := (135, [(0, .ref 94)], [.ref 122], (sh, I4, L, R))) (M := mr_278) rfl (show mcode 278 132 = some (132, .getfield 96, 3, 12, 33, 0, _) from rfl) (Or.inr (Or.inr (Or.inr (Or.inr (Or.inr (Or.inr (Or.inr (Or.inl ⟨_, _, rfl, fl_ld c94 r94_33 (by decide) (by decide), rfl⟩)))))))) ?_
      refine XW.fam (S' := (136, [(0, .ref 94)], [.ref 94, .ref 122], (sh, I4, L, R))) (M := mr_278) rfl (show mcode 278 135 = some (135, .aload_n 0, 1, 0, 0, 0, _) from rfl) (Or.inl ⟨.ref 94, rfl, rfl⟩) ?_
      refine XW.fam (S' := (139, [(0, .ref 94)], [.int (I4 94 46), .ref 122], (sh, I4, L, R))) (M := mr_278) rfl (show mcode 278 136 = some (136, .getfield 351, 3, 12, 46, 0, _) from rfl) (Or.inr (Or.inr (Or.inr (Or.inr (Or.inr (Or.inr (Or.inr (Or.inl ⟨_, _, rfl, fl_ldI c94 (by decide) (by decide), rfl⟩)))))))) ?_
      rw [v5]
      have hin12 : inR fv 240 = true := inR_of (by omega) (by omega)
      refine XW.fam (S' := (140, [(0, .ref 94)], [.int (I4 122 (fv).toNatClampNeg)], (sh, I4, L, R))) (M := mr_278) rfl (show mcode 278 139 = some (139, .baload, 1, 0, 0, 0, _) from rfl) (Or.inr (Or.inr (Or.inl ⟨_, lda_y c122 hin12, rfl⟩))) ?_
      rw [v7]
      refine XW.call (d' := d + 1) (mc' := 0) (ms' := 0) (av := [.int x]) (rest := []) (M := mr_278) (Ma := mr_280) rfl (show mcode 278 140 = some (140, .invokestatic 360, 3, 280, 0, 0, _) from rfl) rfl (by decide) (by decide) rfl rfl rfl (show 0 ≤ 8 by decide) (tc_isDg (d := d)) (by omega) (Nat.zero_le _) (Nat.zero_le _) (fun rQ13 wQ13 Q13 => ?_)
      obtain ⟨hQ13, rfl⟩ := Q13
      rcases hQ13 with ⟨rfl, gQ13⟩ | ⟨rfl, gQ13⟩
      · skip
        have nD : ¬ tD (I 122 p).toInt = true := fun q => by have q1 := tD_iff.mp q; omega
        refine XW.fam (S' := (257, [(0, .ref 94)], [], (sh, I4, L, R))) (M := mr_278) rfl (show mcode 278 143 = some (143, .ifCond .eq 114, 3, 257, 0, 0, _) from rfl) (Or.inr (Or.inl ⟨257, [], rfl, rfl⟩)) ?_
        refine XW.fam (S' := (258, [(0, .ref 94)], [.ref 94], (sh, I4, L, R))) (M := mr_278) rfl (show mcode 278 257 = some (257, .aload_n 0, 1, 0, 0, 0, _) from rfl) (Or.inl ⟨.ref 94, rfl, rfl⟩) ?_
        refine XW.fam (S' := (259, [(0, .ref 94)], [.ref 94, .ref 94], (sh, I4, L, R))) (M := mr_278) rfl (show mcode 278 258 = some (258, .dup, 1, 0, 0, 0, _) from rfl) (Or.inr (Or.inr (Or.inr (Or.inr (Or.inr (Or.inl ⟨_, rfl, rfl⟩)))))) ?_
        refine XW.fam (S' := (262, [(0, .ref 94)], [.int (I4 94 47), .ref 94], (sh, I4, L, R))) (M := mr_278) rfl (show mcode 278 259 = some (259, .getfield 348, 3, 12, 47, 0, _) from rfl) (Or.inr (Or.inr (Or.inr (Or.inr (Or.inr (Or.inr (Or.inr (Or.inl ⟨_, _, rfl, fl_ldI c94 (by decide) (by decide), rfl⟩)))))))) ?_
        rw [v8]
        refine XW.fam (S' := (263, [(0, .ref 94)], [.int 1, .int fv, .ref 94], (sh, I4, L, R))) (M := mr_278) rfl (show mcode 278 262 = some (262, .iconst 1, 1, 0, 0, 0, _) from rfl) (Or.inl ⟨.int 1, rfl, rfl⟩) ?_
        refine XW.fam (S' := (264, [(0, .ref 94)], [.int (fv + 1), .ref 94], (sh, I4, L, R))) (M := mr_278) rfl (show mcode 278 263 = some (263, .iadd, 1, 0, 0, 0, _) from rfl) (Or.inr (Or.inr (Or.inr (Or.inr (Or.inr (Or.inl ⟨_, rfl, rfl⟩)))))) ?_
        obtain ⟨I14, eI14⟩ : ∃ X, X = up2 I4 94 47 (fv + 1) := ⟨_, rfl⟩
        refine XW.fam (S' := (267, [(0, .ref 94)], [], (sh, I14, L, R))) (M := mr_278) rfl (show mcode 278 264 = some (264, .putfield 348, 3, 12, 47, 0, _) from rfl) (Or.inr (Or.inr (Or.inr (Or.inr (Or.inr (Or.inr (Or.inr (Or.inr (Or.inl ⟨_, _, _, rfl, by rw [eI14]; exact stf_I c94 (by decide) (by decide) (by decide), rfl⟩))))))))) ?_
        have xi := inc32 (m := fv) (by omega) (by omega)
        have hwI14 : wOK (mkT vV []) (wE sh R) (sh, I14, L, R) := by rw [eI14]; exact wOK_u2 (q := 94) (k := 47) (x := (fv + 1)) wE_put hwI4 rfl (by show (0 : Int) ≤ _; omega) (by show _ ≤ (240 : Int); omega)
        have hfI14 : fresh (sh, I14, L, R) := by rw [eI14]; exact fresh_I hfI4 c94
        have v15 : I14 94 46 = fv := by rw [eI14, up2_ne (fun e => by cases e.2)]; exact v5
        have v16 : I14 94 34 = tp := by rw [eI14, up2_ne (fun e => by cases e.2)]; exact v6
        have v17 : I14 122 (fv).toNatClampNeg = x := by rw [eI14, up2_ne (fun e => by cases e.1)]; exact v7
        have v19 : I14 94 47 = (fv + 1) := by rw [eI14]; exact up2_eq
        refine XW.fam (S' := (268, [(0, .ref 94)], [.ref 94], (sh, I14, L, R))) (M := mr_278) rfl (show mcode 278 267 = some (267, .aload_n 0, 1, 0, 0, 0, _) from rfl) (Or.inl ⟨.ref 94, rfl, rfl⟩) ?_
        refine XW.fam (S' := (269, [(0, .ref 94)], [.ref 94, .ref 94], (sh, I14, L, R))) (M := mr_278) rfl (show mcode 278 268 = some (268, .aload_n 0, 1, 0, 0, 0, _) from rfl) (Or.inl ⟨.ref 94, rfl, rfl⟩) ?_
        refine XW.fam (S' := (272, [(0, .ref 94)], [.ref 122, .ref 94], (sh, I14, L, R))) (M := mr_278) rfl (show mcode 278 269 = some (269, .getfield 96, 3, 12, 33, 0, _) from rfl) (Or.inr (Or.inr (Or.inr (Or.inr (Or.inr (Or.inr (Or.inr (Or.inl ⟨_, _, rfl, fl_ld c94 r94_33 (by decide) (by decide), rfl⟩)))))))) ?_
        refine XW.fam (S' := (273, [(0, .ref 94)], [.ref 94, .ref 122, .ref 94], (sh, I14, L, R))) (M := mr_278) rfl (show mcode 278 272 = some (272, .aload_n 0, 1, 0, 0, 0, _) from rfl) (Or.inl ⟨.ref 94, rfl, rfl⟩) ?_
        refine XW.fam (S' := (276, [(0, .ref 94)], [.int (I14 94 46), .ref 122, .ref 94], (sh, I14, L, R))) (M := mr_278) rfl (show mcode 278 273 = some (273, .getfield 351, 3, 12, 46, 0, _) from rfl) (Or.inr (Or.inr (Or.inr (Or.inr (Or.inr (Or.inr (Or.inr (Or.inl ⟨_, _, rfl, fl_ldI c94 (by decide) (by decide), rfl⟩)))))))) ?_
        rw [v15]
        have hin20 : inR fv 240 = true := inR_of (by omega) (by omega)
        refine XW.fam (S' := (277, [(0, .ref 94)], [.int (I14 122 (fv).toNatClampNeg), .ref 94], (sh, I14, L, R))) (M := mr_278) rfl (show mcode 278 276 = some (276, .baload, 1, 0, 0, 0, _) from rfl) (Or.inr (Or.inr (Or.inl ⟨_, lda_y c122 hin20, rfl⟩))) ?_
        rw [v17]
        refine XW.fam (S' := (279, [(0, .ref 94)], [.int 32, .int x, .ref 94], (sh, I14, L, R))) (M := mr_278) rfl (show mcode 278 277 = some (277, .bipush 32, 2, 0, 0, 0, _) from rfl) (Or.inl ⟨.int 32, rfl, rfl⟩) ?_
        cases k21 : bcmp .le x 32 with
        | true =>
          have gk21 : (x).toInt ≤ 32 := icT (c := .le) (a := (x).toInt) (b := 32) rfl (by decide) k21
          refine XW.fam (S' := (294, [(0, .ref 94)], [.ref 94], (sh, I14, L, R))) (M := mr_278) rfl (show mcode 278 279 = some (279, .if_icmp .le 15, 3, 294, 0, 0, _) from rfl) (Or.inr (Or.inl ⟨294, [.ref 94], by simp [brn, k21], rfl⟩)) ?_
          refine XW.fam (S' := (295, [(0, .ref 94)], [.int (-1), .ref 94], (sh, I14, L, R))) (M := mr_278) rfl (show mcode 278 294 = some (294, .iconst (-1), 1, 0, 0, 0, _) from rfl) (Or.inl ⟨.int (-1), rfl, rfl⟩) ?_
          obtain ⟨I22, eI22⟩ : ∃ X, X = up2 I14 94 48 (-1) := ⟨_, rfl⟩
          refine XW.fam (S' := (298, [(0, .ref 94)], [], (sh, I22, L, R))) (M := mr_278) rfl (show mcode 278 295 = some (295, .putfield 354, 3, 12, 48, 0, _) from rfl) (Or.inr (Or.inr (Or.inr (Or.inr (Or.inr (Or.inr (Or.inr (Or.inr (Or.inl ⟨_, _, _, rfl, by rw [eI22]; exact stf_I c94 (by decide) (by decide) (by decide), rfl⟩))))))))) ?_
          have hwI22 : wOK (mkT vV []) (wE sh R) (sh, I22, L, R) := by rw [eI22]; exact wOK_u2 (q := 94) (k := 48) (x := (-1)) wE_put hwI14 rfl (by show ((-1) : Int) ≤ _; omega) (by show _ ≤ (127 : Int); omega)
          have hfI22 : fresh (sh, I22, L, R) := by rw [eI22]; exact fresh_I hfI14 c94
          have v23 : I22 94 46 = fv := by rw [eI22, up2_ne (fun e => by cases e.2)]; exact v15
          have v24 : I22 94 34 = tp := by rw [eI22, up2_ne (fun e => by cases e.2)]; exact v16
          have v25 : I22 122 (fv).toNatClampNeg = x := by rw [eI22, up2_ne (fun e => by cases e.1)]; exact v17
          have v26 : I22 94 47 = (fv + 1) := by rw [eI22, up2_ne (fun e => by cases e.2)]; exact v19
          have v27 : I22 94 48 = (-1) := by rw [eI22]; exact up2_eq
          refine XW.ret (r := none) ⟨rfl, by decide +kernel⟩ ?_
          refine ⟨rfl, hfI22, hwI22, fun q k hq => ?_, ?_, ?_, ?_⟩
          · show I22 q k = I q k
            rw [eI22, up2_ne (fun e => by rw [e.1, e.2] at hq; cases hq), eI14, up2_ne (fun e => by rw [e.1, e.2] at hq; cases hq), eI4, up2_ne (fun e => by rw [e.1, e.2] at hq; cases hq), hk2 q k (fun e => by rw [e.1, e.2] at hq; cases hq)]
          · show (I22 94 46).toInt = (p : Int)
            rw [eI22, up2_ne (by decide), eI14, up2_ne (by decide), eI4, up2_ne (by decide), efv]
            exact hfv
          · show (I22 94 47).toInt = (((if p < (I 94 34).toInt.toNat then (if tL (I 122 p).toInt = true then tE (cL (fun k => (I 122 k).toInt)) (I 94 34).toInt.toNat p else if tD (I 122 p).toInt = true then tE (cD (fun k => (I 122 k).toInt)) (I 94 34).toInt.toNat p else p + 1) else p) : Nat) : Int)
            rw [if_pos (by omega), if_neg nL, if_neg nD]
            rw [eI22, up2_ne (by decide), eI14, up2_eq]
            omega
          · show (I22 94 48).toInt = (if p < (I 94 34).toInt.toNat then (if tL (I 122 p).toInt = true then 1 else if tD (I 122 p).toInt = true then (if 4 < tE (cD (fun k => (I 122 k).toInt)) (I 94 34).toInt.toNat p - p then -1 else 2) else (if 32 < (I 122 p).toInt then (I 122 p).toInt else -1)) else 0)
            rw [if_pos (by omega), if_neg nL, if_neg nD]
            rw [if_neg (by omega)]
            rw [eI22, up2_eq]
            rfl
        | false =>
          have gk21 : ¬ ((x).toInt ≤ 32) := icF (c := .le) (a := (x).toInt) (b := 32) rfl (by decide) k21
          refine XW.fam (S' := (282, [(0, .ref 94)], [.ref 94], (sh, I14, L, R))) (M := mr_278) rfl (show mcode 278 279 = some (279, .if_icmp .le 15, 3, 294, 0, 0, _) from rfl) (Or.inr (Or.inl ⟨282, [.ref 94], by simp [brn, k21], rfl⟩)) ?_
          refine XW.fam (S' := (283, [(0, .ref 94)], [.ref 94, .ref 94], (sh, I14, L, R))) (M := mr_278) rfl (show mcode 278 282 = some (282, .aload_n 0, 1, 0, 0, 0, _) from rfl) (Or.inl ⟨.ref 94, rfl, rfl⟩) ?_
          refine XW.fam (S' := (286, [(0, .ref 94)], [.ref 122, .ref 94], (sh, I14, L, R))) (M := mr_278) rfl (show mcode 278 283 = some (283, .getfield 96, 3, 12, 33, 0, _) from rfl) (Or.inr (Or.inr (Or.inr (Or.inr (Or.inr (Or.inr (Or.inr (Or.inl ⟨_, _, rfl, fl_ld c94 r94_33 (by decide) (by decide), rfl⟩)))))))) ?_
          refine XW.fam (S' := (287, [(0, .ref 94)], [.ref 94, .ref 122, .ref 94], (sh, I14, L, R))) (M := mr_278) rfl (show mcode 278 286 = some (286, .aload_n 0, 1, 0, 0, 0, _) from rfl) (Or.inl ⟨.ref 94, rfl, rfl⟩) ?_
          refine XW.fam (S' := (290, [(0, .ref 94)], [.int (I14 94 46), .ref 122, .ref 94], (sh, I14, L, R))) (M := mr_278) rfl (show mcode 278 287 = some (287, .getfield 351, 3, 12, 46, 0, _) from rfl) (Or.inr (Or.inr (Or.inr (Or.inr (Or.inr (Or.inr (Or.inr (Or.inl ⟨_, _, rfl, fl_ldI c94 (by decide) (by decide), rfl⟩)))))))) ?_
          rw [v15]
          have hin28 : inR fv 240 = true := inR_of (by omega) (by omega)
          refine XW.fam (S' := (291, [(0, .ref 94)], [.int (I14 122 (fv).toNatClampNeg), .ref 94], (sh, I14, L, R))) (M := mr_278) rfl (show mcode 278 290 = some (290, .baload, 1, 0, 0, 0, _) from rfl) (Or.inr (Or.inr (Or.inl ⟨_, lda_y c122 hin28, rfl⟩))) ?_
          rw [v17]
          refine XW.fam (S' := (295, [(0, .ref 94)], [.int x, .ref 94], (sh, I14, L, R))) (M := mr_278) rfl (show mcode 278 291 = some (291, .goto 4, 3, 295, 0, 0, _) from rfl) (Or.inr (Or.inl ⟨295, [.int x, .ref 94], rfl, rfl⟩)) ?_
          obtain ⟨I29, eI29⟩ : ∃ X, X = up2 I14 94 48 x := ⟨_, rfl⟩
          refine XW.fam (S' := (298, [(0, .ref 94)], [], (sh, I29, L, R))) (M := mr_278) rfl (show mcode 278 295 = some (295, .putfield 354, 3, 12, 48, 0, _) from rfl) (Or.inr (Or.inr (Or.inr (Or.inr (Or.inr (Or.inr (Or.inr (Or.inr (Or.inl ⟨_, _, _, rfl, by rw [eI29]; exact stf_I c94 (by decide) (by decide) (by decide), rfl⟩))))))))) ?_
          have hwI29 : wOK (mkT vV []) (wE sh R) (sh, I29, L, R) := by rw [eI29]; exact wOK_u2 (q := 94) (k := 48) (x := x) wE_put hwI14 rfl (by show ((-1) : Int) ≤ _; omega) (by show _ ≤ (127 : Int); omega)
          have hfI29 : fresh (sh, I29, L, R) := by rw [eI29]; exact fresh_I hfI14 c94
          have v30 : I29 94 46 = fv := by rw [eI29, up2_ne (fun e => by cases e.2)]; exact v15
          have v31 : I29 94 34 = tp := by rw [eI29, up2_ne (fun e => by cases e.2)]; exact v16
          have v32 : I29 122 (fv).toNatClampNeg = x := by rw [eI29, up2_ne (fun e => by cases e.1)]; exact v17
          have v33 : I29 94 47 = (fv + 1) := by rw [eI29, up2_ne (fun e => by cases e.2)]; exact v19
          have v34 : I29 94 48 = x := by rw [eI29]; exact up2_eq
          refine XW.ret (r := none) ⟨rfl, by decide +kernel⟩ ?_
          refine ⟨rfl, hfI29, hwI29, fun q k hq => ?_, ?_, ?_, ?_⟩
          · show I29 q k = I q k
            rw [eI29, up2_ne (fun e => by rw [e.1, e.2] at hq; cases hq), eI14, up2_ne (fun e => by rw [e.1, e.2] at hq; cases hq), eI4, up2_ne (fun e => by rw [e.1, e.2] at hq; cases hq), hk2 q k (fun e => by rw [e.1, e.2] at hq; cases hq)]
          · show (I29 94 46).toInt = (p : Int)
            rw [eI29, up2_ne (by decide), eI14, up2_ne (by decide), eI4, up2_ne (by decide), efv]
            exact hfv
          · show (I29 94 47).toInt = (((if p < (I 94 34).toInt.toNat then (if tL (I 122 p).toInt = true then tE (cL (fun k => (I 122 k).toInt)) (I 94 34).toInt.toNat p else if tD (I 122 p).toInt = true then tE (cD (fun k => (I 122 k).toInt)) (I 94 34).toInt.toNat p else p + 1) else p) : Nat) : Int)
            rw [if_pos (by omega), if_neg nL, if_neg nD]
            rw [eI29, up2_ne (by decide), eI14, up2_eq]
            omega
          · show (I29 94 48).toInt = (if p < (I 94 34).toInt.toNat then (if tL (I 122 p).toInt = true then 1 else if tD (I 122 p).toInt = true then (if 4 < tE (cD (fun k => (I 122 k).toInt)) (I 94 34).toInt.toNat p - p then -1 else 2) else (if 32 < (I 122 p).toInt then (I 122 p).toInt else -1)) else 0)
            rw [if_pos (by omega), if_neg nL, if_neg nD]
            rw [if_pos (by omega)]
            rw [eI29, up2_eq]
            exact hx
      · skip
        have yD : tD (I 122 p).toInt = true := tD_iff.mpr (by omega)
        refine XW.fam (S' := (146, [(0, .ref 94)], [], (sh, I4, L, R))) (M := mr_278) rfl (show mcode 278 143 = some (143, .ifCond .eq 114, 3, 257, 0, 0, _) from rfl) (Or.inr (Or.inl ⟨146, [], rfl, rfl⟩)) ?_
        refine XW.fam (S' := (147, [(0, .ref 94)], [.ref 94], (sh, I4, L, R))) (M := mr_278) rfl (show mcode 278 146 = some (146, .aload_n 0, 1, 0, 0, 0, _) from rfl) (Or.inl ⟨.ref 94, rfl, rfl⟩) ?_
        refine XW.fam (S' := (148, [(0, .ref 94)], [.int 0, .ref 94], (sh, I4, L, R))) (M := mr_278) rfl (show mcode 278 147 = some (147, .iconst 0, 1, 0, 0, 0, _) from rfl) (Or.inl ⟨.int 0, rfl, rfl⟩) ?_
        obtain ⟨I35, eI35⟩ : ∃ X, X = up2 I4 94 49 0 := ⟨_, rfl⟩
        refine XW.fam (S' := (151, [(0, .ref 94)], [], (sh, I35, L, R))) (M := mr_278) rfl (show mcode 278 148 = some (148, .putfield 363, 3, 12, 49, 0, _) from rfl) (Or.inr (Or.inr (Or.inr (Or.inr (Or.inr (Or.inr (Or.inr (Or.inr (Or.inl ⟨_, _, _, rfl, by rw [eI35]; exact stf_I c94 (by decide) (by decide) (by decide), rfl⟩))))))))) ?_
        have hwI35 : wOK (mkT vV []) (wE sh R) (sh, I35, L, R) := by rw [eI35]; exact wOK_u2 (q := 94) (k := 49) (x := 0) wE_put hwI4 rfl (by show ((-2147483648) : Int) ≤ _; omega) (by show _ ≤ (2147483647 : Int); omega)
        have hfI35 : fresh (sh, I35, L, R) := by rw [eI35]; exact fresh_I hfI4 c94
        have v36 : I35 94 46 = fv := by rw [eI35, up2_ne (fun e => by cases e.2)]; exact v5
        have v37 : I35 94 34 = tp := by rw [eI35, up2_ne (fun e => by cases e.2)]; exact v6
        have v38 : I35 122 (fv).toNatClampNeg = x := by rw [eI35, up2_ne (fun e => by cases e.1)]; exact v7
        have v39 : I35 94 47 = fv := by rw [eI35, up2_ne (fun e => by cases e.2)]; exact v8
        have v40 : I35 94 49 = 0 := by rw [eI35]; exact up2_eq
        have eB : (fun k => (I35 122 k).toInt) = (fun k => (I 122 k).toInt) := funext (fun k => by rw [eI35, up2_ne (fun e => by cases e.1), eI4, up2_ne (fun e => by cases e.1), hk2 122 k (fun e => by cases e.1)])
        have eN : I35 94 34 = I 94 34 := by rw [eI35, up2_ne (by decide), eI4, up2_ne (by decide), hk2 94 34 (by decide)]
        refine nx_dg (d := d) (u := p) (J := I35) 300 fv (by omega) (by rw [eN]; omega) (by rw [eN]; omega) hwI35 hfI35 (fun _ _ _ _ => rfl) v39 (by rw [show fv.toInt.toNat = p by omega]) (fun {I5} hw5 hf5 hk5 h47 => ?_)
        rw [eB, eN] at h47
        have k46 : I5 94 46 = fv := (hk5 94 46 (by decide) (by decide)).trans v36
        obtain ⟨gv, egv⟩ : ∃ z : Int32, I5 94 47 = z := ⟨_, rfl⟩
        have hgv : gv.toInt = (tE (cD (fun k => (I 122 k).toInt)) (I 94 34).toInt.toNat p : Int) := by rw [← egv]; exact h47
        have hgr := tE_rng (c := cD (fun k => (I 122 k).toInt)) (n := (I 94 34).toInt.toNat) (p := p)
        have hgn := hgr.2 (by omega)
        have hgd := difS (a := gv) (b := fv) (by omega) (by omega)
        refine XW.fam (S' := (235, [(0, .ref 94)], [.ref 94], (sh, I5, L, R))) (M := mr_278) rfl (show mcode 278 234 = some (234, .aload_n 0, 1, 0, 0, 0, _) from rfl) (Or.inl ⟨.ref 94, rfl, rfl⟩) ?_
        refine XW.fam (S' := (236, [(0, .ref 94)], [.ref 94, .ref 94], (sh, I5, L, R))) (M := mr_278) rfl (show mcode 278 235 = some (235, .aload_n 0, 1, 0, 0, 0, _) from rfl) (Or.inl ⟨.ref 94, rfl, rfl⟩) ?_
        refine XW.fam (S' := (239, [(0, .ref 94)], [.int (I5 94 47), .ref 94], (sh, I5, L, R))) (M := mr_278) rfl (show mcode 278 236 = some (236, .getfield 348, 3, 12, 47, 0, _) from rfl) (Or.inr (Or.inr (Or.inr (Or.inr (Or.inr (Or.inr (Or.inr (Or.inl ⟨_, _, rfl, fl_ldI c94 (by decide) (by decide), rfl⟩)))))))) ?_
        rw [egv]
        refine XW.fam (S' := (240, [(0, .ref 94)], [.ref 94, .int gv, .ref 94], (sh, I5, L, R))) (M := mr_278) rfl (show mcode 278 239 = some (239, .aload_n 0, 1, 0, 0, 0, _) from rfl) (Or.inl ⟨.ref 94, rfl, rfl⟩) ?_
        refine XW.fam (S' := (243, [(0, .ref 94)], [.int (I5 94 46), .int gv, .ref 94], (sh, I5, L, R))) (M := mr_278) rfl (show mcode 278 240 = some (240, .getfield 351, 3, 12, 46, 0, _) from rfl) (Or.inr (Or.inr (Or.inr (Or.inr (Or.inr (Or.inr (Or.inr (Or.inl ⟨_, _, rfl, fl_ldI c94 (by decide) (by decide), rfl⟩)))))))) ?_
        rw [k46]
        refine XW.fam (S' := (244, [(0, .ref 94)], [.int (gv - fv), .ref 94], (sh, I5, L, R))) (M := mr_278) rfl (show mcode 278 243 = some (243, .isub, 1, 0, 0, 0, _) from rfl) (Or.inr (Or.inr (Or.inr (Or.inr (Or.inr (Or.inl ⟨_, rfl, rfl⟩)))))) ?_
        refine XW.fam (S' := (245, [(0, .ref 94)], [.int 4, .int (gv - fv), .ref 94], (sh, I5, L, R))) (M := mr_278) rfl (show mcode 278 244 = some (244, .iconst 4, 1, 0, 0, 0, _) from rfl) (Or.inl ⟨.int 4, rfl, rfl⟩) ?_
        cases k41 : bcmp .le (gv - fv) 4 with
        | true =>
          have gk41 : ((gv - fv)).toInt ≤ 4 := icT (c := .le) (a := ((gv - fv)).toInt) (b := 4) rfl (by decide) k41
          refine XW.fam (S' := (252, [(0, .ref 94)], [.ref 94], (sh, I5, L, R))) (M := mr_278) rfl (show mcode 278 245 = some (245, .if_icmp .le 7, 3, 252, 0, 0, _) from rfl) (Or.inr (Or.inl ⟨252, [.ref 94], by simp [brn, k41], rfl⟩)) ?_
          refine XW.fam (S' := (253, [(0, .ref 94)], [.int 2, .ref 94], (sh, I5, L, R))) (M := mr_278) rfl (show mcode 278 252 = some (252, .iconst 2, 1, 0, 0, 0, _) from rfl) (Or.inl ⟨.int 2, rfl, rfl⟩) ?_
          obtain ⟨I42, eI42⟩ : ∃ X, X = up2 I5 94 48 2 := ⟨_, rfl⟩
          refine XW.fam (S' := (256, [(0, .ref 94)], [], (sh, I42, L, R))) (M := mr_278) rfl (show mcode 278 253 = some (253, .putfield 354, 3, 12, 48, 0, _) from rfl) (Or.inr (Or.inr (Or.inr (Or.inr (Or.inr (Or.inr (Or.inr (Or.inr (Or.inl ⟨_, _, _, rfl, by rw [eI42]; exact stf_I c94 (by decide) (by decide) (by decide), rfl⟩))))))))) ?_
          have hwI42 : wOK (mkT vV []) (wE sh R) (sh, I42, L, R) := by rw [eI42]; exact wOK_u2 (q := 94) (k := 48) (x := 2) wE_put hw5 rfl (by show ((-1) : Int) ≤ _; omega) (by show _ ≤ (127 : Int); omega)
          have hfI42 : fresh (sh, I42, L, R) := by rw [eI42]; exact fresh_I hf5 c94
          have v43 : I42 94 46 = fv := by rw [eI42, up2_ne (fun e => by cases e.2)]; exact k46
          have v44 : I42 94 47 = gv := by rw [eI42, up2_ne (fun e => by cases e.2)]; exact egv
          have v45 : I42 94 48 = 2 := by rw [eI42]; exact up2_eq
          refine XW.ret (r := none) ⟨rfl, by decide +kernel⟩ ?_
          refine ⟨rfl, hfI42, hwI42, fun q k hq => ?_, ?_, ?_, ?_⟩
          · show I42 q k = I q k
            rw [eI42, up2_ne (fun e => by rw [e.1, e.2] at hq; cases hq), hk5 q k (fun e => by rw [e.1, e.2] at hq; cases hq) (fun e => by rw [e.1, e.2] at hq; cases hq), eI35, up2_ne (fun e => by rw [e.1, e.2] at hq; cases hq), eI4, up2_ne (fun e => by rw [e.1, e.2] at hq; cases hq), hk2 q k (fun e => by rw [e.1, e.2] at hq; cases hq)]
          · show (I42 94 46).toInt = (p : Int)
            rw [eI42, up2_ne (by decide), (hk5 94 46 (by decide) (by decide)), eI35, up2_ne (by decide), eI4, up2_ne (by decide), efv]
            exact hfv
          · show (I42 94 47).toInt = (((if p < (I 94 34).toInt.toNat then (if tL (I 122 p).toInt = true then tE (cL (fun k => (I 122 k).toInt)) (I 94 34).toInt.toNat p else if tD (I 122 p).toInt = true then tE (cD (fun k => (I 122 k).toInt)) (I 94 34).toInt.toNat p else p + 1) else p) : Nat) : Int)
            rw [if_pos (by omega), if_neg nL, if_pos yD]
            rw [eI42, up2_ne (by decide)]
            exact h47
          · show (I42 94 48).toInt = (if p < (I 94 34).toInt.toNat then (if tL (I 122 p).toInt = true then 1 else if tD (I 122 p).toInt = true then (if 4 < tE (cD (fun k => (I 122 k).toInt)) (I 94 34).toInt.toNat p - p then -1 else 2) else (if 32 < (I 122 p).toInt then (I 122 p).toInt else -1)) else 0)
            rw [if_pos (by omega), if_neg nL, if_pos yD]
            rw [if_neg (by omega)]
            rw [eI42, up2_eq]
            rfl
        | false =>
          have gk41 : ¬ (((gv - fv)).toInt ≤ 4) := icF (c := .le) (a := ((gv - fv)).toInt) (b := 4) rfl (by decide) k41
          refine XW.fam (S' := (248, [(0, .ref 94)], [.ref 94], (sh, I5, L, R))) (M := mr_278) rfl (show mcode 278 245 = some (245, .if_icmp .le 7, 3, 252, 0, 0, _) from rfl) (Or.inr (Or.inl ⟨248, [.ref 94], by simp [brn, k41], rfl⟩)) ?_
          refine XW.fam (S' := (249, [(0, .ref 94)], [.int (-1), .ref 94], (sh, I5, L, R))) (M := mr_278) rfl (show mcode 278 248 = some (248, .iconst (-1), 1, 0, 0, 0, _) from rfl) (Or.inl ⟨.int (-1), rfl, rfl⟩) ?_
          refine XW.fam (S' := (253, [(0, .ref 94)], [.int (-1), .ref 94], (sh, I5, L, R))) (M := mr_278) rfl (show mcode 278 249 = some (249, .goto 4, 3, 253, 0, 0, _) from rfl) (Or.inr (Or.inl ⟨253, [.int (-1), .ref 94], rfl, rfl⟩)) ?_
          obtain ⟨I46, eI46⟩ : ∃ X, X = up2 I5 94 48 (-1) := ⟨_, rfl⟩
          refine XW.fam (S' := (256, [(0, .ref 94)], [], (sh, I46, L, R))) (M := mr_278) rfl (show mcode 278 253 = some (253, .putfield 354, 3, 12, 48, 0, _) from rfl) (Or.inr (Or.inr (Or.inr (Or.inr (Or.inr (Or.inr (Or.inr (Or.inr (Or.inl ⟨_, _, _, rfl, by rw [eI46]; exact stf_I c94 (by decide) (by decide) (by decide), rfl⟩))))))))) ?_
          have hwI46 : wOK (mkT vV []) (wE sh R) (sh, I46, L, R) := by rw [eI46]; exact wOK_u2 (q := 94) (k := 48) (x := (-1)) wE_put hw5 rfl (by show ((-1) : Int) ≤ _; omega) (by show _ ≤ (127 : Int); omega)
          have hfI46 : fresh (sh, I46, L, R) := by rw [eI46]; exact fresh_I hf5 c94
          have v47 : I46 94 46 = fv := by rw [eI46, up2_ne (fun e => by cases e.2)]; exact k46
          have v48 : I46 94 47 = gv := by rw [eI46, up2_ne (fun e => by cases e.2)]; exact egv
          have v49 : I46 94 48 = (-1) := by rw [eI46]; exact up2_eq
          refine XW.ret (r := none) ⟨rfl, by decide +kernel⟩ ?_
          refine ⟨rfl, hfI46, hwI46, fun q k hq => ?_, ?_, ?_, ?_⟩
          · show I46 q k = I q k
            rw [eI46, up2_ne (fun e => by rw [e.1, e.2] at hq; cases hq), hk5 q k (fun e => by rw [e.1, e.2] at hq; cases hq) (fun e => by rw [e.1, e.2] at hq; cases hq), eI35, up2_ne (fun e => by rw [e.1, e.2] at hq; cases hq), eI4, up2_ne (fun e => by rw [e.1, e.2] at hq; cases hq), hk2 q k (fun e => by rw [e.1, e.2] at hq; cases hq)]
          · show (I46 94 46).toInt = (p : Int)
            rw [eI46, up2_ne (by decide), (hk5 94 46 (by decide) (by decide)), eI35, up2_ne (by decide), eI4, up2_ne (by decide), efv]
            exact hfv
          · show (I46 94 47).toInt = (((if p < (I 94 34).toInt.toNat then (if tL (I 122 p).toInt = true then tE (cL (fun k => (I 122 k).toInt)) (I 94 34).toInt.toNat p else if tD (I 122 p).toInt = true then tE (cD (fun k => (I 122 k).toInt)) (I 94 34).toInt.toNat p else p + 1) else p) : Nat) : Int)
            rw [if_pos (by omega), if_neg nL, if_pos yD]
            rw [eI46, up2_ne (by decide)]
            exact h47
          · show (I46 94 48).toInt = (if p < (I 94 34).toInt.toNat then (if tL (I 122 p).toInt = true then 1 else if tD (I 122 p).toInt = true then (if 4 < tE (cD (fun k => (I 122 k).toInt)) (I 94 34).toInt.toNat p - p then -1 else 2) else (if 32 < (I 122 p).toInt then (I 122 p).toInt else -1)) else 0)
            rw [if_pos (by omega), if_neg nL, if_pos yD]
            rw [if_pos (by omega)]
            rw [eI46, up2_eq]
            rfl
    · skip
      have yL : tL (I 122 p).toInt = true := tL_iff.mpr (by omega)
      refine XW.fam (S' := (86, [(0, .ref 94)], [], (sh, I4, L, R))) (M := mr_278) rfl (show mcode 278 83 = some (83, .ifCond .eq 48, 3, 131, 0, 0, _) from rfl) (Or.inr (Or.inl ⟨86, [], rfl, rfl⟩)) ?_
      have eB : (fun k => (I4 122 k).toInt) = (fun k => (I 122 k).toInt) := funext (fun k => by rw [eI4, up2_ne (fun e => by cases e.1), hk2 122 k (fun e => by cases e.1)])
      have eN : I4 94 34 = I 94 34 := by rw [eI4, up2_ne (by decide), hk2 94 34 (by decide)]
      refine nx_lt (d := d) (u := p) (J := I4) 300 fv (by omega) (by rw [eN]; omega) (by rw [eN]; omega) hwI4 hfI4 (fun _ _ _ => rfl) v8 (by rw [show fv.toInt.toNat = p by omega]) (fun {I5} hw5 hf5 hk5 h47 => ?_)
      rw [eB, eN] at h47
      have k46 : I5 94 46 = fv := (hk5 94 46 (by decide)).trans v5
      obtain ⟨gv, egv⟩ : ∃ z : Int32, I5 94 47 = z := ⟨_, rfl⟩
      have hgv : gv.toInt = (tE (cL (fun k => (I 122 k).toInt)) (I 94 34).toInt.toNat p : Int) := by rw [← egv]; exact h47
      have hgr := tE_rng (c := cL (fun k => (I 122 k).toInt)) (n := (I 94 34).toInt.toNat) (p := p)
      have hgn := hgr.2 (by omega)
      have hgd := difS (a := gv) (b := fv) (by omega) (by omega)
      refine XW.fam (S' := (126, [(0, .ref 94)], [.ref 94], (sh, I5, L, R))) (M := mr_278) rfl (show mcode 278 125 = some (125, .aload_n 0, 1, 0, 0, 0, _) from rfl) (Or.inl ⟨.ref 94, rfl, rfl⟩) ?_
      refine XW.fam (S' := (127, [(0, .ref 94)], [.int 1, .ref 94], (sh, I5, L, R))) (M := mr_278) rfl (show mcode 278 126 = some (126, .iconst 1, 1, 0, 0, 0, _) from rfl) (Or.inl ⟨.int 1, rfl, rfl⟩) ?_
      obtain ⟨I50, eI50⟩ : ∃ X, X = up2 I5 94 48 1 := ⟨_, rfl⟩
      refine XW.fam (S' := (130, [(0, .ref 94)], [], (sh, I50, L, R))) (M := mr_278) rfl (show mcode 278 127 = some (127, .putfield 354, 3, 12, 48, 0, _) from rfl) (Or.inr (Or.inr (Or.inr (Or.inr (Or.inr (Or.inr (Or.inr (Or.inr (Or.inl ⟨_, _, _, rfl, by rw [eI50]; exact stf_I c94 (by decide) (by decide) (by decide), rfl⟩))))))))) ?_
      have hwI50 : wOK (mkT vV []) (wE sh R) (sh, I50, L, R) := by rw [eI50]; exact wOK_u2 (q := 94) (k := 48) (x := 1) wE_put hw5 rfl (by show ((-1) : Int) ≤ _; omega) (by show _ ≤ (127 : Int); omega)
      have hfI50 : fresh (sh, I50, L, R) := by rw [eI50]; exact fresh_I hf5 c94
      have v51 : I50 94 46 = fv := by rw [eI50, up2_ne (fun e => by cases e.2)]; exact k46
      have v52 : I50 94 47 = gv := by rw [eI50, up2_ne (fun e => by cases e.2)]; exact egv
      have v53 : I50 94 48 = 1 := by rw [eI50]; exact up2_eq
      refine XW.ret (r := none) ⟨rfl, by decide +kernel⟩ ?_
      refine ⟨rfl, hfI50, hwI50, fun q k hq => ?_, ?_, ?_, ?_⟩
      · show I50 q k = I q k
        rw [eI50, up2_ne (fun e => by rw [e.1, e.2] at hq; cases hq), hk5 q k (fun e => by rw [e.1, e.2] at hq; cases hq), eI4, up2_ne (fun e => by rw [e.1, e.2] at hq; cases hq), hk2 q k (fun e => by rw [e.1, e.2] at hq; cases hq)]
      · show (I50 94 46).toInt = (p : Int)
        rw [eI50, up2_ne (by decide), (hk5 94 46 (by decide)), eI4, up2_ne (by decide), efv]
        exact hfv
      · show (I50 94 47).toInt = (((if p < (I 94 34).toInt.toNat then (if tL (I 122 p).toInt = true then tE (cL (fun k => (I 122 k).toInt)) (I 94 34).toInt.toNat p else if tD (I 122 p).toInt = true then tE (cD (fun k => (I 122 k).toInt)) (I 94 34).toInt.toNat p else p + 1) else p) : Nat) : Int)
        rw [if_pos (by omega), if_pos yL]
        rw [eI50, up2_ne (by decide)]
        exact h47
      · show (I50 94 48).toInt = (if p < (I 94 34).toInt.toNat then (if tL (I 122 p).toInt = true then 1 else if tD (I 122 p).toInt = true then (if 4 < tE (cD (fun k => (I 122 k).toInt)) (I 94 34).toInt.toNat p - p then -1 else 2) else (if 32 < (I 122 p).toInt then (I 122 p).toInt else -1)) else 0)
        rw [if_pos (by omega), if_pos yL]
        rw [eI50, up2_eq]
        rfl
  | false =>
    have gk9 : ¬ (¬ (fv).toInt = (tp).toInt) := icF (c := .ne) (a := (fv).toInt) (b := (tp).toInt) rfl rfl k9
    refine XW.fam (S' := (65, [(0, .ref 94)], [], (sh, I4, L, R))) (M := mr_278) rfl (show mcode 278 62 = some (62, .if_icmp .ne 9, 3, 71, 0, 0, _) from rfl) (Or.inr (Or.inl ⟨65, [], by simp [brn, k9], rfl⟩)) ?_
    refine XW.fam (S' := (66, [(0, .ref 94)], [.ref 94], (sh, I4, L, R))) (M := mr_278) rfl (show mcode 278 65 = some (65, .aload_n 0, 1, 0, 0, 0, _) from rfl) (Or.inl ⟨.ref 94, rfl, rfl⟩) ?_
    refine XW.fam (S' := (67, [(0, .ref 94)], [.int 0, .ref 94], (sh, I4, L, R))) (M := mr_278) rfl (show mcode 278 66 = some (66, .iconst 0, 1, 0, 0, 0, _) from rfl) (Or.inl ⟨.int 0, rfl, rfl⟩) ?_
    obtain ⟨I54, eI54⟩ : ∃ X, X = up2 I4 94 48 0 := ⟨_, rfl⟩
    refine XW.fam (S' := (70, [(0, .ref 94)], [], (sh, I54, L, R))) (M := mr_278) rfl (show mcode 278 67 = some (67, .putfield 354, 3, 12, 48, 0, _) from rfl) (Or.inr (Or.inr (Or.inr (Or.inr (Or.inr (Or.inr (Or.inr (Or.inr (Or.inl ⟨_, _, _, rfl, by rw [eI54]; exact stf_I c94 (by decide) (by decide) (by decide), rfl⟩))))))))) ?_
    have hwI54 : wOK (mkT vV []) (wE sh R) (sh, I54, L, R) := by rw [eI54]; exact wOK_u2 (q := 94) (k := 48) (x := 0) wE_put hwI4 rfl (by show ((-1) : Int) ≤ _; omega) (by show _ ≤ (127 : Int); omega)
    have hfI54 : fresh (sh, I54, L, R) := by rw [eI54]; exact fresh_I hfI4 c94
    have v55 : I54 94 46 = fv := by rw [eI54, up2_ne (fun e => by cases e.2)]; exact v5
    have v56 : I54 94 34 = tp := by rw [eI54, up2_ne (fun e => by cases e.2)]; exact v6
    have v57 : I54 122 (fv).toNatClampNeg = x := by rw [eI54, up2_ne (fun e => by cases e.1)]; exact v7
    have v58 : I54 94 47 = fv := by rw [eI54, up2_ne (fun e => by cases e.2)]; exact v8
    have v59 : I54 94 48 = 0 := by rw [eI54]; exact up2_eq
    refine XW.ret (r := none) ⟨rfl, by decide +kernel⟩ ?_
    refine ⟨rfl, hfI54, hwI54, fun q k hq => ?_, ?_, ?_, ?_⟩
    · show I54 q k = I q k
      rw [eI54, up2_ne (fun e => by rw [e.1, e.2] at hq; cases hq), eI4, up2_ne (fun e => by rw [e.1, e.2] at hq; cases hq), hk2 q k (fun e => by rw [e.1, e.2] at hq; cases hq)]
    · show (I54 94 46).toInt = (p : Int)
      rw [eI54, up2_ne (by decide), eI4, up2_ne (by decide), efv]
      exact hfv
    · show (I54 94 47).toInt = (((if p < (I 94 34).toInt.toNat then (if tL (I 122 p).toInt = true then tE (cL (fun k => (I 122 k).toInt)) (I 94 34).toInt.toNat p else if tD (I 122 p).toInt = true then tE (cD (fun k => (I 122 k).toInt)) (I 94 34).toInt.toNat p else p + 1) else p) : Nat) : Int)
      rw [if_neg (by omega)]
      rw [eI54, up2_ne (by decide), eI4, up2_eq]
      exact hfv
    · show (I54 94 48).toInt = (if p < (I 94 34).toInt.toNat then (if tL (I 122 p).toInt = true then 1 else if tD (I 122 p).toInt = true then (if 4 < tE (cD (fun k => (I 122 k).toInt)) (I 94 34).toInt.toNat p - p then -1 else 2) else (if 32 < (I 122 p).toInt then (I 122 p).toInt else -1)) else 0)
      rw [if_neg (by omega)]
      rw [eI54, up2_eq]
      rfl
