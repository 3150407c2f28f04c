/-! ===== inForce (wip/genforce.py) ===== -/
/-- the newest rule below m that holds, or b -/
def rgF (b : Int) (mk fr : Nat → Int) (v d2 d3 : Int) : Nat → Int
  | 0 => b
  | m + 1 => if fr m ≤ d2 ∧ mk m + v ≤ d3 then (m : Int) else rgF b mk fr v d2 d3 m
theorem rgF_b {mk fr : Nat → Int} {v d2 d3 : Int} : ∀ {m : Nat}, rgF (-2) mk fr v d2 d3 m = (if 0 ≤ rgF (-1) mk fr v d2 d3 m then rgF (-1) mk fr v d2 d3 m else -2)
  | 0 => rfl
  | m + 1 => by
    show (if fr m ≤ d2 ∧ mk m + v ≤ d3 then (m : Int) else rgF (-2) mk fr v d2 d3 m) = (if 0 ≤ (if fr m ≤ d2 ∧ mk m + v ≤ d3 then (m : Int) else rgF (-1) mk fr v d2 d3 m) then (if fr m ≤ d2 ∧ mk m + v ≤ d3 then (m : Int) else rgF (-1) mk fr v d2 d3 m) else -2)
    by_cases c : fr m ≤ d2 ∧ mk m + v ≤ d3
    · rw [if_pos c, if_pos c, if_pos (by omega)]
    · rw [if_neg c, if_neg c]
      exact rgF_b
theorem rgF_v {b v v2 d2 d3 : Int} {mk fr : Nat → Int} (h : ∀ m, (mk m + v ≤ d3 ↔ mk m + v2 ≤ d3)) : ∀ {m : Nat}, rgF b mk fr v d2 d3 m = rgF b mk fr v2 d2 d3 m
  | 0 => rfl
  | m + 1 => by
    have ih := rgF_v (b := b) (d2 := d2) (fr := fr) h (m := m)
    have hm := h m
    show (if fr m ≤ d2 ∧ mk m + v ≤ d3 then (m : Int) else rgF b mk fr v d2 d3 m) = (if fr m ≤ d2 ∧ mk m + v2 ≤ d3 then (m : Int) else rgF b mk fr v2 d2 d3 m)
    by_cases c : fr m ≤ d2 ∧ mk m + v ≤ d3
    · rw [if_pos c, if_pos (by omega)]
    · rw [if_neg c, if_neg (by omega)]
      exact ih
theorem rgF_y {b v d2 d3 : Int} {mk fr : Nat → Int} {m : Nat} (h : fr m ≤ d2 ∧ mk m + v ≤ d3) : rgF b mk fr v d2 d3 (m + 1) = (m : Int) := if_pos h
theorem rgF_n {b v d2 d3 : Int} {mk fr : Nat → Int} {m : Nat} (h : ¬ (fr m ≤ d2 ∧ mk m + v ≤ d3)) : rgF b mk fr v d2 d3 (m + 1) = rgF b mk fr v d2 d3 m := if_neg h
theorem rgF_rng {b v d2 d3 : Int} {mk fr : Nat → Int} : ∀ {m : Nat}, rgF b mk fr v d2 d3 m = b ∨ (0 ≤ rgF b mk fr v d2 d3 m ∧ rgF b mk fr v d2 d3 m < (m : Int))
  | 0 => Or.inl rfl
  | m + 1 => by
    by_cases c : fr m ≤ d2 ∧ mk m + v ≤ d3
    · rw [rgF_y c]
      exact Or.inr ⟨by omega, by omega⟩
    · rw [rgF_n c]
      rcases rgF_rng (b := b) (v := v) (d2 := d2) (d3 := d3) (mk := mk) (fr := fr) (m := m) with h | h
      · exact Or.inl h
      · exact Or.inr ⟨h.1, by omega⟩
theorem tc_isDyC {d : Nat} {w : mW} {x : Int32} : Tc 71 (d + 1) 0 0 [.int x] w (fun r w' => ((r = some (.int 0) ∧ ¬ (0 ≤ x.toInt ∧ x.toInt ≤ 700)) ∨ (r = some (.int 1) ∧ 0 ≤ x.toInt ∧ x.toInt ≤ 700)) ∧ w' = w) := by
  have z0 : (0 : Int32).toInt = 0 := rfl
  have z1 : (1 : Int32).toInt = 1 := rfl
  have z700 : (700 : Int32).toInt = 700 := rfl
  refine Tc.of mr_71 rfl (show 1 ≤ mr_71.2.2.2.1 by decide) ?_
  refine XW.fam (S' := (1, [(0, .int x)], [.int x], w)) (M := mr_71) rfl (show mcode 71 0 = some (0, .iload_n 0, 1, 0, 0, 0, _) from rfl) (Or.inl ⟨.int x, rfl, rfl⟩) ?_
  cases k1 : bcmp .lt x 0 with
  | true =>
    have gk1 : (x).toInt < 0 := icT (c := .lt) (a := (x).toInt) (b := 0) rfl (by decide) k1
    refine XW.fam (S' := (15, [(0, .int x)], [], w)) (M := mr_71) rfl (show mcode 71 1 = some (1, .ifCond .lt 14, 3, 15, 0, 0, _) from rfl) (Or.inr (Or.inl ⟨15, [], by simp [brn, k1], rfl⟩)) ?_
    refine XW.fam (S' := (16, [(0, .int x)], [.int 0], w)) (M := mr_71) rfl (show mcode 71 15 = some (15, .iconst 0, 1, 0, 0, 0, _) from rfl) (Or.inl ⟨.int 0, rfl, rfl⟩) ?_
    refine XW.ret (r := some (.int 0)) ⟨⟨.boolean, rfl, rfl⟩, by decide +kernel⟩ ?_
    exact ⟨Or.inl ⟨rfl, fun q => by omega⟩, rfl⟩
  | false =>
    have gk1 : ¬ ((x).toInt < 0) := icF (c := .lt) (a := (x).toInt) (b := 0) rfl (by decide) k1
    refine XW.fam (S' := (4, [(0, .int x)], [], w)) (M := mr_71) rfl (show mcode 71 1 = some (1, .ifCond .lt 14, 3, 15, 0, 0, _) from rfl) (Or.inr (Or.inl ⟨4, [], by simp [brn, k1], rfl⟩)) ?_
    refine XW.fam (S' := (5, [(0, .int x)], [.int x], w)) (M := mr_71) rfl (show mcode 71 4 = some (4, .iload_n 0, 1, 0, 0, 0, _) from rfl) (Or.inl ⟨.int x, rfl, rfl⟩) ?_
    refine XW.fam (S' := (8, [(0, .int x)], [.int 700, .int x], w)) (M := mr_71) rfl (show mcode 71 5 = some (5, .sipush 700, 3, 0, 0, 0, _) from rfl) (Or.inl ⟨.int 700, rfl, rfl⟩) ?_
    cases k2 : bcmp .gt x 700 with
    | true =>
      have gk2 : 700 < (x).toInt := icT (c := .gt) (a := (x).toInt) (b := 700) rfl (by decide) k2
      refine XW.fam (S' := (15, [(0, .int x)], [], w)) (M := mr_71) rfl (show mcode 71 8 = some (8, .if_icmp .gt 7, 3, 15, 0, 0, _) from rfl) (Or.inr (Or.inl ⟨15, [], by simp [brn, k2], rfl⟩)) ?_
      refine XW.fam (S' := (16, [(0, .int x)], [.int 0], w)) (M := mr_71) rfl (show mcode 71 15 = some (15, .iconst 0, 1, 0, 0, 0, _) from rfl) (Or.inl ⟨.int 0, rfl, rfl⟩) ?_
      refine XW.ret (r := some (.int 0)) ⟨⟨.boolean, rfl, rfl⟩, by decide +kernel⟩ ?_
      exact ⟨Or.inl ⟨rfl, fun q => by omega⟩, rfl⟩
    | false =>
      have gk2 : ¬ (700 < (x).toInt) := icF (c := .gt) (a := (x).toInt) (b := 700) rfl (by decide) k2
      refine XW.fam (S' := (11, [(0, .int x)], [], w)) (M := mr_71) rfl (show mcode 71 8 = some (8, .if_icmp .gt 7, 3, 15, 0, 0, _) from rfl) (Or.inr (Or.inl ⟨11, [], by simp [brn, k2], rfl⟩)) ?_
      refine XW.fam (S' := (12, [(0, .int x)], [.int 1], w)) (M := mr_71) rfl (show mcode 71 11 = some (11, .iconst 1, 1, 0, 0, 0, _) from rfl) (Or.inl ⟨.int 1, rfl, rfl⟩) ?_
      refine XW.fam (S' := (16, [(0, .int x)], [.int 1], w)) (M := mr_71) rfl (show mcode 71 12 = some (12, .goto 4, 3, 16, 0, 0, _) from rfl) (Or.inr (Or.inl ⟨16, [.int 1], rfl, rfl⟩)) ?_
      refine XW.ret (r := some (.int 1)) ⟨⟨.boolean, rfl, rfl⟩, by decide +kernel⟩ ?_
      exact ⟨Or.inr ⟨rfl, by omega⟩, rfl⟩
theorem tc_isDyM {d : Nat} {w : mW} {x : Int32} : Tc 263 (d + 1) 0 0 [.int x] w (fun r w' => ((r = some (.int 0) ∧ ¬ (0 ≤ x.toInt ∧ x.toInt ≤ 700)) ∨ (r = some (.int 1) ∧ 0 ≤ x.toInt ∧ x.toInt ≤ 700)) ∧ w' = w) := by
  have z0 : (0 : Int32).toInt = 0 := rfl
  have z700 : (700 : Int32).toInt = 700 := rfl
  refine Tc.of mr_263 rfl (show 1 ≤ mr_263.2.2.2.1 by decide) ?_
  refine XW.fam (S' := (1, [(0, .int x)], [.int x], w)) (M := mr_263) rfl (show mcode 263 0 = some (0, .iload_n 0, 1, 0, 0, 0, _) from rfl) (Or.inl ⟨.int x, rfl, rfl⟩) ?_
  refine XW.fam (S' := (2, [(0, .int x)], [.int 0, .int x], w)) (M := mr_263) rfl (show mcode 263 1 = some (1, .iconst 0, 1, 0, 0, 0, _) from rfl) (Or.inl ⟨.int 0, rfl, rfl⟩) ?_
  refine XW.fam (S' := (5, [(0, .int x)], [.int 700, .int 0, .int x], w)) (M := mr_263) rfl (show mcode 263 2 = some (2, .sipush 700, 3, 0, 0, 0, _) from rfl) (Or.inl ⟨.int 700, rfl, rfl⟩) ?_
  refine XW.call (d' := d) (mc' := 0) (ms' := 0) (av := [.int x, .int 0, .int 700]) (rest := []) (M := mr_263) (Ma := mr_236) rfl (show mcode 263 5 = some (5, .invokestatic 254, 3, 236, 0, 0, _) from rfl) rfl (by decide) (by decide) rfl rfl rfl (show 0 ≤ 8 by decide) (tc_inM) (by omega) (Nat.zero_le _) (Nat.zero_le _) (fun rQ1 wQ1 Q1 => ?_)
  obtain ⟨hQ1, rfl⟩ := Q1
  rcases hQ1 with ⟨rfl, gQ1⟩ | ⟨rfl, gQ1⟩
  · skip
    refine XW.ret (r := some (.int 0)) ⟨⟨.boolean, rfl, rfl⟩, by decide +kernel⟩ ?_
    exact ⟨Or.inl ⟨rfl, fun q => by omega⟩, rfl⟩
  · skip
    refine XW.ret (r := some (.int 1)) ⟨⟨.boolean, rfl, rfl⟩, by decide +kernel⟩ ?_
    exact ⟨Or.inr ⟨rfl, by omega⟩, rfl⟩
theorem rulC_lp {d : Nat} {sh : List mE} {I : Nat → Nat → Int32} {L : Nat → Nat → Int64} {R : Nat → Nat → Option Nat} {p d2 d3 v : Int32} (hw : wOK (mkT vV []) (wE sh R) (sh, I, L, R)) (hp : 0 ≤ p.toInt ∧ p.toInt ≤ 19) (hv : v.toInt = (rwT I 8 0 p.toInt.toNat)) (hvr : 0 ≤ v.toInt ∧ v.toInt ≤ 1000000) : ∀ (z : Nat) (iv : Int32), iv.toInt = (z : Int) - 1 → z ≤ 20 → XW 115 mr_115 none (d + 2) 0 0 (fun r w' => (∃ y : Int32, r = some (.int y) ∧ y.toInt = rgF (-1) (fun k => (I 48 k).toInt) (fun k => (I 49 k).toInt) (rwT I 8 0 p.toInt.toNat) d2.toInt d3.toInt z) ∧ w' = (sh, I, L, R)) (19, [(5, .int iv), (4, .int v), (0, .ref 47), (1, .int p), (2, .int d2), (3, .int d3)], [], (sh, I, L, R)) := by
  have c47 : sh[47]? = some (.inr 6) := hw.1 47 _ rfl
  have c48 : sh[48]? = some (.inl (.int, 20)) := hw.1 48 _ rfl
  have c49 : sh[49]? = some (.inl (.int, 20)) := hw.1 49 _ rfl
  have r47_4 : R 47 4 = some 48 := hw.2.1 47 4 _ rfl
  have r47_5 : R 47 5 = some 49 := hw.2.1 47 5 _ rfl
  have zm1 : ((-1) : Int32).toInt = (-1) := rfl
  have z0 : (0 : Int32).toInt = 0 := rfl
  intro z
  induction z with
  | zero =>
    intro iv hiv hz
    refine XW.fam (S' := (21, [(5, .int iv), (4, .int v), (0, .ref 47), (1, .int p), (2, .int d2), (3, .int d3)], [.int iv], (sh, I, L, R))) (M := mr_115) rfl (show mcode 115 19 = some (19, .iload 5, 2, 0, 0, 0, _) from rfl) (Or.inl ⟨.int iv, rfl, rfl⟩) ?_
    have k1 : bcmp .lt iv 0 = true := bcT (c := .lt) (a := (iv).toInt) (b := 0) rfl (by decide) (by show (iv).toInt < 0; omega)
    refine XW.fam (S' := (58, [(5, .int iv), (4, .int v), (0, .ref 47), (1, .int p), (2, .int d2), (3, .int d3)], [], (sh, I, L, R))) (M := mr_115) rfl (show mcode 115 21 = some (21, .ifCond .lt 37, 3, 58, 0, 0, _) from rfl) (Or.inr (Or.inl ⟨58, [], by simp [brn, k1], rfl⟩)) ?_
    refine XW.fam (S' := (59, [(5, .int iv), (4, .int v), (0, .ref 47), (1, .int p), (2, .int d2), (3, .int d3)], [.int (-1)], (sh, I, L, R))) (M := mr_115) rfl (show mcode 115 58 = some (58, .iconst (-1), 1, 0, 0, 0, _) from rfl) (Or.inl ⟨.int (-1), rfl, rfl⟩) ?_
    refine XW.ret (r := some (.int (-1))) ⟨⟨.int, rfl, rfl⟩, by decide +kernel⟩ ?_
    exact ⟨⟨_, rfl, rfl⟩, rfl⟩
  | succ z ih =>
    intro iv hiv hz
    have ez : (iv).toNatClampNeg = z := by show iv.toInt.toNat = z; omega
    obtain ⟨mk, emk⟩ : ∃ y : Int32, I 48 (iv).toNatClampNeg = y := ⟨_, rfl⟩
    obtain ⟨fr, efr⟩ : ∃ y : Int32, I 49 (iv).toNatClampNeg = y := ⟨_, rfl⟩
    have hmk : (I 48 z).toInt = mk.toInt := by rw [← emk, ez]
    have hfr : (I 49 z).toInt = fr.toInt := by rw [← efr, ez]
    have hmr : 0 ≤ (I 48 z).toInt ∧ (I 48 z).toInt ≤ 700 := hw.2.2.1 48 z
    have xs : (mk + v).toInt = mk.toInt + v.toInt := add_i (by unfold lo32; omega) (by unfold hi32; omega)
    refine XW.fam (S' := (21, [(5, .int iv), (4, .int v), (0, .ref 47), (1, .int p), (2, .int d2), (3, .int d3)], [.int iv], (sh, I, L, R))) (M := mr_115) rfl (show mcode 115 19 = some (19, .iload 5, 2, 0, 0, 0, _) from rfl) (Or.inl ⟨.int iv, rfl, rfl⟩) ?_
    have k1 : bcmp .lt iv 0 = false := bcF (c := .lt) (a := (iv).toInt) (b := 0) rfl (by decide) (by show ¬ ((iv).toInt < 0); omega)
    refine XW.fam (S' := (24, [(5, .int iv), (4, .int v), (0, .ref 47), (1, .int p), (2, .int d2), (3, .int d3)], [], (sh, I, L, R))) (M := mr_115) rfl (show mcode 115 21 = some (21, .ifCond .lt 37, 3, 58, 0, 0, _) from rfl) (Or.inr (Or.inl ⟨24, [], by simp [brn, k1], rfl⟩)) ?_
    refine XW.fam (S' := (25, [(5, .int iv), (4, .int v), (0, .ref 47), (1, .int p), (2, .int d2), (3, .int d3)], [.ref 47], (sh, I, L, R))) (M := mr_115) rfl (show mcode 115 24 = some (24, .aload_n 0, 1, 0, 0, 0, _) from rfl) (Or.inl ⟨.ref 47, rfl, rfl⟩) ?_
    refine XW.fam (S' := (28, [(5, .int iv), (4, .int v), (0, .ref 47), (1, .int p), (2, .int d2), (3, .int d3)], [.ref 48], (sh, I, L, R))) (M := mr_115) rfl (show mcode 115 25 = some (25, .getfield 9, 3, 6, 4, 0, _) from rfl) (Or.inr (Or.inr (Or.inr (Or.inr (Or.inr (Or.inr (Or.inr (Or.inl ⟨_, _, rfl, fl_ld c47 r47_4 (by decide) (by decide), rfl⟩)))))))) ?_
    refine XW.fam (S' := (30, [(5, .int iv), (4, .int v), (0, .ref 47), (1, .int p), (2, .int d2), (3, .int d3)], [.int iv, .ref 48], (sh, I, L, R))) (M := mr_115) rfl (show mcode 115 28 = some (28, .iload 5, 2, 0, 0, 0, _) from rfl) (Or.inl ⟨.int iv, rfl, rfl⟩) ?_
    have hin2 : inR iv 20 = true := inR_of (by omega) (by omega)
    refine XW.fam (S' := (31, [(5, .int iv), (4, .int v), (0, .ref 47), (1, .int p), (2, .int d2), (3, .int d3)], [.int (I 48 (iv).toNatClampNeg)], (sh, I, L, R))) (M := mr_115) rfl (show mcode 115 30 = some (30, .iaload, 1, 0, 0, 0, _) from rfl) (Or.inr (Or.inr (Or.inl ⟨_, lda_i c48 hin2, rfl⟩))) ?_
    rw [emk]
    refine XW.fam (S' := (33, [(5, .int iv), (4, .int v), (0, .ref 47), (1, .int p), (2, .int d2), (3, .int d3)], [.int v, .int mk], (sh, I, L, R))) (M := mr_115) rfl (show mcode 115 31 = some (31, .iload 4, 2, 0, 0, 0, _) from rfl) (Or.inl ⟨.int v, rfl, rfl⟩) ?_
    refine XW.fam (S' := (34, [(5, .int iv), (4, .int v), (0, .ref 47), (1, .int p), (2, .int d2), (3, .int d3)], [.int (mk + v)], (sh, I, L, R))) (M := mr_115) rfl (show mcode 115 33 = some (33, .iadd, 1, 0, 0, 0, _) from rfl) (Or.inr (Or.inr (Or.inr (Or.inr (Or.inr (Or.inl ⟨_, rfl, rfl⟩)))))) ?_
    refine XW.fam (S' := (35, [(5, .int iv), (4, .int v), (0, .ref 47), (1, .int p), (2, .int d2), (3, .int d3)], [.int d3, .int (mk + v)], (sh, I, L, R))) (M := mr_115) rfl (show mcode 115 34 = some (34, .iload_n 3, 1, 0, 0, 0, _) from rfl) (Or.inl ⟨.int d3, rfl, rfl⟩) ?_
    cases k3 : bcmp .gt (mk + v) d3 with
    | true =>
      have gk3 : (d3).toInt < ((mk + v)).toInt := icT (c := .gt) (a := ((mk + v)).toInt) (b := (d3).toInt) rfl rfl k3
      refine XW.fam (S' := (52, [(5, .int iv), (4, .int v), (0, .ref 47), (1, .int p), (2, .int d2), (3, .int d3)], [], (sh, I, L, R))) (M := mr_115) rfl (show mcode 115 35 = some (35, .if_icmp .gt 17, 3, 52, 0, 0, _) from rfl) (Or.inr (Or.inl ⟨52, [], by simp [brn, k3], rfl⟩)) ?_
      refine XW.fam (S' := (55, [(5, .int (iv + Int32.ofInt (-1))), (4, .int v), (0, .ref 47), (1, .int p), (2, .int d2), (3, .int d3)], [], (sh, I, L, R))) (M := mr_115) rfl (show mcode 115 52 = some (52, .iinc 5 (-1), 3, 0, 0, 0, _) from rfl) (Or.inr (Or.inr (Or.inr (Or.inr (Or.inr (Or.inr (Or.inr (Or.inr (Or.inr ⟨5, (-1), iv, rfl, rfl, by decide, rfl⟩))))))))) ?_
      refine XW.fam (S' := (19, [(5, .int (iv + Int32.ofInt (-1))), (4, .int v), (0, .ref 47), (1, .int p), (2, .int d2), (3, .int d3)], [], (sh, I, L, R))) (M := mr_115) rfl (show mcode 115 55 = some (55, .goto (-36), 3, 19, 0, 0, _) from rfl) (Or.inr (Or.inl ⟨19, [], rfl, rfl⟩)) ?_
      have eo := decO (m := iv) (by omega) (by omega)
      obtain ⟨i9, ei9⟩ : ∃ z : Int32, iv + Int32.ofInt (-1) = z := ⟨_, rfl⟩
      rw [ei9] at eo
      rw [ei9]
      clear ei9
      refine XW.sub (ls' := [(5, .int i9), (4, .int v), (0, .ref 47), (1, .int p), (2, .int d2), (3, .int d3)]) (List.forall_mem_cons.mpr ⟨List.mem_of_getElem? (i := 0) rfl, (List.forall_mem_cons.mpr ⟨List.mem_of_getElem? (i := 1) rfl, (List.forall_mem_cons.mpr ⟨List.mem_of_getElem? (i := 2) rfl, (List.forall_mem_cons.mpr ⟨List.mem_of_getElem? (i := 3) rfl, (List.forall_mem_cons.mpr ⟨List.mem_of_getElem? (i := 4) rfl, (List.forall_mem_cons.mpr ⟨List.mem_of_getElem? (i := 5) rfl, (fun _ h => absurd h List.not_mem_nil)⟩)⟩)⟩)⟩)⟩)⟩) ?_
      rw [rgF_n (fun q => by have q1 : (I 49 z).toInt ≤ _ := q.1; have q2 : (I 48 z).toInt + _ ≤ _ := q.2; omega)]
      exact ih i9 (by omega) (by omega)
    | false =>
      have gk3 : ¬ ((d3).toInt < ((mk + v)).toInt) := icF (c := .gt) (a := ((mk + v)).toInt) (b := (d3).toInt) rfl rfl k3
      refine XW.fam (S' := (38, [(5, .int iv), (4, .int v), (0, .ref 47), (1, .int p), (2, .int d2), (3, .int d3)], [], (sh, I, L, R))) (M := mr_115) rfl (show mcode 115 35 = some (35, .if_icmp .gt 17, 3, 52, 0, 0, _) from rfl) (Or.inr (Or.inl ⟨38, [], by simp [brn, k3], rfl⟩)) ?_
      refine XW.fam (S' := (39, [(5, .int iv), (4, .int v), (0, .ref 47), (1, .int p), (2, .int d2), (3, .int d3)], [.ref 47], (sh, I, L, R))) (M := mr_115) rfl (show mcode 115 38 = some (38, .aload_n 0, 1, 0, 0, 0, _) from rfl) (Or.inl ⟨.ref 47, rfl, rfl⟩) ?_
      refine XW.fam (S' := (42, [(5, .int iv), (4, .int v), (0, .ref 47), (1, .int p), (2, .int d2), (3, .int d3)], [.ref 49], (sh, I, L, R))) (M := mr_115) rfl (show mcode 115 39 = some (39, .getfield 15, 3, 6, 5, 0, _) from rfl) (Or.inr (Or.inr (Or.inr (Or.inr (Or.inr (Or.inr (Or.inr (Or.inl ⟨_, _, rfl, fl_ld c47 r47_5 (by decide) (by decide), rfl⟩)))))))) ?_
      refine XW.fam (S' := (44, [(5, .int iv), (4, .int v), (0, .ref 47), (1, .int p), (2, .int d2), (3, .int d3)], [.int iv, .ref 49], (sh, I, L, R))) (M := mr_115) rfl (show mcode 115 42 = some (42, .iload 5, 2, 0, 0, 0, _) from rfl) (Or.inl ⟨.int iv, rfl, rfl⟩) ?_
      have hin4 : inR iv 20 = true := inR_of (by omega) (by omega)
      refine XW.fam (S' := (45, [(5, .int iv), (4, .int v), (0, .ref 47), (1, .int p), (2, .int d2), (3, .int d3)], [.int (I 49 (iv).toNatClampNeg)], (sh, I, L, R))) (M := mr_115) rfl (show mcode 115 44 = some (44, .iaload, 1, 0, 0, 0, _) from rfl) (Or.inr (Or.inr (Or.inl ⟨_, lda_i c49 hin4, rfl⟩))) ?_
      rw [efr]
      refine XW.fam (S' := (46, [(5, .int iv), (4, .int v), (0, .ref 47), (1, .int p), (2, .int d2), (3, .int d3)], [.int d2, .int fr], (sh, I, L, R))) (M := mr_115) rfl (show mcode 115 45 = some (45, .iload_n 2, 1, 0, 0, 0, _) from rfl) (Or.inl ⟨.int d2, rfl, rfl⟩) ?_
      cases k5 : bcmp .gt fr d2 with
      | true =>
        have gk5 : (d2).toInt < (fr).toInt := icT (c := .gt) (a := (fr).toInt) (b := (d2).toInt) rfl rfl k5
        refine XW.fam (S' := (52, [(5, .int iv), (4, .int v), (0, .ref 47), (1, .int p), (2, .int d2), (3, .int d3)], [], (sh, I, L, R))) (M := mr_115) rfl (show mcode 115 46 = some (46, .if_icmp .gt 6, 3, 52, 0, 0, _) from rfl) (Or.inr (Or.inl ⟨52, [], by simp [brn, k5], rfl⟩)) ?_
        refine XW.fam (S' := (55, [(5, .int (iv + Int32.ofInt (-1))), (4, .int v), (0, .ref 47), (1, .int p), (2, .int d2), (3, .int d3)], [], (sh, I, L, R))) (M := mr_115) rfl (show mcode 115 52 = some (52, .iinc 5 (-1), 3, 0, 0, 0, _) from rfl) (Or.inr (Or.inr (Or.inr (Or.inr (Or.inr (Or.inr (Or.inr (Or.inr (Or.inr ⟨5, (-1), iv, rfl, rfl, by decide, rfl⟩))))))))) ?_
        refine XW.fam (S' := (19, [(5, .int (iv + Int32.ofInt (-1))), (4, .int v), (0, .ref 47), (1, .int p), (2, .int d2), (3, .int d3)], [], (sh, I, L, R))) (M := mr_115) rfl (show mcode 115 55 = some (55, .goto (-36), 3, 19, 0, 0, _) from rfl) (Or.inr (Or.inl ⟨19, [], rfl, rfl⟩)) ?_
        have eo := decO (m := iv) (by omega) (by omega)
        obtain ⟨i9, ei9⟩ : ∃ z : Int32, iv + Int32.ofInt (-1) = z := ⟨_, rfl⟩
        rw [ei9] at eo
        rw [ei9]
        clear ei9
        refine XW.sub (ls' := [(5, .int i9), (4, .int v), (0, .ref 47), (1, .int p), (2, .int d2), (3, .int d3)]) (List.forall_mem_cons.mpr ⟨List.mem_of_getElem? (i := 0) rfl, (List.forall_mem_cons.mpr ⟨List.mem_of_getElem? (i := 1) rfl, (List.forall_mem_cons.mpr ⟨List.mem_of_getElem? (i := 2) rfl, (List.forall_mem_cons.mpr ⟨List.mem_of_getElem? (i := 3) rfl, (List.forall_mem_cons.mpr ⟨List.mem_of_getElem? (i := 4) rfl, (List.forall_mem_cons.mpr ⟨List.mem_of_getElem? (i := 5) rfl, (fun _ h => absurd h List.not_mem_nil)⟩)⟩)⟩)⟩)⟩)⟩) ?_
        rw [rgF_n (fun q => by have q1 : (I 49 z).toInt ≤ _ := q.1; have q2 : (I 48 z).toInt + _ ≤ _ := q.2; omega)]
        exact ih i9 (by omega) (by omega)
      | false =>
        have gk5 : ¬ ((d2).toInt < (fr).toInt) := icF (c := .gt) (a := (fr).toInt) (b := (d2).toInt) rfl rfl k5
        refine XW.fam (S' := (49, [(5, .int iv), (4, .int v), (0, .ref 47), (1, .int p), (2, .int d2), (3, .int d3)], [], (sh, I, L, R))) (M := mr_115) rfl (show mcode 115 46 = some (46, .if_icmp .gt 6, 3, 52, 0, 0, _) from rfl) (Or.inr (Or.inl ⟨49, [], by simp [brn, k5], rfl⟩)) ?_
        refine XW.fam (S' := (51, [(5, .int iv), (4, .int v), (0, .ref 47), (1, .int p), (2, .int d2), (3, .int d3)], [.int iv], (sh, I, L, R))) (M := mr_115) rfl (show mcode 115 49 = some (49, .iload 5, 2, 0, 0, 0, _) from rfl) (Or.inl ⟨.int iv, rfl, rfl⟩) ?_
        refine XW.ret (r := some (.int iv)) ⟨⟨.int, rfl, rfl⟩, by decide +kernel⟩ ?_
        refine ⟨⟨_, rfl, ?_⟩, rfl⟩
        rw [rgF_y ⟨by show (I 49 z).toInt ≤ _; omega, by show (I 48 z).toInt + _ ≤ _; omega⟩]
        omega
theorem tc_rulC {d : Nat} {sh : List mE} {I : Nat → Nat → Int32} {L : Nat → Nat → Int64} {R : Nat → Nat → Option Nat} {p d2 d3 : Int32} (hw : wOK (mkT vV []) (wE sh R) (sh, I, L, R)) (hp : 0 ≤ p.toInt ∧ p.toInt < (I 1 1).toInt) : Tc 115 (d + 2) 0 0 [.ref 47, .int p, .int d2, .int d3] (sh, I, L, R) (fun r w' => (∃ y : Int32, r = some (.int y) ∧ y.toInt = rgF (-1) (fun k => (I 48 k).toInt) (fun k => (I 49 k).toInt) (rwT I 8 0 p.toInt.toNat) d2.toInt d3.toInt (I 47 3).toInt.toNat) ∧ w' = (sh, I, L, R)) := by
  have c1 : sh[1]? = some (.inr 1) := hw.1 1 _ rfl
  have c47 : sh[47]? = some (.inr 6) := hw.1 47 _ rfl
  have r47_0 : R 47 0 = some 1 := hw.2.1 47 0 _ rfl
  have z0 : (0 : Int32).toInt = 0 := rfl
  have z1 : (1 : Int32).toInt = 1 := rfl
  have hpl : 0 ≤ (I 1 1).toInt ∧ (I 1 1).toInt ≤ 20 := hw.2.2.1 1 1
  have hcn : 0 ≤ (I 47 3).toInt ∧ (I 47 3).toInt ≤ 20 := hw.2.2.1 47 3
  obtain ⟨cn, ecn⟩ : ∃ z : Int32, I 47 3 = z := ⟨_, rfl⟩
  rw [ecn] at hcn ⊢
  refine Tc.of mr_115 rfl (show 4 ≤ mr_115.2.2.2.1 by decide) ?_
  refine XW.fam (S' := (1, [(0, .ref 47), (1, .int p), (2, .int d2), (3, .int d3)], [.ref 47], (sh, I, L, R))) (M := mr_115) rfl (show mcode 115 0 = some (0, .aload_n 0, 1, 0, 0, 0, _) from rfl) (Or.inl ⟨.ref 47, rfl, rfl⟩) ?_
  refine XW.fam (S' := (4, [(0, .ref 47), (1, .int p), (2, .int d2), (3, .int d3)], [.ref 1], (sh, I, L, R))) (M := mr_115) rfl (show mcode 115 1 = some (1, .getfield 29, 3, 6, 0, 0, _) from rfl) (Or.inr (Or.inr (Or.inr (Or.inr (Or.inr (Or.inr (Or.inr (Or.inl ⟨_, _, rfl, fl_ld c47 r47_0 (by decide) (by decide), rfl⟩)))))))) ?_
  refine XW.fam (S' := (5, [(0, .ref 47), (1, .int p), (2, .int d2), (3, .int d3)], [.int 0, .ref 1], (sh, I, L, R))) (M := mr_115) rfl (show mcode 115 4 = some (4, .iconst 0, 1, 0, 0, 0, _) from rfl) (Or.inl ⟨.int 0, rfl, rfl⟩) ?_
  refine XW.fam (S' := (6, [(0, .ref 47), (1, .int p), (2, .int d2), (3, .int d3)], [.int p, .int 0, .ref 1], (sh, I, L, R))) (M := mr_115) rfl (show mcode 115 5 = some (5, .iload_n 1, 1, 0, 0, 0, _) from rfl) (Or.inl ⟨.int p, rfl, rfl⟩) ?_
  refine XW.call (d' := d + 1) (mc' := 0) (ms' := 0) (av := [.ref 1, .int 0, .int p]) (rest := []) (M := mr_115) (Ma := mr_25) rfl (show mcode 115 6 = some (6, .invokevirtual 69, 3, 25, 0, 0, _) from rfl) rfl (by decide) (by decide) ⟨rfl, 1, _, rfl, c1⟩ rfl rfl (show 0 ≤ 8 by decide) (tc_way (d := d) (a := 0) (b := p) hw ⟨by decide, by have z0 : (0 : Int32).toInt = 0 := rfl; omega⟩ hp) (by omega) (Nat.zero_le _) (Nat.zero_le _) (fun rQ1 wQ1 Q1 => ?_)
  obtain ⟨⟨v, rfl, hv⟩, rfl⟩ := Q1
  refine XW.fam (S' := (11, [(4, .int v), (0, .ref 47), (1, .int p), (2, .int d2), (3, .int d3)], [], (sh, I, L, R))) (M := mr_115) rfl (show mcode 115 9 = some (9, .istore 4, 2, 0, 0, 0, _) from rfl) (Or.inr (Or.inr (Or.inr (Or.inr (Or.inr (Or.inr (Or.inl ⟨_, [], _, rfl, rfl, rfl⟩))))))) ?_
  refine XW.fam (S' := (12, [(4, .int v), (0, .ref 47), (1, .int p), (2, .int d2), (3, .int d3)], [.ref 47], (sh, I, L, R))) (M := mr_115) rfl (show mcode 115 11 = some (11, .aload_n 0, 1, 0, 0, 0, _) from rfl) (Or.inl ⟨.ref 47, rfl, rfl⟩) ?_
  refine XW.fam (S' := (15, [(4, .int v), (0, .ref 47), (1, .int p), (2, .int d2), (3, .int d3)], [.int (I 47 3)], (sh, I, L, R))) (M := mr_115) rfl (show mcode 115 12 = some (12, .getfield 41, 3, 6, 3, 0, _) from rfl) (Or.inr (Or.inr (Or.inr (Or.inr (Or.inr (Or.inr (Or.inr (Or.inl ⟨_, _, rfl, fl_ldI c47 (by decide) (by decide), rfl⟩)))))))) ?_
  rw [ecn]
  refine XW.fam (S' := (16, [(4, .int v), (0, .ref 47), (1, .int p), (2, .int d2), (3, .int d3)], [.int 1, .int cn], (sh, I, L, R))) (M := mr_115) rfl (show mcode 115 15 = some (15, .iconst 1, 1, 0, 0, 0, _) from rfl) (Or.inl ⟨.int 1, rfl, rfl⟩) ?_
  refine XW.fam (S' := (17, [(4, .int v), (0, .ref 47), (1, .int p), (2, .int d2), (3, .int d3)], [.int (cn - 1)], (sh, I, L, R))) (M := mr_115) rfl (show mcode 115 16 = some (16, .isub, 1, 0, 0, 0, _) from rfl) (Or.inr (Or.inr (Or.inr (Or.inr (Or.inr (Or.inl ⟨_, rfl, rfl⟩)))))) ?_
  refine XW.fam (S' := (19, [(5, .int (cn - 1)), (4, .int v), (0, .ref 47), (1, .int p), (2, .int d2), (3, .int d3)], [], (sh, I, L, R))) (M := mr_115) rfl (show mcode 115 17 = some (17, .istore 5, 2, 0, 0, 0, _) from rfl) (Or.inr (Or.inr (Or.inr (Or.inr (Or.inr (Or.inr (Or.inl ⟨_, [], _, rfl, rfl, rfl⟩))))))) ?_
  have xd := difS (a := cn) (b := 1) (by omega) (by omega)
  obtain ⟨iv, eiv⟩ : ∃ z : Int32, (cn - 1) = z := ⟨_, rfl⟩
  rw [eiv] at xd
  rw [eiv]
  clear eiv
  refine XW.sub (ls' := [(5, .int iv), (4, .int v), (0, .ref 47), (1, .int p), (2, .int d2), (3, .int d3)]) (List.forall_mem_cons.mpr ⟨List.mem_of_getElem? (i := 0) rfl, (List.forall_mem_cons.mpr ⟨List.mem_of_getElem? (i := 1) rfl, (List.forall_mem_cons.mpr ⟨List.mem_of_getElem? (i := 2) rfl, (List.forall_mem_cons.mpr ⟨List.mem_of_getElem? (i := 3) rfl, (List.forall_mem_cons.mpr ⟨List.mem_of_getElem? (i := 4) rfl, (List.forall_mem_cons.mpr ⟨List.mem_of_getElem? (i := 5) rfl, (fun _ h => absurd h List.not_mem_nil)⟩)⟩)⟩)⟩)⟩)⟩) ?_
  exact rulC_lp (d := d) hw (by omega) hv (by have z : 0 ≤ (I 8 (20 * (0 : Int32).toInt.toNat + p.toInt.toNat)).toInt ∧ (I 8 (20 * (0 : Int32).toInt.toNat + p.toInt.toNat)).toInt ≤ 1000000 := hw.2.2.1 8 _; have e : v.toInt = (I 8 (20 * (0 : Int32).toInt.toNat + p.toInt.toNat)).toInt := hv; omega) cn.toInt.toNat iv (by omega) (by omega)
theorem rulM_lp {d : Nat} {sh : List mE} {I : Nat → Nat → Int32} {L : Nat → Nat → Int64} {R : Nat → Nat → Option Nat} {p d2 d3 : Int32} (hw : wOK (mkT vV []) (wE sh R) (sh, I, L, R)) (hp : 0 ≤ p.toInt ∧ p.toInt ≤ 19) : ∀ (z : Nat) (iv : Int32), iv.toInt = (z : Int) - 1 → z ≤ 20 → XW 295 mr_295 none (d + 2) 0 0 (fun r w' => (∃ y : Int32, r = some (.int y) ∧ y.toInt = rgF (-2) (fun k => (I 123 k).toInt) (fun k => (I 124 k).toInt) (rwT I 102 0 p.toInt.toNat) d2.toInt d3.toInt z) ∧ w' = (sh, I, L, R)) (8, [(4, .int iv), (0, .ref 94), (1, .int p), (2, .int d2), (3, .int d3)], [], (sh, I, L, R)) := by
  have c94 : sh[94]? = some (.inr 12) := hw.1 94 _ rfl
  have c123 : sh[123]? = some (.inl (.int, 20)) := hw.1 123 _ rfl
  have c124 : sh[124]? = some (.inl (.int, 20)) := hw.1 124 _ rfl
  have r94_36 : R 94 36 = some 123 := hw.2.1 94 36 _ rfl
  have r94_37 : R 94 37 = some 124 := hw.2.1 94 37 _ rfl
  have zm2 : ((-2) : Int32).toInt = (-2) := rfl
  have z0 : (0 : Int32).toInt = 0 := rfl
  have hvr : -2147483648 ≤ (rwT I 102 0 p.toInt.toNat) ∧ (rwT I 102 0 p.toInt.toNat) ≤ 1999999991 := hw.2.2.1 102 _
  intro z
  induction z with
  | zero =>
    intro iv hiv hz
    refine XW.fam (S' := (10, [(4, .int iv), (0, .ref 94), (1, .int p), (2, .int d2), (3, .int d3)], [.int iv], (sh, I, L, R))) (M := mr_295) rfl (show mcode 295 8 = some (8, .iload 4, 2, 0, 0, 0, _) from rfl) (Or.inl ⟨.int iv, rfl, rfl⟩) ?_
    have k1 : bcmp .lt iv 0 = true := bcT (c := .lt) (a := (iv).toInt) (b := 0) rfl (by decide) (by show (iv).toInt < 0; omega)
    refine XW.fam (S' := (51, [(4, .int iv), (0, .ref 94), (1, .int p), (2, .int d2), (3, .int d3)], [], (sh, I, L, R))) (M := mr_295) rfl (show mcode 295 10 = some (10, .ifCond .lt 41, 3, 51, 0, 0, _) from rfl) (Or.inr (Or.inl ⟨51, [], by simp [brn, k1], rfl⟩)) ?_
    refine XW.fam (S' := (53, [(4, .int iv), (0, .ref 94), (1, .int p), (2, .int d2), (3, .int d3)], [.int (-2)], (sh, I, L, R))) (M := mr_295) rfl (show mcode 295 51 = some (51, .bipush (-2), 2, 0, 0, 0, _) from rfl) (Or.inl ⟨.int (-2), rfl, rfl⟩) ?_
    refine XW.ret (r := some (.int (-2))) ⟨⟨.int, rfl, rfl⟩, by decide +kernel⟩ ?_
    exact ⟨⟨_, rfl, rfl⟩, rfl⟩
  | succ z ih =>
    intro iv hiv hz
    have ez : (iv).toNatClampNeg = z := by show iv.toInt.toNat = z; omega
    obtain ⟨mk, emk⟩ : ∃ y : Int32, I 123 (iv).toNatClampNeg = y := ⟨_, rfl⟩
    obtain ⟨fr, efr⟩ : ∃ y : Int32, I 124 (iv).toNatClampNeg = y := ⟨_, rfl⟩
    have hmk : (I 123 z).toInt = mk.toInt := by rw [← emk, ez]
    have hfr : (I 124 z).toInt = fr.toInt := by rw [← efr, ez]
    have hmr : 0 ≤ (I 123 z).toInt ∧ (I 123 z).toInt ≤ 700 := hw.2.2.1 123 z
    refine XW.fam (S' := (10, [(4, .int iv), (0, .ref 94), (1, .int p), (2, .int d2), (3, .int d3)], [.int iv], (sh, I, L, R))) (M := mr_295) rfl (show mcode 295 8 = some (8, .iload 4, 2, 0, 0, 0, _) from rfl) (Or.inl ⟨.int iv, rfl, rfl⟩) ?_
    have k1 : bcmp .lt iv 0 = false := bcF (c := .lt) (a := (iv).toInt) (b := 0) rfl (by decide) (by show ¬ ((iv).toInt < 0); omega)
    refine XW.fam (S' := (13, [(4, .int iv), (0, .ref 94), (1, .int p), (2, .int d2), (3, .int d3)], [], (sh, I, L, R))) (M := mr_295) rfl (show mcode 295 10 = some (10, .ifCond .lt 41, 3, 51, 0, 0, _) from rfl) (Or.inr (Or.inl ⟨13, [], by simp [brn, k1], rfl⟩)) ?_
    refine XW.fam (S' := (14, [(4, .int iv), (0, .ref 94), (1, .int p), (2, .int d2), (3, .int d3)], [.ref 94], (sh, I, L, R))) (M := mr_295) rfl (show mcode 295 13 = some (13, .aload_n 0, 1, 0, 0, 0, _) from rfl) (Or.inl ⟨.ref 94, rfl, rfl⟩) ?_
    refine XW.fam (S' := (17, [(4, .int iv), (0, .ref 94), (1, .int p), (2, .int d2), (3, .int d3)], [.ref 124], (sh, I, L, R))) (M := mr_295) rfl (show mcode 295 14 = some (14, .getfield 103, 3, 12, 37, 0, _) from rfl) (Or.inr (Or.inr (Or.inr (Or.inr (Or.inr (Or.inr (Or.inr (Or.inl ⟨_, _, rfl, fl_ld c94 r94_37 (by decide) (by decide), rfl⟩)))))))) ?_
    refine XW.fam (S' := (19, [(4, .int iv), (0, .ref 94), (1, .int p), (2, .int d2), (3, .int d3)], [.int iv, .ref 124], (sh, I, L, R))) (M := mr_295) rfl (show mcode 295 17 = some (17, .iload 4, 2, 0, 0, 0, _) from rfl) (Or.inl ⟨.int iv, rfl, rfl⟩) ?_
    have hin2 : inR iv 20 = true := inR_of (by omega) (by omega)
    refine XW.fam (S' := (20, [(4, .int iv), (0, .ref 94), (1, .int p), (2, .int d2), (3, .int d3)], [.int (I 124 (iv).toNatClampNeg)], (sh, I, L, R))) (M := mr_295) rfl (show mcode 295 19 = some (19, .iaload, 1, 0, 0, 0, _) from rfl) (Or.inr (Or.inr (Or.inl ⟨_, lda_i c124 hin2, rfl⟩))) ?_
    rw [efr]
    refine XW.fam (S' := (21, [(4, .int iv), (0, .ref 94), (1, .int p), (2, .int d2), (3, .int d3)], [.int d2, .int fr], (sh, I, L, R))) (M := mr_295) rfl (show mcode 295 20 = some (20, .iload_n 2, 1, 0, 0, 0, _) from rfl) (Or.inl ⟨.int d2, rfl, rfl⟩) ?_
    cases k3 : bcmp .gt fr d2 with
    | true =>
      have gk3 : (d2).toInt < (fr).toInt := icT (c := .gt) (a := (fr).toInt) (b := (d2).toInt) rfl rfl k3
      refine XW.fam (S' := (45, [(4, .int iv), (0, .ref 94), (1, .int p), (2, .int d2), (3, .int d3)], [], (sh, I, L, R))) (M := mr_295) rfl (show mcode 295 21 = some (21, .if_icmp .gt 24, 3, 45, 0, 0, _) from rfl) (Or.inr (Or.inl ⟨45, [], by simp [brn, k3], rfl⟩)) ?_
      refine XW.fam (S' := (48, [(4, .int (iv + Int32.ofInt (-1))), (0, .ref 94), (1, .int p), (2, .int d2), (3, .int d3)], [], (sh, I, L, R))) (M := mr_295) rfl (show mcode 295 45 = some (45, .iinc 4 (-1), 3, 0, 0, 0, _) from rfl) (Or.inr (Or.inr (Or.inr (Or.inr (Or.inr (Or.inr (Or.inr (Or.inr (Or.inr ⟨4, (-1), iv, rfl, rfl, by decide, rfl⟩))))))))) ?_
      refine XW.fam (S' := (8, [(4, .int (iv + Int32.ofInt (-1))), (0, .ref 94), (1, .int p), (2, .int d2), (3, .int d3)], [], (sh, I, L, R))) (M := mr_295) rfl (show mcode 295 48 = some (48, .goto (-40), 3, 8, 0, 0, _) from rfl) (Or.inr (Or.inl ⟨8, [], rfl, rfl⟩)) ?_
      have eo := decO (m := iv) (by omega) (by omega)
      obtain ⟨i9, ei9⟩ : ∃ z : Int32, iv + Int32.ofInt (-1) = z := ⟨_, rfl⟩
      rw [ei9] at eo
      rw [ei9]
      clear ei9
      refine XW.sub (ls' := [(4, .int i9), (0, .ref 94), (1, .int p), (2, .int d2), (3, .int d3)]) (List.forall_mem_cons.mpr ⟨List.mem_of_getElem? (i := 0) rfl, (List.forall_mem_cons.mpr ⟨List.mem_of_getElem? (i := 1) rfl, (List.forall_mem_cons.mpr ⟨List.mem_of_getElem? (i := 2) rfl, (List.forall_mem_cons.mpr ⟨List.mem_of_getElem? (i := 3) rfl, (List.forall_mem_cons.mpr ⟨List.mem_of_getElem? (i := 4) rfl, (fun _ h => absurd h List.not_mem_nil)⟩)⟩)⟩)⟩)⟩) ?_
      rw [rgF_n (fun q => by have q1 : (I 124 z).toInt ≤ _ := q.1; have q2 : (I 123 z).toInt + _ ≤ _ := q.2; omega)]
      exact ih i9 (by omega) (by omega)
    | false =>
      have gk3 : ¬ ((d2).toInt < (fr).toInt) := icF (c := .gt) (a := (fr).toInt) (b := (d2).toInt) rfl rfl k3
      refine XW.fam (S' := (24, [(4, .int iv), (0, .ref 94), (1, .int p), (2, .int d2), (3, .int d3)], [], (sh, I, L, R))) (M := mr_295) rfl (show mcode 295 21 = some (21, .if_icmp .gt 24, 3, 45, 0, 0, _) from rfl) (Or.inr (Or.inl ⟨24, [], by simp [brn, k3], rfl⟩)) ?_
      refine XW.fam (S' := (25, [(4, .int iv), (0, .ref 94), (1, .int p), (2, .int d2), (3, .int d3)], [.ref 94], (sh, I, L, R))) (M := mr_295) rfl (show mcode 295 24 = some (24, .aload_n 0, 1, 0, 0, 0, _) from rfl) (Or.inl ⟨.ref 94, rfl, rfl⟩) ?_
      refine XW.fam (S' := (28, [(4, .int iv), (0, .ref 94), (1, .int p), (2, .int d2), (3, .int d3)], [.ref 123], (sh, I, L, R))) (M := mr_295) rfl (show mcode 295 25 = some (25, .getfield 100, 3, 12, 36, 0, _) from rfl) (Or.inr (Or.inr (Or.inr (Or.inr (Or.inr (Or.inr (Or.inr (Or.inl ⟨_, _, rfl, fl_ld c94 r94_36 (by decide) (by decide), rfl⟩)))))))) ?_
      refine XW.fam (S' := (30, [(4, .int iv), (0, .ref 94), (1, .int p), (2, .int d2), (3, .int d3)], [.int iv, .ref 123], (sh, I, L, R))) (M := mr_295) rfl (show mcode 295 28 = some (28, .iload 4, 2, 0, 0, 0, _) from rfl) (Or.inl ⟨.int iv, rfl, rfl⟩) ?_
      have hin4 : inR iv 20 = true := inR_of (by omega) (by omega)
      refine XW.fam (S' := (31, [(4, .int iv), (0, .ref 94), (1, .int p), (2, .int d2), (3, .int d3)], [.int (I 123 (iv).toNatClampNeg)], (sh, I, L, R))) (M := mr_295) rfl (show mcode 295 30 = some (30, .iaload, 1, 0, 0, 0, _) from rfl) (Or.inr (Or.inr (Or.inl ⟨_, lda_i c123 hin4, rfl⟩))) ?_
      rw [emk]
      refine XW.fam (S' := (32, [(4, .int iv), (0, .ref 94), (1, .int p), (2, .int d2), (3, .int d3)], [.ref 94, .int mk], (sh, I, L, R))) (M := mr_295) rfl (show mcode 295 31 = some (31, .aload_n 0, 1, 0, 0, 0, _) from rfl) (Or.inl ⟨.ref 94, rfl, rfl⟩) ?_
      refine XW.fam (S' := (33, [(4, .int iv), (0, .ref 94), (1, .int p), (2, .int d2), (3, .int d3)], [.int 0, .ref 94, .int mk], (sh, I, L, R))) (M := mr_295) rfl (show mcode 295 32 = some (32, .iconst 0, 1, 0, 0, 0, _) from rfl) (Or.inl ⟨.int 0, rfl, rfl⟩) ?_
      refine XW.fam (S' := (34, [(4, .int iv), (0, .ref 94), (1, .int p), (2, .int d2), (3, .int d3)], [.int p, .int 0, .ref 94, .int mk], (sh, I, L, R))) (M := mr_295) rfl (show mcode 295 33 = some (33, .iload_n 1, 1, 0, 0, 0, _) from rfl) (Or.inl ⟨.int p, rfl, rfl⟩) ?_
      refine XW.call (d' := d) (mc' := 0) (ms' := 0) (av := [.ref 94, .int 0, .int p]) (rest := [.int mk]) (M := mr_295) (Ma := mr_238) rfl (show mcode 295 34 = some (34, .invokevirtual 262, 3, 238, 0, 0, _) from rfl) rfl (by decide) (by decide) ⟨rfl, 94, _, rfl, c94⟩ rfl rfl (show 1 ≤ 8 by decide) (tc_farOf (d := d) (a := 0) (b := p) hw ⟨by decide, by decide⟩ ⟨by omega, by omega⟩) (by omega) (Nat.zero_le _) (Nat.zero_le _) (fun rQ5 wQ5 Q5 => ?_)
      obtain ⟨⟨v, rfl, hv⟩, rfl⟩ := Q5
      have hv : v.toInt = (rwT I 102 0 p.toInt.toNat) := hv
      have xs : (mk + v).toInt = mk.toInt + v.toInt := add_i (by unfold lo32; have z := hvr; omega) (by unfold hi32; have z := hvr; omega)
      refine XW.fam (S' := (38, [(4, .int iv), (0, .ref 94), (1, .int p), (2, .int d2), (3, .int d3)], [.int (mk + v)], (sh, I, L, R))) (M := mr_295) rfl (show mcode 295 37 = some (37, .iadd, 1, 0, 0, 0, _) from rfl) (Or.inr (Or.inr (Or.inr (Or.inr (Or.inr (Or.inl ⟨_, rfl, rfl⟩)))))) ?_
      refine XW.fam (S' := (39, [(4, .int iv), (0, .ref 94), (1, .int p), (2, .int d2), (3, .int d3)], [.int d3, .int (mk + v)], (sh, I, L, R))) (M := mr_295) rfl (show mcode 295 38 = some (38, .iload_n 3, 1, 0, 0, 0, _) from rfl) (Or.inl ⟨.int d3, rfl, rfl⟩) ?_
      cases k6 : bcmp .gt (mk + v) d3 with
      | true =>
        have gk6 : (d3).toInt < ((mk + v)).toInt := icT (c := .gt) (a := ((mk + v)).toInt) (b := (d3).toInt) rfl rfl k6
        refine XW.fam (S' := (45, [(4, .int iv), (0, .ref 94), (1, .int p), (2, .int d2), (3, .int d3)], [], (sh, I, L, R))) (M := mr_295) rfl (show mcode 295 39 = some (39, .if_icmp .gt 6, 3, 45, 0, 0, _) from rfl) (Or.inr (Or.inl ⟨45, [], by simp [brn, k6], rfl⟩)) ?_
        refine XW.fam (S' := (48, [(4, .int (iv + Int32.ofInt (-1))), (0, .ref 94), (1, .int p), (2, .int d2), (3, .int d3)], [], (sh, I, L, R))) (M := mr_295) rfl (show mcode 295 45 = some (45, .iinc 4 (-1), 3, 0, 0, 0, _) from rfl) (Or.inr (Or.inr (Or.inr (Or.inr (Or.inr (Or.inr (Or.inr (Or.inr (Or.inr ⟨4, (-1), iv, rfl, rfl, by decide, rfl⟩))))))))) ?_
        refine XW.fam (S' := (8, [(4, .int (iv + Int32.ofInt (-1))), (0, .ref 94), (1, .int p), (2, .int d2), (3, .int d3)], [], (sh, I, L, R))) (M := mr_295) rfl (show mcode 295 48 = some (48, .goto (-40), 3, 8, 0, 0, _) from rfl) (Or.inr (Or.inl ⟨8, [], rfl, rfl⟩)) ?_
        have eo := decO (m := iv) (by omega) (by omega)
        obtain ⟨i9, ei9⟩ : ∃ z : Int32, iv + Int32.ofInt (-1) = z := ⟨_, rfl⟩
        rw [ei9] at eo
        rw [ei9]
        clear ei9
        refine XW.sub (ls' := [(4, .int i9), (0, .ref 94), (1, .int p), (2, .int d2), (3, .int d3)]) (List.forall_mem_cons.mpr ⟨List.mem_of_getElem? (i := 0) rfl, (List.forall_mem_cons.mpr ⟨List.mem_of_getElem? (i := 1) rfl, (List.forall_mem_cons.mpr ⟨List.mem_of_getElem? (i := 2) rfl, (List.forall_mem_cons.mpr ⟨List.mem_of_getElem? (i := 3) rfl, (List.forall_mem_cons.mpr ⟨List.mem_of_getElem? (i := 4) rfl, (fun _ h => absurd h List.not_mem_nil)⟩)⟩)⟩)⟩)⟩) ?_
        rw [rgF_n (fun q => by have q1 : (I 124 z).toInt ≤ _ := q.1; have q2 : (I 123 z).toInt + _ ≤ _ := q.2; omega)]
        exact ih i9 (by omega) (by omega)
      | false =>
        have gk6 : ¬ ((d3).toInt < ((mk + v)).toInt) := icF (c := .gt) (a := ((mk + v)).toInt) (b := (d3).toInt) rfl rfl k6
        refine XW.fam (S' := (42, [(4, .int iv), (0, .ref 94), (1, .int p), (2, .int d2), (3, .int d3)], [], (sh, I, L, R))) (M := mr_295) rfl (show mcode 295 39 = some (39, .if_icmp .gt 6, 3, 45, 0, 0, _) from rfl) (Or.inr (Or.inl ⟨42, [], by simp [brn, k6], rfl⟩)) ?_
        refine XW.fam (S' := (44, [(4, .int iv), (0, .ref 94), (1, .int p), (2, .int d2), (3, .int d3)], [.int iv], (sh, I, L, R))) (M := mr_295) rfl (show mcode 295 42 = some (42, .iload 4, 2, 0, 0, 0, _) from rfl) (Or.inl ⟨.int iv, rfl, rfl⟩) ?_
        refine XW.ret (r := some (.int iv)) ⟨⟨.int, rfl, rfl⟩, by decide +kernel⟩ ?_
        refine ⟨⟨_, rfl, ?_⟩, rfl⟩
        rw [rgF_y ⟨by show (I 124 z).toInt ≤ _; omega, by show (I 123 z).toInt + _ ≤ _; omega⟩]
        omega
theorem tc_rulM {d : Nat} {sh : List mE} {I : Nat → Nat → Int32} {L : Nat → Nat → Int64} {R : Nat → Nat → Option Nat} {p d2 d3 : Int32} (hw : wOK (mkT vV []) (wE sh R) (sh, I, L, R)) (hp : 0 ≤ p.toInt ∧ p.toInt < (I 94 2).toInt) : Tc 295 (d + 2) 0 0 [.ref 94, .int p, .int d2, .int d3] (sh, I, L, R) (fun r w' => (∃ y : Int32, r = some (.int y) ∧ y.toInt = rgF (-2) (fun k => (I 123 k).toInt) (fun k => (I 124 k).toInt) (rwT I 102 0 p.toInt.toNat) d2.toInt d3.toInt (I 94 35).toInt.toNat) ∧ w' = (sh, I, L, R)) := by
  have c94 : sh[94]? = some (.inr 12) := hw.1 94 _ rfl
  have z0 : (0 : Int32).toInt = 0 := rfl
  have z1 : (1 : Int32).toInt = 1 := rfl
  have hpl : 0 ≤ (I 94 2).toInt ∧ (I 94 2).toInt ≤ 20 := hw.2.2.1 94 2
  have hcn : 0 ≤ (I 94 35).toInt ∧ (I 94 35).toInt ≤ 20 := hw.2.2.1 94 35
  obtain ⟨cn, ecn⟩ : ∃ z : Int32, I 94 35 = z := ⟨_, rfl⟩
  rw [ecn] at hcn ⊢
  refine Tc.of mr_295 rfl (show 4 ≤ mr_295.2.2.2.1 by decide) ?_
  refine XW.fam (S' := (1, [(0, .ref 94), (1, .int p), (2, .int d2), (3, .int d3)], [.ref 94], (sh, I, L, R))) (M := mr_295) rfl (show mcode 295 0 = some (0, .aload_n 0, 1, 0, 0, 0, _) from rfl) (Or.inl ⟨.ref 94, rfl, rfl⟩) ?_
  refine XW.fam (S' := (4, [(0, .ref 94), (1, .int p), (2, .int d2), (3, .int d3)], [.int (I 94 35)], (sh, I, L, R))) (M := mr_295) rfl (show mcode 295 1 = some (1, .getfield 444, 3, 12, 35, 0, _) from rfl) (Or.inr (Or.inr (Or.inr (Or.inr (Or.inr (Or.inr (Or.inr (Or.inl ⟨_, _, rfl, fl_ldI c94 (by decide) (by decide), rfl⟩)))))))) ?_
  rw [ecn]
  refine XW.fam (S' := (5, [(0, .ref 94), (1, .int p), (2, .int d2), (3, .int d3)], [.int 1, .int cn], (sh, I, L, R))) (M := mr_295) rfl (show mcode 295 4 = some (4, .iconst 1, 1, 0, 0, 0, _) from rfl) (Or.inl ⟨.int 1, rfl, rfl⟩) ?_
  refine XW.fam (S' := (6, [(0, .ref 94), (1, .int p), (2, .int d2), (3, .int d3)], [.int (cn - 1)], (sh, I, L, R))) (M := mr_295) rfl (show mcode 295 5 = some (5, .isub, 1, 0, 0, 0, _) from rfl) (Or.inr (Or.inr (Or.inr (Or.inr (Or.inr (Or.inl ⟨_, rfl, rfl⟩)))))) ?_
  refine XW.fam (S' := (8, [(4, .int (cn - 1)), (0, .ref 94), (1, .int p), (2, .int d2), (3, .int d3)], [], (sh, I, L, R))) (M := mr_295) rfl (show mcode 295 6 = some (6, .istore 4, 2, 0, 0, 0, _) from rfl) (Or.inr (Or.inr (Or.inr (Or.inr (Or.inr (Or.inr (Or.inl ⟨_, [], _, rfl, rfl, rfl⟩))))))) ?_
  have xd := difS (a := cn) (b := 1) (by omega) (by omega)
  obtain ⟨iv, eiv⟩ : ∃ z : Int32, (cn - 1) = z := ⟨_, rfl⟩
  rw [eiv] at xd
  rw [eiv]
  clear eiv
  refine XW.sub (ls' := [(4, .int iv), (0, .ref 94), (1, .int p), (2, .int d2), (3, .int d3)]) (List.forall_mem_cons.mpr ⟨List.mem_of_getElem? (i := 0) rfl, (List.forall_mem_cons.mpr ⟨List.mem_of_getElem? (i := 1) rfl, (List.forall_mem_cons.mpr ⟨List.mem_of_getElem? (i := 2) rfl, (List.forall_mem_cons.mpr ⟨List.mem_of_getElem? (i := 3) rfl, (List.forall_mem_cons.mpr ⟨List.mem_of_getElem? (i := 4) rfl, (fun _ h => absurd h List.not_mem_nil)⟩)⟩)⟩)⟩)⟩) ?_
  exact rulM_lp (d := d) hw (by omega) cn.toInt.toNat iv (by omega) (by omega)
theorem tc_frcC {d : Nat} {sh : List mE} {I : Nat → Nat → Int32} {L : Nat → Nat → Int64} {R : Nat → Nat → Option Nat} {p d2 d3 : Int32} (hw : wOK (mkT vV []) (wE sh R) (sh, I, L, R)) : Tc 114 (d + 3) 0 0 [.ref 0, .int p, .int d2, .int d3] (sh, I, L, R) (fun r w' => (∃ y : Int32, r = some (.int y) ∧ y.toInt = if ((0 ≤ p.toInt ∧ p.toInt < (I 1 1).toInt) ∧ (0 ≤ d2.toInt ∧ d2.toInt ≤ 700) ∧ (0 ≤ d3.toInt ∧ d3.toInt ≤ 700)) then rgF (-2) (fun k => (I 48 k).toInt) (fun k => (I 49 k).toInt) (rwT I 8 0 p.toInt.toNat) d2.toInt d3.toInt (I 47 3).toInt.toNat else -1) ∧ w' = (sh, I, L, R)) := by
  have c0 : sh[0]? = some (.inr 0) := hw.1 0 _ rfl
  have c1 : sh[1]? = some (.inr 1) := hw.1 1 _ rfl
  have c47 : sh[47]? = some (.inr 6) := hw.1 47 _ rfl
  have r0_0 : R 0 0 = some 1 := hw.2.1 0 0 _ rfl
  have r0_5 : R 0 5 = some 47 := hw.2.1 0 5 _ rfl
  have zm2 : ((-2) : Int32).toInt = (-2) := rfl
  have zm1 : ((-1) : Int32).toInt = (-1) := rfl
  have z0 : (0 : Int32).toInt = 0 := rfl
  refine Tc.of mr_114 rfl (show 4 ≤ mr_114.2.2.2.1 by decide) ?_
  refine XW.fam (S' := (1, [(0, .ref 0), (1, .int p), (2, .int d2), (3, .int d3)], [.ref 0], (sh, I, L, R))) (M := mr_114) rfl (show mcode 114 0 = some (0, .aload_n 0, 1, 0, 0, 0, _) from rfl) (Or.inl ⟨.ref 0, rfl, rfl⟩) ?_
  refine XW.fam (S' := (4, [(0, .ref 0), (1, .int p), (2, .int d2), (3, .int d3)], [.ref 1], (sh, I, L, R))) (M := mr_114) rfl (show mcode 114 1 = some (1, .getfield 10, 3, 0, 0, 0, _) from rfl) (Or.inr (Or.inr (Or.inr (Or.inr (Or.inr (Or.inr (Or.inr (Or.inl ⟨_, _, rfl, fl_ld c0 r0_0 (by decide) (by decide), rfl⟩)))))))) ?_
  refine XW.fam (S' := (5, [(0, .ref 0), (1, .int p), (2, .int d2), (3, .int d3)], [.int p, .ref 1], (sh, I, L, R))) (M := mr_114) rfl (show mcode 114 4 = some (4, .iload_n 1, 1, 0, 0, 0, _) from rfl) (Or.inl ⟨.int p, rfl, rfl⟩) ?_
  refine XW.call (d' := d) (mc' := 0) (ms' := 0) (av := [.ref 1, .int p]) (rest := []) (M := mr_114) (Ma := mr_19) rfl (show mcode 114 5 = some (5, .invokevirtual 104, 3, 19, 0, 0, _) from rfl) rfl (by decide) (by decide) ⟨rfl, 1, _, rfl, c1⟩ rfl rfl (show 0 ≤ 8 by decide) (tc_isPlC (d := d) hw) (by omega) (Nat.zero_le _) (Nat.zero_le _) (fun rQ1 wQ1 Q1 => ?_)
  obtain ⟨hQ1, rfl⟩ := Q1
  rcases hQ1 with ⟨rfl, gQ1⟩ | ⟨rfl, gQ1⟩
  · skip
    refine XW.fam (S' := (25, [(0, .ref 0), (1, .int p), (2, .int d2), (3, .int d3)], [], (sh, I, L, R))) (M := mr_114) rfl (show mcode 114 8 = some (8, .ifCond .eq 17, 3, 25, 0, 0, _) from rfl) (Or.inr (Or.inl ⟨25, [], rfl, rfl⟩)) ?_
    refine XW.fam (S' := (26, [(0, .ref 0), (1, .int p), (2, .int d2), (3, .int d3)], [.int (-1)], (sh, I, L, R))) (M := mr_114) rfl (show mcode 114 25 = some (25, .iconst (-1), 1, 0, 0, 0, _) from rfl) (Or.inl ⟨.int (-1), rfl, rfl⟩) ?_
    refine XW.ret (r := some (.int (-1))) ⟨⟨.int, rfl, rfl⟩, by decide +kernel⟩ ?_
    exact ⟨⟨_, rfl, (if_neg (by omega)).symm⟩, rfl⟩
  · skip
    refine XW.fam (S' := (11, [(0, .ref 0), (1, .int p), (2, .int d2), (3, .int d3)], [], (sh, I, L, R))) (M := mr_114) rfl (show mcode 114 8 = some (8, .ifCond .eq 17, 3, 25, 0, 0, _) from rfl) (Or.inr (Or.inl ⟨11, [], rfl, rfl⟩)) ?_
    refine XW.fam (S' := (12, [(0, .ref 0), (1, .int p), (2, .int d2), (3, .int d3)], [.int d2], (sh, I, L, R))) (M := mr_114) rfl (show mcode 114 11 = some (11, .iload_n 2, 1, 0, 0, 0, _) from rfl) (Or.inl ⟨.int d2, rfl, rfl⟩) ?_
    refine XW.call (d' := d + 1) (mc' := 0) (ms' := 0) (av := [.int d2]) (rest := []) (M := mr_114) (Ma := mr_71) rfl (show mcode 114 12 = some (12, .invokestatic 184, 3, 71, 0, 0, _) from rfl) rfl (by decide) (by decide) rfl rfl rfl (show 0 ≤ 8 by decide) (tc_isDyC (d := d)) (by omega) (Nat.zero_le _) (Nat.zero_le _) (fun rQ2 wQ2 Q2 => ?_)
    obtain ⟨hQ2, rfl⟩ := Q2
    rcases hQ2 with ⟨rfl, gQ2⟩ | ⟨rfl, gQ2⟩
    · skip
      refine XW.fam (S' := (25, [(0, .ref 0), (1, .int p), (2, .int d2), (3, .int d3)], [], (sh, I, L, R))) (M := mr_114) rfl (show mcode 114 15 = some (15, .ifCond .eq 10, 3, 25, 0, 0, _) from rfl) (Or.inr (Or.inl ⟨25, [], rfl, rfl⟩)) ?_
      refine XW.fam (S' := (26, [(0, .ref 0), (1, .int p), (2, .int d2), (3, .int d3)], [.int (-1)], (sh, I, L, R))) (M := mr_114) rfl (show mcode 114 25 = some (25, .iconst (-1), 1, 0, 0, 0, _) from rfl) (Or.inl ⟨.int (-1), rfl, rfl⟩) ?_
      refine XW.ret (r := some (.int (-1))) ⟨⟨.int, rfl, rfl⟩, by decide +kernel⟩ ?_
      exact ⟨⟨_, rfl, (if_neg (by omega)).symm⟩, rfl⟩
    · skip
      refine XW.fam (S' := (18, [(0, .ref 0), (1, .int p), (2, .int d2), (3, .int d3)], [], (sh, I, L, R))) (M := mr_114) rfl (show mcode 114 15 = some (15, .ifCond .eq 10, 3, 25, 0, 0, _) from rfl) (Or.inr (Or.inl ⟨18, [], rfl, rfl⟩)) ?_
      refine XW.fam (S' := (19, [(0, .ref 0), (1, .int p), (2, .int d2), (3, .int d3)], [.int d3], (sh, I, L, R))) (M := mr_114) rfl (show mcode 114 18 = some (18, .iload_n 3, 1, 0, 0, 0, _) from rfl) (Or.inl ⟨.int d3, rfl, rfl⟩) ?_
      refine XW.call (d' := d + 1) (mc' := 0) (ms' := 0) (av := [.int d3]) (rest := []) (M := mr_114) (Ma := mr_71) rfl (show mcode 114 19 = some (19, .invokestatic 184, 3, 71, 0, 0, _) from rfl) rfl (by decide) (by decide) rfl rfl rfl (show 0 ≤ 8 by decide) (tc_isDyC (d := d)) (by omega) (Nat.zero_le _) (Nat.zero_le _) (fun rQ3 wQ3 Q3 => ?_)
      obtain ⟨hQ3, rfl⟩ := Q3
      rcases hQ3 with ⟨rfl, gQ3⟩ | ⟨rfl, gQ3⟩
      · skip
        refine XW.fam (S' := (25, [(0, .ref 0), (1, .int p), (2, .int d2), (3, .int d3)], [], (sh, I, L, R))) (M := mr_114) rfl (show mcode 114 22 = some (22, .ifCond .ne 5, 3, 27, 0, 0, _) from rfl) (Or.inr (Or.inl ⟨25, [], rfl, rfl⟩)) ?_
        refine XW.fam (S' := (26, [(0, .ref 0), (1, .int p), (2, .int d2), (3, .int d3)], [.int (-1)], (sh, I, L, R))) (M := mr_114) rfl (show mcode 114 25 = some (25, .iconst (-1), 1, 0, 0, 0, _) from rfl) (Or.inl ⟨.int (-1), rfl, rfl⟩) ?_
        refine XW.ret (r := some (.int (-1))) ⟨⟨.int, rfl, rfl⟩, by decide +kernel⟩ ?_
        exact ⟨⟨_, rfl, (if_neg (by omega)).symm⟩, rfl⟩
      · skip
        refine XW.fam (S' := (27, [(0, .ref 0), (1, .int p), (2, .int d2), (3, .int d3)], [], (sh, I, L, R))) (M := mr_114) rfl (show mcode 114 22 = some (22, .ifCond .ne 5, 3, 27, 0, 0, _) from rfl) (Or.inr (Or.inl ⟨27, [], rfl, rfl⟩)) ?_
        refine XW.fam (S' := (28, [(0, .ref 0), (1, .int p), (2, .int d2), (3, .int d3)], [.ref 0], (sh, I, L, R))) (M := mr_114) rfl (show mcode 114 27 = some (27, .aload_n 0, 1, 0, 0, 0, _) from rfl) (Or.inl ⟨.ref 0, rfl, rfl⟩) ?_
        refine XW.fam (S' := (31, [(0, .ref 0), (1, .int p), (2, .int d2), (3, .int d3)], [.ref 47], (sh, I, L, R))) (M := mr_114) rfl (show mcode 114 28 = some (28, .getfield 53, 3, 0, 5, 0, _) from rfl) (Or.inr (Or.inr (Or.inr (Or.inr (Or.inr (Or.inr (Or.inr (Or.inl ⟨_, _, rfl, fl_ld c0 r0_5 (by decide) (by decide), rfl⟩)))))))) ?_
        refine XW.fam (S' := (32, [(0, .ref 0), (1, .int p), (2, .int d2), (3, .int d3)], [.int p, .ref 47], (sh, I, L, R))) (M := mr_114) rfl (show mcode 114 31 = some (31, .iload_n 1, 1, 0, 0, 0, _) from rfl) (Or.inl ⟨.int p, rfl, rfl⟩) ?_
        refine XW.fam (S' := (33, [(0, .ref 0), (1, .int p), (2, .int d2), (3, .int d3)], [.int d2, .int p, .ref 47], (sh, I, L, R))) (M := mr_114) rfl (show mcode 114 32 = some (32, .iload_n 2, 1, 0, 0, 0, _) from rfl) (Or.inl ⟨.int d2, rfl, rfl⟩) ?_
        refine XW.fam (S' := (34, [(0, .ref 0), (1, .int p), (2, .int d2), (3, .int d3)], [.int d3, .int d2, .int p, .ref 47], (sh, I, L, R))) (M := mr_114) rfl (show mcode 114 33 = some (33, .iload_n 3, 1, 0, 0, 0, _) from rfl) (Or.inl ⟨.int d3, rfl, rfl⟩) ?_
        refine XW.call (d' := d + 2) (mc' := 0) (ms' := 0) (av := [.ref 47, .int p, .int d2, .int d3]) (rest := []) (M := mr_114) (Ma := mr_115) rfl (show mcode 114 34 = some (34, .invokevirtual 227, 3, 115, 0, 0, _) from rfl) rfl (by decide) (by decide) ⟨rfl, 47, _, rfl, c47⟩ rfl rfl (show 0 ≤ 8 by decide) (tc_rulC (d := d) hw (by omega)) (by omega) (Nat.zero_le _) (Nat.zero_le _) (fun rQ4 wQ4 Q4 => ?_)
        obtain ⟨⟨y, rfl, hy⟩, rfl⟩ := Q4
        refine XW.fam (S' := (39, [(4, .int y), (0, .ref 0), (1, .int p), (2, .int d2), (3, .int d3)], [], (sh, I, L, R))) (M := mr_114) rfl (show mcode 114 37 = some (37, .istore 4, 2, 0, 0, 0, _) from rfl) (Or.inr (Or.inr (Or.inr (Or.inr (Or.inr (Or.inr (Or.inl ⟨_, [], _, rfl, rfl, rfl⟩))))))) ?_
        refine XW.fam (S' := (41, [(4, .int y), (0, .ref 0), (1, .int p), (2, .int d2), (3, .int d3)], [.int y], (sh, I, L, R))) (M := mr_114) rfl (show mcode 114 39 = some (39, .iload 4, 2, 0, 0, 0, _) from rfl) (Or.inl ⟨.int y, rfl, rfl⟩) ?_
        cases k5 : bcmp .ge y 0 with
        | true =>
          have gk5 : 0 ≤ (y).toInt := icT (c := .ge) (a := (y).toInt) (b := 0) rfl (by decide) k5
          refine XW.fam (S' := (49, [(4, .int y), (0, .ref 0), (1, .int p), (2, .int d2), (3, .int d3)], [], (sh, I, L, R))) (M := mr_114) rfl (show mcode 114 41 = some (41, .ifCond .ge 8, 3, 49, 0, 0, _) from rfl) (Or.inr (Or.inl ⟨49, [], by simp [brn, k5], rfl⟩)) ?_
          refine XW.fam (S' := (51, [(4, .int y), (0, .ref 0), (1, .int p), (2, .int d2), (3, .int d3)], [.int y], (sh, I, L, R))) (M := mr_114) rfl (show mcode 114 49 = some (49, .iload 4, 2, 0, 0, 0, _) from rfl) (Or.inl ⟨.int y, rfl, rfl⟩) ?_
          refine XW.ret (r := some (.int y)) ⟨⟨.int, rfl, rfl⟩, by decide +kernel⟩ ?_
          refine ⟨⟨_, rfl, ?_⟩, rfl⟩
          rw [if_pos (by omega), rgF_b, ← hy, if_pos (by omega)]
        | false =>
          have gk5 : ¬ (0 ≤ (y).toInt) := icF (c := .ge) (a := (y).toInt) (b := 0) rfl (by decide) k5
          refine XW.fam (S' := (44, [(4, .int y), (0, .ref 0), (1, .int p), (2, .int d2), (3, .int d3)], [], (sh, I, L, R))) (M := mr_114) rfl (show mcode 114 41 = some (41, .ifCond .ge 8, 3, 49, 0, 0, _) from rfl) (Or.inr (Or.inl ⟨44, [], by simp [brn, k5], rfl⟩)) ?_
          refine XW.fam (S' := (46, [(4, .int y), (0, .ref 0), (1, .int p), (2, .int d2), (3, .int d3)], [.int (-2)], (sh, I, L, R))) (M := mr_114) rfl (show mcode 114 44 = some (44, .bipush (-2), 2, 0, 0, 0, _) from rfl) (Or.inl ⟨.int (-2), rfl, rfl⟩) ?_
          refine XW.fam (S' := (51, [(4, .int y), (0, .ref 0), (1, .int p), (2, .int d2), (3, .int d3)], [.int (-2)], (sh, I, L, R))) (M := mr_114) rfl (show mcode 114 46 = some (46, .goto 5, 3, 51, 0, 0, _) from rfl) (Or.inr (Or.inl ⟨51, [.int (-2)], rfl, rfl⟩)) ?_
          refine XW.ret (r := some (.int (-2))) ⟨⟨.int, rfl, rfl⟩, by decide +kernel⟩ ?_
          refine ⟨⟨_, rfl, ?_⟩, rfl⟩
          rw [if_pos (by omega), rgF_b, ← hy, if_neg (by omega)]
          rfl
theorem tc_frcM {d : Nat} {sh : List mE} {I : Nat → Nat → Int32} {L : Nat → Nat → Int64} {R : Nat → Nat → Option Nat} {p d2 d3 : Int32} (hw : wOK (mkT vV []) (wE sh R) (sh, I, L, R)) : Tc 294 (d + 3) 0 0 [.ref 94, .int p, .int d2, .int d3] (sh, I, L, R) (fun r w' => (∃ y : Int32, r = some (.int y) ∧ y.toInt = if ((0 ≤ p.toInt ∧ p.toInt < (I 94 2).toInt) ∧ (0 ≤ d2.toInt ∧ d2.toInt ≤ 700) ∧ (0 ≤ d3.toInt ∧ d3.toInt ≤ 700)) then rgF (-2) (fun k => (I 123 k).toInt) (fun k => (I 124 k).toInt) (rwT I 102 0 p.toInt.toNat) d2.toInt d3.toInt (I 94 35).toInt.toNat else -1) ∧ w' = (sh, I, L, R)) := by
  have c94 : sh[94]? = some (.inr 12) := hw.1 94 _ rfl
  have zm2 : ((-2) : Int32).toInt = (-2) := rfl
  have zm1 : ((-1) : Int32).toInt = (-1) := rfl
  have z0 : (0 : Int32).toInt = 0 := rfl
  refine Tc.of mr_294 rfl (show 4 ≤ mr_294.2.2.2.1 by decide) ?_
  refine XW.fam (S' := (1, [(0, .ref 94), (1, .int p), (2, .int d2), (3, .int d3)], [.ref 94], (sh, I, L, R))) (M := mr_294) rfl (show mcode 294 0 = some (0, .aload_n 0, 1, 0, 0, 0, _) from rfl) (Or.inl ⟨.ref 94, rfl, rfl⟩) ?_
  refine XW.fam (S' := (2, [(0, .ref 94), (1, .int p), (2, .int d2), (3, .int d3)], [.int p, .ref 94], (sh, I, L, R))) (M := mr_294) rfl (show mcode 294 1 = some (1, .iload_n 1, 1, 0, 0, 0, _) from rfl) (Or.inl ⟨.int p, rfl, rfl⟩) ?_
  refine XW.call (d' := d + 1) (mc' := 0) (ms' := 0) (av := [.ref 94, .int p]) (rest := []) (M := mr_294) (Ma := mr_240) rfl (show mcode 294 2 = some (2, .invokevirtual 269, 3, 240, 0, 0, _) from rfl) rfl (by decide) (by decide) ⟨rfl, 94, _, rfl, c94⟩ rfl rfl (show 0 ≤ 8 by decide) (tc_isPlM (d := d) hw) (by omega) (Nat.zero_le _) (Nat.zero_le _) (fun rQ1 wQ1 Q1 => ?_)
  obtain ⟨hQ1, rfl⟩ := Q1
  rcases hQ1 with ⟨rfl, gQ1⟩ | ⟨rfl, gQ1⟩
  · skip
    refine XW.fam (S' := (32, [(0, .ref 94), (1, .int p), (2, .int d2), (3, .int d3)], [], (sh, I, L, R))) (M := mr_294) rfl (show mcode 294 5 = some (5, .ifCond .eq 27, 3, 32, 0, 0, _) from rfl) (Or.inr (Or.inl ⟨32, [], rfl, rfl⟩)) ?_
    refine XW.fam (S' := (33, [(0, .ref 94), (1, .int p), (2, .int d2), (3, .int d3)], [.int (-1)], (sh, I, L, R))) (M := mr_294) rfl (show mcode 294 32 = some (32, .iconst (-1), 1, 0, 0, 0, _) from rfl) (Or.inl ⟨.int (-1), rfl, rfl⟩) ?_
    refine XW.ret (r := some (.int (-1))) ⟨⟨.int, rfl, rfl⟩, by decide +kernel⟩ ?_
    exact ⟨⟨_, rfl, (if_neg (by omega)).symm⟩, rfl⟩
  · skip
    refine XW.fam (S' := (8, [(0, .ref 94), (1, .int p), (2, .int d2), (3, .int d3)], [], (sh, I, L, R))) (M := mr_294) rfl (show mcode 294 5 = some (5, .ifCond .eq 27, 3, 32, 0, 0, _) from rfl) (Or.inr (Or.inl ⟨8, [], rfl, rfl⟩)) ?_
    refine XW.fam (S' := (9, [(0, .ref 94), (1, .int p), (2, .int d2), (3, .int d3)], [.int d2], (sh, I, L, R))) (M := mr_294) rfl (show mcode 294 8 = some (8, .iload_n 2, 1, 0, 0, 0, _) from rfl) (Or.inl ⟨.int d2, rfl, rfl⟩) ?_
    refine XW.call (d' := d + 1) (mc' := 0) (ms' := 0) (av := [.int d2]) (rest := []) (M := mr_294) (Ma := mr_263) rfl (show mcode 294 9 = some (9, .invokestatic 317, 3, 263, 0, 0, _) from rfl) rfl (by decide) (by decide) rfl rfl rfl (show 0 ≤ 8 by decide) (tc_isDyM (d := d)) (by omega) (Nat.zero_le _) (Nat.zero_le _) (fun rQ2 wQ2 Q2 => ?_)
    obtain ⟨hQ2, rfl⟩ := Q2
    rcases hQ2 with ⟨rfl, gQ2⟩ | ⟨rfl, gQ2⟩
    · skip
      refine XW.fam (S' := (32, [(0, .ref 94), (1, .int p), (2, .int d2), (3, .int d3)], [], (sh, I, L, R))) (M := mr_294) rfl (show mcode 294 12 = some (12, .ifCond .eq 20, 3, 32, 0, 0, _) from rfl) (Or.inr (Or.inl ⟨32, [], rfl, rfl⟩)) ?_
      refine XW.fam (S' := (33, [(0, .ref 94), (1, .int p), (2, .int d2), (3, .int d3)], [.int (-1)], (sh, I, L, R))) (M := mr_294) rfl (show mcode 294 32 = some (32, .iconst (-1), 1, 0, 0, 0, _) from rfl) (Or.inl ⟨.int (-1), rfl, rfl⟩) ?_
      refine XW.ret (r := some (.int (-1))) ⟨⟨.int, rfl, rfl⟩, by decide +kernel⟩ ?_
      exact ⟨⟨_, rfl, (if_neg (by omega)).symm⟩, rfl⟩
    · skip
      refine XW.fam (S' := (15, [(0, .ref 94), (1, .int p), (2, .int d2), (3, .int d3)], [], (sh, I, L, R))) (M := mr_294) rfl (show mcode 294 12 = some (12, .ifCond .eq 20, 3, 32, 0, 0, _) from rfl) (Or.inr (Or.inl ⟨15, [], rfl, rfl⟩)) ?_
      refine XW.fam (S' := (16, [(0, .ref 94), (1, .int p), (2, .int d2), (3, .int d3)], [.int d3], (sh, I, L, R))) (M := mr_294) rfl (show mcode 294 15 = some (15, .iload_n 3, 1, 0, 0, 0, _) from rfl) (Or.inl ⟨.int d3, rfl, rfl⟩) ?_
      refine XW.call (d' := d + 1) (mc' := 0) (ms' := 0) (av := [.int d3]) (rest := []) (M := mr_294) (Ma := mr_263) rfl (show mcode 294 16 = some (16, .invokestatic 317, 3, 263, 0, 0, _) from rfl) rfl (by decide) (by decide) rfl rfl rfl (show 0 ≤ 8 by decide) (tc_isDyM (d := d)) (by omega) (Nat.zero_le _) (Nat.zero_le _) (fun rQ3 wQ3 Q3 => ?_)
      obtain ⟨hQ3, rfl⟩ := Q3
      rcases hQ3 with ⟨rfl, gQ3⟩ | ⟨rfl, gQ3⟩
      · skip
        refine XW.fam (S' := (32, [(0, .ref 94), (1, .int p), (2, .int d2), (3, .int d3)], [], (sh, I, L, R))) (M := mr_294) rfl (show mcode 294 19 = some (19, .ifCond .eq 13, 3, 32, 0, 0, _) from rfl) (Or.inr (Or.inl ⟨32, [], rfl, rfl⟩)) ?_
        refine XW.fam (S' := (33, [(0, .ref 94), (1, .int p), (2, .int d2), (3, .int d3)], [.int (-1)], (sh, I, L, R))) (M := mr_294) rfl (show mcode 294 32 = some (32, .iconst (-1), 1, 0, 0, 0, _) from rfl) (Or.inl ⟨.int (-1), rfl, rfl⟩) ?_
        refine XW.ret (r := some (.int (-1))) ⟨⟨.int, rfl, rfl⟩, by decide +kernel⟩ ?_
        exact ⟨⟨_, rfl, (if_neg (by omega)).symm⟩, rfl⟩
      · skip
        refine XW.fam (S' := (22, [(0, .ref 94), (1, .int p), (2, .int d2), (3, .int d3)], [], (sh, I, L, R))) (M := mr_294) rfl (show mcode 294 19 = some (19, .ifCond .eq 13, 3, 32, 0, 0, _) from rfl) (Or.inr (Or.inl ⟨22, [], rfl, rfl⟩)) ?_
        refine XW.fam (S' := (23, [(0, .ref 94), (1, .int p), (2, .int d2), (3, .int d3)], [.ref 94], (sh, I, L, R))) (M := mr_294) rfl (show mcode 294 22 = some (22, .aload_n 0, 1, 0, 0, 0, _) from rfl) (Or.inl ⟨.ref 94, rfl, rfl⟩) ?_
        refine XW.fam (S' := (24, [(0, .ref 94), (1, .int p), (2, .int d2), (3, .int d3)], [.int p, .ref 94], (sh, I, L, R))) (M := mr_294) rfl (show mcode 294 23 = some (23, .iload_n 1, 1, 0, 0, 0, _) from rfl) (Or.inl ⟨.int p, rfl, rfl⟩) ?_
        refine XW.fam (S' := (25, [(0, .ref 94), (1, .int p), (2, .int d2), (3, .int d3)], [.int d2, .int p, .ref 94], (sh, I, L, R))) (M := mr_294) rfl (show mcode 294 24 = some (24, .iload_n 2, 1, 0, 0, 0, _) from rfl) (Or.inl ⟨.int d2, rfl, rfl⟩) ?_
        refine XW.fam (S' := (26, [(0, .ref 94), (1, .int p), (2, .int d2), (3, .int d3)], [.int d3, .int d2, .int p, .ref 94], (sh, I, L, R))) (M := mr_294) rfl (show mcode 294 25 = some (25, .iload_n 3, 1, 0, 0, 0, _) from rfl) (Or.inl ⟨.int d3, rfl, rfl⟩) ?_
        refine XW.call (d' := d + 2) (mc' := 0) (ms' := 0) (av := [.ref 94, .int p, .int d2, .int d3]) (rest := []) (M := mr_294) (Ma := mr_295) rfl (show mcode 294 26 = some (26, .invokevirtual 450, 3, 295, 0, 0, _) from rfl) rfl (by decide) (by decide) ⟨rfl, 94, _, rfl, c94⟩ rfl rfl (show 0 ≤ 8 by decide) (tc_rulM (d := d) hw (by omega)) (by omega) (Nat.zero_le _) (Nat.zero_le _) (fun rQ4 wQ4 Q4 => ?_)
        obtain ⟨⟨y, rfl, hy⟩, rfl⟩ := Q4
        refine XW.fam (S' := (33, [(0, .ref 94), (1, .int p), (2, .int d2), (3, .int d3)], [.int y], (sh, I, L, R))) (M := mr_294) rfl (show mcode 294 29 = some (29, .goto 4, 3, 33, 0, 0, _) from rfl) (Or.inr (Or.inl ⟨33, [.int y], rfl, rfl⟩)) ?_
        refine XW.ret (r := some (.int y)) ⟨⟨.int, rfl, rfl⟩, by decide +kernel⟩ ?_
        exact ⟨⟨_, rfl, by rw [if_pos (by omega)]; exact hy⟩, rfl⟩
