/-! ===== feed, end (wip/genfeed.py) ===== -/
theorem nar_b (x : Int32) : vp_nar .byte (x.toInt8.toInt32) = x.toInt8.toInt32 := Int32.toInt_inj.mp (i2b_id (i2b_rng x).1 (i2b_rng x).2)
theorem sta_y {sh : List mE} {I : Nat → Nat → Int32} {L : Nat → Nat → Int64} {R : Nat → Nat → Option Nat} {q n : Nat} {i x : Int32} {r : List Value} (hb : vp_nar .byte x = x) (h0 : sh[q]? = some (.inl (.byte, n))) (hin : inR i n = true) : sta (sh, I, L, R) .bastore (.int x :: .int i :: .ref q :: r) = some (r, (sh, up2 I q i.toNatClampNeg x, L, R)) := by
  simp [sta, h0, aok, hin, hb]
theorem up2_if {I : Nat → Nat → Int32} {q k k' : Nat} {x : Int32} : up2 I q k x q k' = if k' = k then x else I q k' := by
  by_cases c : k' = k
  · rw [if_pos c, c]
    exact up2_eq
  · rw [if_neg c]
    exact up2_ne (fun e => c e.2)
/-- four bytes put behind n -/
def bY (v s : Int32) : Int32 := (v >>> (s &&& 31)).toInt8.toInt32
def fd4 (f : Nat → Int32) (n : Nat) (v : Int32) (k : Nat) : Int32 := if k = n + 3 then bY v 0 else if k = n + 2 then bY v 8 else if k = n + 1 then bY v 16 else if k = n then bY v 24 else f k
def fd20 (f : Nat → Int32) (n : Nat) (a b c d e : Int32) : Nat → Int32 := fd4 (fd4 (fd4 (fd4 (fd4 f n a) (n + 4) b) (n + 8) c) (n + 12) d) (n + 16) e
def mdAp : aM := [(41, some 0), (42, none)]
theorem tc_app {d : Nat} {sh : List mE} {I : Nat → Nat → Int32} {L : Nat → Nat → Int64} {R : Nat → Nat → Option Nat} {v : Int32} (hw : wOK (mkT vV []) (wE sh R) (sh, I, L, R)) (hf : fresh (sh, I, L, R)) (hl : (I 41 0).toInt ≤ 236) : Tc 89 d 0 0 [.ref 41, .int v] (sh, I, L, R) (fun r w' => r = none ∧ fresh w' ∧ wOK (mkT vV []) (wE sh R) w' ∧ (∀ q k, inm mdAp q k = false → w'.2.1 q k = I q k) ∧ (w'.2.1 41 0).toInt = (I 41 0).toInt + 4 ∧ w'.2.1 42 = fd4 (I 42) (I 41 0).toInt.toNat v) := by
  have c41 : sh[41]? = some (.inr 5) := hw.1 41 _ rfl
  have c42 : sh[42]? = some (.inl (.byte, 240)) := hw.1 42 _ rfl
  have r41_1 : R 41 1 = some 42 := hw.2.1 41 1 _ rfl
  have z1 : (1 : Int32).toInt = 1 := rfl
  have z24 : (24 : Int32).toInt = 24 := rfl
  have z240 : (240 : Int32).toInt = 240 := rfl
  have hl0 : 0 ≤ (I 41 0).toInt ∧ (I 41 0).toInt ≤ 240 := hw.2.2.1 41 0
  obtain ⟨ln, eln⟩ : ∃ z : Int32, I 41 0 = z := ⟨_, rfl⟩
  rw [eln] at hl hl0 ⊢
  refine Tc.of mr_89 rfl (show 2 ≤ mr_89.2.2.2.1 by decide) ?_
  refine XW.fam (S' := (2, [(0, .ref 41), (1, .int v)], [.int 24], (sh, I, L, R))) (M := mr_89) rfl (show mcode 89 0 = some (0, .bipush 24, 2, 0, 0, 0, _) from rfl) (Or.inl ⟨.int 24, rfl, rfl⟩) ?_
  refine XW.fam (S' := (3, [(2, .int 24), (0, .ref 41), (1, .int v)], [], (sh, I, L, R))) (M := mr_89) rfl (show mcode 89 2 = some (2, .istore_n 2, 1, 0, 0, 0, _) from rfl) (Or.inr (Or.inr (Or.inr (Or.inr (Or.inr (Or.inr (Or.inl ⟨_, [], _, rfl, rfl, rfl⟩))))))) ?_
  refine XW.fam (S' := (4, [(2, .int 24), (0, .ref 41), (1, .int v)], [.int 24], (sh, I, L, R))) (M := mr_89) rfl (show mcode 89 3 = some (3, .iload_n 2, 1, 0, 0, 0, _) from rfl) (Or.inl ⟨.int 24, rfl, rfl⟩) ?_
  refine XW.fam (S' := (7, [(2, .int 24), (0, .ref 41), (1, .int v)], [], (sh, I, L, R))) (M := mr_89) rfl (show mcode 89 4 = some (4, .ifCond .lt 42, 3, 46, 0, 0, _) from rfl) (Or.inr (Or.inl ⟨7, [], rfl, rfl⟩)) ?_
  refine XW.fam (S' := (8, [(2, .int 24), (0, .ref 41), (1, .int v)], [.ref 41], (sh, I, L, R))) (M := mr_89) rfl (show mcode 89 7 = some (7, .aload_n 0, 1, 0, 0, 0, _) from rfl) (Or.inl ⟨.ref 41, rfl, rfl⟩) ?_
  refine XW.fam (S' := (11, [(2, .int 24), (0, .ref 41), (1, .int v)], [.int (I 41 0)], (sh, I, L, R))) (M := mr_89) rfl (show mcode 89 8 = some (8, .getfield 28, 3, 5, 0, 0, _) from rfl) (Or.inr (Or.inr (Or.inr (Or.inr (Or.inr (Or.inr (Or.inr (Or.inl ⟨_, _, rfl, fl_ldI c41 (by decide) (by decide), rfl⟩)))))))) ?_
  rw [eln]
  refine XW.fam (S' := (14, [(2, .int 24), (0, .ref 41), (1, .int v)], [.int 240, .int ln], (sh, I, L, R))) (M := mr_89) rfl (show mcode 89 11 = some (11, .sipush 240, 3, 0, 0, 0, _) from rfl) (Or.inl ⟨.int 240, rfl, rfl⟩) ?_
  have k1 : bcmp .ge ln 240 = false := bcF (c := .ge) (a := (ln).toInt) (b := 240) rfl (by decide) (by show ¬ (240 ≤ (ln).toInt); omega)
  refine XW.fam (S' := (17, [(2, .int 24), (0, .ref 41), (1, .int v)], [], (sh, I, L, R))) (M := mr_89) rfl (show mcode 89 14 = some (14, .if_icmp .ge 26, 3, 40, 0, 0, _) from rfl) (Or.inr (Or.inl ⟨17, [], by simp [brn, k1], rfl⟩)) ?_
  refine XW.fam (S' := (18, [(2, .int 24), (0, .ref 41), (1, .int v)], [.ref 41], (sh, I, L, R))) (M := mr_89) rfl (show mcode 89 17 = some (17, .aload_n 0, 1, 0, 0, 0, _) from rfl) (Or.inl ⟨.ref 41, rfl, rfl⟩) ?_
  refine XW.fam (S' := (21, [(2, .int 24), (0, .ref 41), (1, .int v)], [.ref 42], (sh, I, L, R))) (M := mr_89) rfl (show mcode 89 18 = some (18, .getfield 9, 3, 5, 1, 0, _) from rfl) (Or.inr (Or.inr (Or.inr (Or.inr (Or.inr (Or.inr (Or.inr (Or.inl ⟨_, _, rfl, fl_ld c41 r41_1 (by decide) (by decide), rfl⟩)))))))) ?_
  refine XW.fam (S' := (22, [(2, .int 24), (0, .ref 41), (1, .int v)], [.ref 41, .ref 42], (sh, I, L, R))) (M := mr_89) rfl (show mcode 89 21 = some (21, .aload_n 0, 1, 0, 0, 0, _) from rfl) (Or.inl ⟨.ref 41, rfl, rfl⟩) ?_
  refine XW.fam (S' := (25, [(2, .int 24), (0, .ref 41), (1, .int v)], [.int (I 41 0), .ref 42], (sh, I, L, R))) (M := mr_89) rfl (show mcode 89 22 = some (22, .getfield 28, 3, 5, 0, 0, _) from rfl) (Or.inr (Or.inr (Or.inr (Or.inr (Or.inr (Or.inr (Or.inr (Or.inl ⟨_, _, rfl, fl_ldI c41 (by decide) (by decide), rfl⟩)))))))) ?_
  rw [eln]
  refine XW.fam (S' := (26, [(2, .int 24), (0, .ref 41), (1, .int v)], [.int v, .int ln, .ref 42], (sh, I, L, R))) (M := mr_89) rfl (show mcode 89 25 = some (25, .iload_n 1, 1, 0, 0, 0, _) from rfl) (Or.inl ⟨.int v, rfl, rfl⟩) ?_
  refine XW.fam (S' := (27, [(2, .int 24), (0, .ref 41), (1, .int v)], [.int 24, .int v, .int ln, .ref 42], (sh, I, L, R))) (M := mr_89) rfl (show mcode 89 26 = some (26, .iload_n 2, 1, 0, 0, 0, _) from rfl) (Or.inl ⟨.int 24, rfl, rfl⟩) ?_
  refine XW.fam (S' := (28, [(2, .int 24), (0, .ref 41), (1, .int v)], [.int (v >>> (24 &&& 31)), .int ln, .ref 42], (sh, I, L, R))) (M := mr_89) rfl (show mcode 89 27 = some (27, .ishr, 1, 0, 0, 0, _) from rfl) (Or.inr (Or.inr (Or.inr (Or.inr (Or.inr (Or.inl ⟨_, rfl, rfl⟩)))))) ?_
  refine XW.fam (S' := (29, [(2, .int 24), (0, .ref 41), (1, .int v)], [.int ((v >>> (24 &&& 31))).toInt8.toInt32, .int ln, .ref 42], (sh, I, L, R))) (M := mr_89) rfl (show mcode 89 28 = some (28, .i2b, 1, 0, 0, 0, _) from rfl) (Or.inr (Or.inr (Or.inr (Or.inr (Or.inr (Or.inl ⟨_, rfl, rfl⟩)))))) ?_
  have hin2 : inR ln 240 = true := inR_of (by omega) (by omega)
  have b4 : vp_nar .byte (((v >>> (24 &&& 31))).toInt8.toInt32) = ((v >>> (24 &&& 31))).toInt8.toInt32 := nar_b _
  obtain ⟨I3, eI3⟩ : ∃ X, X = up2 I 42 (ln).toNatClampNeg ((v >>> (24 &&& 31))).toInt8.toInt32 := ⟨_, rfl⟩
  refine XW.fam (S' := (30, [(2, .int 24), (0, .ref 41), (1, .int v)], [], (sh, I3, L, R))) (M := mr_89) rfl (show mcode 89 29 = some (29, .bastore, 1, 0, 0, 0, _) from rfl) (Or.inr (Or.inr (Or.inr (Or.inl ⟨_, _, by rw [eI3]; exact sta_y b4 c42 hin2, rfl⟩)))) ?_
  have xb0 := i2b_rng (((v >>> (24 &&& 31))))
  have hwI3 : wOK (mkT vV []) (wE sh R) (sh, I3, L, R) := by rw [eI3]; exact wOK_u2 (q := 42) (k := (ln).toNatClampNeg) (x := ((v >>> (24 &&& 31))).toInt8.toInt32) wE_put hw rfl (by show ((-128) : Int) ≤ _; omega) (by show _ ≤ (127 : Int); omega)
  have hfI3 : fresh (sh, I3, L, R) := by rw [eI3]; exact fresh_I hf c42
  have v5 : I3 41 0 = ln := by rw [eI3, up2_ne (fun e => by cases e.1)]; exact eln
  have v6 : I3 42 (ln).toNatClampNeg = ((v >>> (24 &&& 31))).toInt8.toInt32 := by rw [eI3]; exact up2_eq
  refine XW.fam (S' := (31, [(2, .int 24), (0, .ref 41), (1, .int v)], [.ref 41], (sh, I3, L, R))) (M := mr_89) rfl (show mcode 89 30 = some (30, .aload_n 0, 1, 0, 0, 0, _) from rfl) (Or.inl ⟨.ref 41, rfl, rfl⟩) ?_
  refine XW.fam (S' := (32, [(2, .int 24), (0, .ref 41), (1, .int v)], [.ref 41, .ref 41], (sh, I3, L, R))) (M := mr_89) rfl (show mcode 89 31 = some (31, .dup, 1, 0, 0, 0, _) from rfl) (Or.inr (Or.inr (Or.inr (Or.inr (Or.inr (Or.inl ⟨_, rfl, rfl⟩)))))) ?_
  refine XW.fam (S' := (35, [(2, .int 24), (0, .ref 41), (1, .int v)], [.int (I3 41 0), .ref 41], (sh, I3, L, R))) (M := mr_89) rfl (show mcode 89 32 = some (32, .getfield 28, 3, 5, 0, 0, _) from rfl) (Or.inr (Or.inr (Or.inr (Or.inr (Or.inr (Or.inr (Or.inr (Or.inl ⟨_, _, rfl, fl_ldI c41 (by decide) (by decide), rfl⟩)))))))) ?_
  rw [v5]
  refine XW.fam (S' := (36, [(2, .int 24), (0, .ref 41), (1, .int v)], [.int 1, .int ln, .ref 41], (sh, I3, L, R))) (M := mr_89) rfl (show mcode 89 35 = some (35, .iconst 1, 1, 0, 0, 0, _) from rfl) (Or.inl ⟨.int 1, rfl, rfl⟩) ?_
  refine XW.fam (S' := (37, [(2, .int 24), (0, .ref 41), (1, .int v)], [.int (ln + 1), .ref 41], (sh, I3, L, R))) (M := mr_89) rfl (show mcode 89 36 = some (36, .iadd, 1, 0, 0, 0, _) from rfl) (Or.inr (Or.inr (Or.inr (Or.inr (Or.inr (Or.inl ⟨_, rfl, rfl⟩)))))) ?_
  obtain ⟨I7, eI7⟩ : ∃ X, X = up2 I3 41 0 (ln + 1) := ⟨_, rfl⟩
  refine XW.fam (S' := (40, [(2, .int 24), (0, .ref 41), (1, .int v)], [], (sh, I7, L, R))) (M := mr_89) rfl (show mcode 89 37 = some (37, .putfield 28, 3, 5, 0, 0, _) from rfl) (Or.inr (Or.inr (Or.inr (Or.inr (Or.inr (Or.inr (Or.inr (Or.inr (Or.inl ⟨_, _, _, rfl, by rw [eI7]; exact stf_I c41 (by decide) (by decide) (by decide), rfl⟩))))))))) ?_
  have xi1 := inc32 (m := ln) (by omega) (by omega)
  have hwI7 : wOK (mkT vV []) (wE sh R) (sh, I7, L, R) := by rw [eI7]; exact wOK_u2 (q := 41) (k := 0) (x := (ln + 1)) wE_put hwI3 rfl (by show (0 : Int) ≤ _; omega) (by show _ ≤ (240 : Int); omega)
  have hfI7 : fresh (sh, I7, L, R) := by rw [eI7]; exact fresh_I hfI3 c41
  have v9 : I7 42 (ln).toNatClampNeg = ((v >>> (24 &&& 31))).toInt8.toInt32 := by rw [eI7, up2_ne (fun e => by cases e.1)]; exact v6
  have v10 : I7 41 0 = (ln + 1) := by rw [eI7]; exact up2_eq
  refine XW.fam (S' := (43, [(2, .int 16), (0, .ref 41), (1, .int v)], [], (sh, I7, L, R))) (M := mr_89) rfl (show mcode 89 40 = some (40, .iinc 2 (-8), 3, 0, 0, 0, _) from rfl) (Or.inr (Or.inr (Or.inr (Or.inr (Or.inr (Or.inr (Or.inr (Or.inr (Or.inr ⟨2, (-8), 24, rfl, rfl, by decide, rfl⟩))))))))) ?_
  refine XW.fam (S' := (3, [(2, .int 16), (0, .ref 41), (1, .int v)], [], (sh, I7, L, R))) (M := mr_89) rfl (show mcode 89 43 = some (43, .goto (-40), 3, 3, 0, 0, _) from rfl) (Or.inr (Or.inl ⟨3, [], rfl, rfl⟩)) ?_
  refine XW.fam (S' := (4, [(2, .int 16), (0, .ref 41), (1, .int v)], [.int 16], (sh, I7, L, R))) (M := mr_89) rfl (show mcode 89 3 = some (3, .iload_n 2, 1, 0, 0, 0, _) from rfl) (Or.inl ⟨.int 16, rfl, rfl⟩) ?_
  refine XW.fam (S' := (7, [(2, .int 16), (0, .ref 41), (1, .int v)], [], (sh, I7, L, R))) (M := mr_89) rfl (show mcode 89 4 = some (4, .ifCond .lt 42, 3, 46, 0, 0, _) from rfl) (Or.inr (Or.inl ⟨7, [], rfl, rfl⟩)) ?_
  refine XW.fam (S' := (8, [(2, .int 16), (0, .ref 41), (1, .int v)], [.ref 41], (sh, I7, L, R))) (M := mr_89) rfl (show mcode 89 7 = some (7, .aload_n 0, 1, 0, 0, 0, _) from rfl) (Or.inl ⟨.ref 41, rfl, rfl⟩) ?_
  refine XW.fam (S' := (11, [(2, .int 16), (0, .ref 41), (1, .int v)], [.int (I7 41 0)], (sh, I7, L, R))) (M := mr_89) rfl (show mcode 89 8 = some (8, .getfield 28, 3, 5, 0, 0, _) from rfl) (Or.inr (Or.inr (Or.inr (Or.inr (Or.inr (Or.inr (Or.inr (Or.inl ⟨_, _, rfl, fl_ldI c41 (by decide) (by decide), rfl⟩)))))))) ?_
  rw [v10]
  refine XW.fam (S' := (14, [(2, .int 16), (0, .ref 41), (1, .int v)], [.int 240, .int (ln + 1)], (sh, I7, L, R))) (M := mr_89) rfl (show mcode 89 11 = some (11, .sipush 240, 3, 0, 0, 0, _) from rfl) (Or.inl ⟨.int 240, rfl, rfl⟩) ?_
  have k11 : bcmp .ge (ln + 1) 240 = false := bcF (c := .ge) (a := ((ln + 1)).toInt) (b := 240) rfl (by decide) (by show ¬ (240 ≤ ((ln + 1)).toInt); omega)
  refine XW.fam (S' := (17, [(2, .int 16), (0, .ref 41), (1, .int v)], [], (sh, I7, L, R))) (M := mr_89) rfl (show mcode 89 14 = some (14, .if_icmp .ge 26, 3, 40, 0, 0, _) from rfl) (Or.inr (Or.inl ⟨17, [], by simp [brn, k11], rfl⟩)) ?_
  refine XW.fam (S' := (18, [(2, .int 16), (0, .ref 41), (1, .int v)], [.ref 41], (sh, I7, L, R))) (M := mr_89) rfl (show mcode 89 17 = some (17, .aload_n 0, 1, 0, 0, 0, _) from rfl) (Or.inl ⟨.ref 41, rfl, rfl⟩) ?_
  refine XW.fam (S' := (21, [(2, .int 16), (0, .ref 41), (1, .int v)], [.ref 42], (sh, I7, L, R))) (M := mr_89) rfl (show mcode 89 18 = some (18, .getfield 9, 3, 5, 1, 0, _) from rfl) (Or.inr (Or.inr (Or.inr (Or.inr (Or.inr (Or.inr (Or.inr (Or.inl ⟨_, _, rfl, fl_ld c41 r41_1 (by decide) (by decide), rfl⟩)))))))) ?_
  refine XW.fam (S' := (22, [(2, .int 16), (0, .ref 41), (1, .int v)], [.ref 41, .ref 42], (sh, I7, L, R))) (M := mr_89) rfl (show mcode 89 21 = some (21, .aload_n 0, 1, 0, 0, 0, _) from rfl) (Or.inl ⟨.ref 41, rfl, rfl⟩) ?_
  refine XW.fam (S' := (25, [(2, .int 16), (0, .ref 41), (1, .int v)], [.int (I7 41 0), .ref 42], (sh, I7, L, R))) (M := mr_89) rfl (show mcode 89 22 = some (22, .getfield 28, 3, 5, 0, 0, _) from rfl) (Or.inr (Or.inr (Or.inr (Or.inr (Or.inr (Or.inr (Or.inr (Or.inl ⟨_, _, rfl, fl_ldI c41 (by decide) (by decide), rfl⟩)))))))) ?_
  rw [v10]
  refine XW.fam (S' := (26, [(2, .int 16), (0, .ref 41), (1, .int v)], [.int v, .int (ln + 1), .ref 42], (sh, I7, L, R))) (M := mr_89) rfl (show mcode 89 25 = some (25, .iload_n 1, 1, 0, 0, 0, _) from rfl) (Or.inl ⟨.int v, rfl, rfl⟩) ?_
  refine XW.fam (S' := (27, [(2, .int 16), (0, .ref 41), (1, .int v)], [.int 16, .int v, .int (ln + 1), .ref 42], (sh, I7, L, R))) (M := mr_89) rfl (show mcode 89 26 = some (26, .iload_n 2, 1, 0, 0, 0, _) from rfl) (Or.inl ⟨.int 16, rfl, rfl⟩) ?_
  refine XW.fam (S' := (28, [(2, .int 16), (0, .ref 41), (1, .int v)], [.int (v >>> (16 &&& 31)), .int (ln + 1), .ref 42], (sh, I7, L, R))) (M := mr_89) rfl (show mcode 89 27 = some (27, .ishr, 1, 0, 0, 0, _) from rfl) (Or.inr (Or.inr (Or.inr (Or.inr (Or.inr (Or.inl ⟨_, rfl, rfl⟩)))))) ?_
  refine XW.fam (S' := (29, [(2, .int 16), (0, .ref 41), (1, .int v)], [.int ((v >>> (16 &&& 31))).toInt8.toInt32, .int (ln + 1), .ref 42], (sh, I7, L, R))) (M := mr_89) rfl (show mcode 89 28 = some (28, .i2b, 1, 0, 0, 0, _) from rfl) (Or.inr (Or.inr (Or.inr (Or.inr (Or.inr (Or.inl ⟨_, rfl, rfl⟩)))))) ?_
  have hin12 : inR (ln + 1) 240 = true := inR_of (by omega) (by omega)
  have b14 : vp_nar .byte (((v >>> (16 &&& 31))).toInt8.toInt32) = ((v >>> (16 &&& 31))).toInt8.toInt32 := nar_b _
  obtain ⟨I13, eI13⟩ : ∃ X, X = up2 I7 42 ((ln + 1)).toNatClampNeg ((v >>> (16 &&& 31))).toInt8.toInt32 := ⟨_, rfl⟩
  refine XW.fam (S' := (30, [(2, .int 16), (0, .ref 41), (1, .int v)], [], (sh, I13, L, R))) (M := mr_89) rfl (show mcode 89 29 = some (29, .bastore, 1, 0, 0, 0, _) from rfl) (Or.inr (Or.inr (Or.inr (Or.inl ⟨_, _, by rw [eI13]; exact sta_y b14 c42 hin12, rfl⟩)))) ?_
  have xb2 := i2b_rng (((v >>> (16 &&& 31))))
  have hwI13 : wOK (mkT vV []) (wE sh R) (sh, I13, L, R) := by rw [eI13]; exact wOK_u2 (q := 42) (k := ((ln + 1)).toNatClampNeg) (x := ((v >>> (16 &&& 31))).toInt8.toInt32) wE_put hwI7 rfl (by show ((-128) : Int) ≤ _; omega) (by show _ ≤ (127 : Int); omega)
  have hfI13 : fresh (sh, I13, L, R) := by rw [eI13]; exact fresh_I hfI7 c42
  have v16 : I13 41 0 = (ln + 1) := by rw [eI13, up2_ne (fun e => by cases e.1)]; exact v10
  have v17 : I13 42 ((ln + 1)).toNatClampNeg = ((v >>> (16 &&& 31))).toInt8.toInt32 := by rw [eI13]; exact up2_eq
  refine XW.fam (S' := (31, [(2, .int 16), (0, .ref 41), (1, .int v)], [.ref 41], (sh, I13, L, R))) (M := mr_89) rfl (show mcode 89 30 = some (30, .aload_n 0, 1, 0, 0, 0, _) from rfl) (Or.inl ⟨.ref 41, rfl, rfl⟩) ?_
  refine XW.fam (S' := (32, [(2, .int 16), (0, .ref 41), (1, .int v)], [.ref 41, .ref 41], (sh, I13, L, R))) (M := mr_89) rfl (show mcode 89 31 = some (31, .dup, 1, 0, 0, 0, _) from rfl) (Or.inr (Or.inr (Or.inr (Or.inr (Or.inr (Or.inl ⟨_, rfl, rfl⟩)))))) ?_
  refine XW.fam (S' := (35, [(2, .int 16), (0, .ref 41), (1, .int v)], [.int (I13 41 0), .ref 41], (sh, I13, L, R))) (M := mr_89) rfl (show mcode 89 32 = some (32, .getfield 28, 3, 5, 0, 0, _) from rfl) (Or.inr (Or.inr (Or.inr (Or.inr (Or.inr (Or.inr (Or.inr (Or.inl ⟨_, _, rfl, fl_ldI c41 (by decide) (by decide), rfl⟩)))))))) ?_
  rw [v16]
  refine XW.fam (S' := (36, [(2, .int 16), (0, .ref 41), (1, .int v)], [.int 1, .int (ln + 1), .ref 41], (sh, I13, L, R))) (M := mr_89) rfl (show mcode 89 35 = some (35, .iconst 1, 1, 0, 0, 0, _) from rfl) (Or.inl ⟨.int 1, rfl, rfl⟩) ?_
  refine XW.fam (S' := (37, [(2, .int 16), (0, .ref 41), (1, .int v)], [.int ((ln + 1) + 1), .ref 41], (sh, I13, L, R))) (M := mr_89) rfl (show mcode 89 36 = some (36, .iadd, 1, 0, 0, 0, _) from rfl) (Or.inr (Or.inr (Or.inr (Or.inr (Or.inr (Or.inl ⟨_, rfl, rfl⟩)))))) ?_
  obtain ⟨I18, eI18⟩ : ∃ X, X = up2 I13 41 0 ((ln + 1) + 1) := ⟨_, rfl⟩
  refine XW.fam (S' := (40, [(2, .int 16), (0, .ref 41), (1, .int v)], [], (sh, I18, L, R))) (M := mr_89) rfl (show mcode 89 37 = some (37, .putfield 28, 3, 5, 0, 0, _) from rfl) (Or.inr (Or.inr (Or.inr (Or.inr (Or.inr (Or.inr (Or.inr (Or.inr (Or.inl ⟨_, _, _, rfl, by rw [eI18]; exact stf_I c41 (by decide) (by decide) (by decide), rfl⟩))))))))) ?_
  have xi3 := inc32 (m := (ln + 1)) (by omega) (by omega)
  have hwI18 : wOK (mkT vV []) (wE sh R) (sh, I18, L, R) := by rw [eI18]; exact wOK_u2 (q := 41) (k := 0) (x := ((ln + 1) + 1)) wE_put hwI13 rfl (by show (0 : Int) ≤ _; omega) (by show _ ≤ (240 : Int); omega)
  have hfI18 : fresh (sh, I18, L, R) := by rw [eI18]; exact fresh_I hfI13 c41
  have v20 : I18 42 ((ln + 1)).toNatClampNeg = ((v >>> (16 &&& 31))).toInt8.toInt32 := by rw [eI18, up2_ne (fun e => by cases e.1)]; exact v17
  have v21 : I18 41 0 = ((ln + 1) + 1) := by rw [eI18]; exact up2_eq
  refine XW.fam (S' := (43, [(2, .int 8), (0, .ref 41), (1, .int v)], [], (sh, I18, L, R))) (M := mr_89) rfl (show mcode 89 40 = some (40, .iinc 2 (-8), 3, 0, 0, 0, _) from rfl) (Or.inr (Or.inr (Or.inr (Or.inr (Or.inr (Or.inr (Or.inr (Or.inr (Or.inr ⟨2, (-8), 16, rfl, rfl, by decide, rfl⟩))))))))) ?_
  refine XW.fam (S' := (3, [(2, .int 8), (0, .ref 41), (1, .int v)], [], (sh, I18, L, R))) (M := mr_89) rfl (show mcode 89 43 = some (43, .goto (-40), 3, 3, 0, 0, _) from rfl) (Or.inr (Or.inl ⟨3, [], rfl, rfl⟩)) ?_
  refine XW.fam (S' := (4, [(2, .int 8), (0, .ref 41), (1, .int v)], [.int 8], (sh, I18, L, R))) (M := mr_89) rfl (show mcode 89 3 = some (3, .iload_n 2, 1, 0, 0, 0, _) from rfl) (Or.inl ⟨.int 8, rfl, rfl⟩) ?_
  refine XW.fam (S' := (7, [(2, .int 8), (0, .ref 41), (1, .int v)], [], (sh, I18, L, R))) (M := mr_89) rfl (show mcode 89 4 = some (4, .ifCond .lt 42, 3, 46, 0, 0, _) from rfl) (Or.inr (Or.inl ⟨7, [], rfl, rfl⟩)) ?_
  refine XW.fam (S' := (8, [(2, .int 8), (0, .ref 41), (1, .int v)], [.ref 41], (sh, I18, L, R))) (M := mr_89) rfl (show mcode 89 7 = some (7, .aload_n 0, 1, 0, 0, 0, _) from rfl) (Or.inl ⟨.ref 41, rfl, rfl⟩) ?_
  refine XW.fam (S' := (11, [(2, .int 8), (0, .ref 41), (1, .int v)], [.int (I18 41 0)], (sh, I18, L, R))) (M := mr_89) rfl (show mcode 89 8 = some (8, .getfield 28, 3, 5, 0, 0, _) from rfl) (Or.inr (Or.inr (Or.inr (Or.inr (Or.inr (Or.inr (Or.inr (Or.inl ⟨_, _, rfl, fl_ldI c41 (by decide) (by decide), rfl⟩)))))))) ?_
  rw [v21]
  refine XW.fam (S' := (14, [(2, .int 8), (0, .ref 41), (1, .int v)], [.int 240, .int ((ln + 1) + 1)], (sh, I18, L, R))) (M := mr_89) rfl (show mcode 89 11 = some (11, .sipush 240, 3, 0, 0, 0, _) from rfl) (Or.inl ⟨.int 240, rfl, rfl⟩) ?_
  have k22 : bcmp .ge ((ln + 1) + 1) 240 = false := bcF (c := .ge) (a := (((ln + 1) + 1)).toInt) (b := 240) rfl (by decide) (by show ¬ (240 ≤ (((ln + 1) + 1)).toInt); omega)
  refine XW.fam (S' := (17, [(2, .int 8), (0, .ref 41), (1, .int v)], [], (sh, I18, L, R))) (M := mr_89) rfl (show mcode 89 14 = some (14, .if_icmp .ge 26, 3, 40, 0, 0, _) from rfl) (Or.inr (Or.inl ⟨17, [], by simp [brn, k22], rfl⟩)) ?_
  refine XW.fam (S' := (18, [(2, .int 8), (0, .ref 41), (1, .int v)], [.ref 41], (sh, I18, L, R))) (M := mr_89) rfl (show mcode 89 17 = some (17, .aload_n 0, 1, 0, 0, 0, _) from rfl) (Or.inl ⟨.ref 41, rfl, rfl⟩) ?_
  refine XW.fam (S' := (21, [(2, .int 8), (0, .ref 41), (1, .int v)], [.ref 42], (sh, I18, L, R))) (M := mr_89) rfl (show mcode 89 18 = some (18, .getfield 9, 3, 5, 1, 0, _) from rfl) (Or.inr (Or.inr (Or.inr (Or.inr (Or.inr (Or.inr (Or.inr (Or.inl ⟨_, _, rfl, fl_ld c41 r41_1 (by decide) (by decide), rfl⟩)))))))) ?_
  refine XW.fam (S' := (22, [(2, .int 8), (0, .ref 41), (1, .int v)], [.ref 41, .ref 42], (sh, I18, L, R))) (M := mr_89) rfl (show mcode 89 21 = some (21, .aload_n 0, 1, 0, 0, 0, _) from rfl) (Or.inl ⟨.ref 41, rfl, rfl⟩) ?_
  refine XW.fam (S' := (25, [(2, .int 8), (0, .ref 41), (1, .int v)], [.int (I18 41 0), .ref 42], (sh, I18, L, R))) (M := mr_89) rfl (show mcode 89 22 = some (22, .getfield 28, 3, 5, 0, 0, _) from rfl) (Or.inr (Or.inr (Or.inr (Or.inr (Or.inr (Or.inr (Or.inr (Or.inl ⟨_, _, rfl, fl_ldI c41 (by decide) (by decide), rfl⟩)))))))) ?_
  rw [v21]
  refine XW.fam (S' := (26, [(2, .int 8), (0, .ref 41), (1, .int v)], [.int v, .int ((ln + 1) + 1), .ref 42], (sh, I18, L, R))) (M := mr_89) rfl (show mcode 89 25 = some (25, .iload_n 1, 1, 0, 0, 0, _) from rfl) (Or.inl ⟨.int v, rfl, rfl⟩) ?_
  refine XW.fam (S' := (27, [(2, .int 8), (0, .ref 41), (1, .int v)], [.int 8, .int v, .int ((ln + 1) + 1), .ref 42], (sh, I18, L, R))) (M := mr_89) rfl (show mcode 89 26 = some (26, .iload_n 2, 1, 0, 0, 0, _) from rfl) (Or.inl ⟨.int 8, rfl, rfl⟩) ?_
  refine XW.fam (S' := (28, [(2, .int 8), (0, .ref 41), (1, .int v)], [.int (v >>> (8 &&& 31)), .int ((ln + 1) + 1), .ref 42], (sh, I18, L, R))) (M := mr_89) rfl (show mcode 89 27 = some (27, .ishr, 1, 0, 0, 0, _) from rfl) (Or.inr (Or.inr (Or.inr (Or.inr (Or.inr (Or.inl ⟨_, rfl, rfl⟩)))))) ?_
  refine XW.fam (S' := (29, [(2, .int 8), (0, .ref 41), (1, .int v)], [.int ((v >>> (8 &&& 31))).toInt8.toInt32, .int ((ln + 1) + 1), .ref 42], (sh, I18, L, R))) (M := mr_89) rfl (show mcode 89 28 = some (28, .i2b, 1, 0, 0, 0, _) from rfl) (Or.inr (Or.inr (Or.inr (Or.inr (Or.inr (Or.inl ⟨_, rfl, rfl⟩)))))) ?_
  have hin23 : inR ((ln + 1) + 1) 240 = true := inR_of (by omega) (by omega)
  have b25 : vp_nar .byte (((v >>> (8 &&& 31))).toInt8.toInt32) = ((v >>> (8 &&& 31))).toInt8.toInt32 := nar_b _
  obtain ⟨I24, eI24⟩ : ∃ X, X = up2 I18 42 (((ln + 1) + 1)).toNatClampNeg ((v >>> (8 &&& 31))).toInt8.toInt32 := ⟨_, rfl⟩
  refine XW.fam (S' := (30, [(2, .int 8), (0, .ref 41), (1, .int v)], [], (sh, I24, L, R))) (M := mr_89) rfl (show mcode 89 29 = some (29, .bastore, 1, 0, 0, 0, _) from rfl) (Or.inr (Or.inr (Or.inr (Or.inl ⟨_, _, by rw [eI24]; exact sta_y b25 c42 hin23, rfl⟩)))) ?_
  have xb4 := i2b_rng (((v >>> (8 &&& 31))))
  have hwI24 : wOK (mkT vV []) (wE sh R) (sh, I24, L, R) := by rw [eI24]; exact wOK_u2 (q := 42) (k := (((ln + 1) + 1)).toNatClampNeg) (x := ((v >>> (8 &&& 31))).toInt8.toInt32) wE_put hwI18 rfl (by show ((-128) : Int) ≤ _; omega) (by show _ ≤ (127 : Int); omega)
  have hfI24 : fresh (sh, I24, L, R) := by rw [eI24]; exact fresh_I hfI18 c42
  have v27 : I24 41 0 = ((ln + 1) + 1) := by rw [eI24, up2_ne (fun e => by cases e.1)]; exact v21
  have v28 : I24 42 (((ln + 1) + 1)).toNatClampNeg = ((v >>> (8 &&& 31))).toInt8.toInt32 := by rw [eI24]; exact up2_eq
  refine XW.fam (S' := (31, [(2, .int 8), (0, .ref 41), (1, .int v)], [.ref 41], (sh, I24, L, R))) (M := mr_89) rfl (show mcode 89 30 = some (30, .aload_n 0, 1, 0, 0, 0, _) from rfl) (Or.inl ⟨.ref 41, rfl, rfl⟩) ?_
  refine XW.fam (S' := (32, [(2, .int 8), (0, .ref 41), (1, .int v)], [.ref 41, .ref 41], (sh, I24, L, R))) (M := mr_89) rfl (show mcode 89 31 = some (31, .dup, 1, 0, 0, 0, _) from rfl) (Or.inr (Or.inr (Or.inr (Or.inr (Or.inr (Or.inl ⟨_, rfl, rfl⟩)))))) ?_
  refine XW.fam (S' := (35, [(2, .int 8), (0, .ref 41), (1, .int v)], [.int (I24 41 0), .ref 41], (sh, I24, L, R))) (M := mr_89) rfl (show mcode 89 32 = some (32, .getfield 28, 3, 5, 0, 0, _) from rfl) (Or.inr (Or.inr (Or.inr (Or.inr (Or.inr (Or.inr (Or.inr (Or.inl ⟨_, _, rfl, fl_ldI c41 (by decide) (by decide), rfl⟩)))))))) ?_
  rw [v27]
  refine XW.fam (S' := (36, [(2, .int 8), (0, .ref 41), (1, .int v)], [.int 1, .int ((ln + 1) + 1), .ref 41], (sh, I24, L, R))) (M := mr_89) rfl (show mcode 89 35 = some (35, .iconst 1, 1, 0, 0, 0, _) from rfl) (Or.inl ⟨.int 1, rfl, rfl⟩) ?_
  refine XW.fam (S' := (37, [(2, .int 8), (0, .ref 41), (1, .int v)], [.int (((ln + 1) + 1) + 1), .ref 41], (sh, I24, L, R))) (M := mr_89) rfl (show mcode 89 36 = some (36, .iadd, 1, 0, 0, 0, _) from rfl) (Or.inr (Or.inr (Or.inr (Or.inr (Or.inr (Or.inl ⟨_, rfl, rfl⟩)))))) ?_
  obtain ⟨I29, eI29⟩ : ∃ X, X = up2 I24 41 0 (((ln + 1) + 1) + 1) := ⟨_, rfl⟩
  refine XW.fam (S' := (40, [(2, .int 8), (0, .ref 41), (1, .int v)], [], (sh, I29, L, R))) (M := mr_89) rfl (show mcode 89 37 = some (37, .putfield 28, 3, 5, 0, 0, _) from rfl) (Or.inr (Or.inr (Or.inr (Or.inr (Or.inr (Or.inr (Or.inr (Or.inr (Or.inl ⟨_, _, _, rfl, by rw [eI29]; exact stf_I c41 (by decide) (by decide) (by decide), rfl⟩))))))))) ?_
  have xi5 := inc32 (m := ((ln + 1) + 1)) (by omega) (by omega)
  have hwI29 : wOK (mkT vV []) (wE sh R) (sh, I29, L, R) := by rw [eI29]; exact wOK_u2 (q := 41) (k := 0) (x := (((ln + 1) + 1) + 1)) wE_put hwI24 rfl (by show (0 : Int) ≤ _; omega) (by show _ ≤ (240 : Int); omega)
  have hfI29 : fresh (sh, I29, L, R) := by rw [eI29]; exact fresh_I hfI24 c41
  have v31 : I29 42 (((ln + 1) + 1)).toNatClampNeg = ((v >>> (8 &&& 31))).toInt8.toInt32 := by rw [eI29, up2_ne (fun e => by cases e.1)]; exact v28
  have v32 : I29 41 0 = (((ln + 1) + 1) + 1) := by rw [eI29]; exact up2_eq
  refine XW.fam (S' := (43, [(2, .int 0), (0, .ref 41), (1, .int v)], [], (sh, I29, L, R))) (M := mr_89) rfl (show mcode 89 40 = some (40, .iinc 2 (-8), 3, 0, 0, 0, _) from rfl) (Or.inr (Or.inr (Or.inr (Or.inr (Or.inr (Or.inr (Or.inr (Or.inr (Or.inr ⟨2, (-8), 8, rfl, rfl, by decide, rfl⟩))))))))) ?_
  refine XW.fam (S' := (3, [(2, .int 0), (0, .ref 41), (1, .int v)], [], (sh, I29, L, R))) (M := mr_89) rfl (show mcode 89 43 = some (43, .goto (-40), 3, 3, 0, 0, _) from rfl) (Or.inr (Or.inl ⟨3, [], rfl, rfl⟩)) ?_
  refine XW.fam (S' := (4, [(2, .int 0), (0, .ref 41), (1, .int v)], [.int 0], (sh, I29, L, R))) (M := mr_89) rfl (show mcode 89 3 = some (3, .iload_n 2, 1, 0, 0, 0, _) from rfl) (Or.inl ⟨.int 0, rfl, rfl⟩) ?_
  refine XW.fam (S' := (7, [(2, .int 0), (0, .ref 41), (1, .int v)], [], (sh, I29, L, R))) (M := mr_89) rfl (show mcode 89 4 = some (4, .ifCond .lt 42, 3, 46, 0, 0, _) from rfl) (Or.inr (Or.inl ⟨7, [], rfl, rfl⟩)) ?_
  refine XW.fam (S' := (8, [(2, .int 0), (0, .ref 41), (1, .int v)], [.ref 41], (sh, I29, L, R))) (M := mr_89) rfl (show mcode 89 7 = some (7, .aload_n 0, 1, 0, 0, 0, _) from rfl) (Or.inl ⟨.ref 41, rfl, rfl⟩) ?_
  refine XW.fam (S' := (11, [(2, .int 0), (0, .ref 41), (1, .int v)], [.int (I29 41 0)], (sh, I29, L, R))) (M := mr_89) rfl (show mcode 89 8 = some (8, .getfield 28, 3, 5, 0, 0, _) from rfl) (Or.inr (Or.inr (Or.inr (Or.inr (Or.inr (Or.inr (Or.inr (Or.inl ⟨_, _, rfl, fl_ldI c41 (by decide) (by decide), rfl⟩)))))))) ?_
  rw [v32]
  refine XW.fam (S' := (14, [(2, .int 0), (0, .ref 41), (1, .int v)], [.int 240, .int (((ln + 1) + 1) + 1)], (sh, I29, L, R))) (M := mr_89) rfl (show mcode 89 11 = some (11, .sipush 240, 3, 0, 0, 0, _) from rfl) (Or.inl ⟨.int 240, rfl, rfl⟩) ?_
  have k33 : bcmp .ge (((ln + 1) + 1) + 1) 240 = false := bcF (c := .ge) (a := ((((ln + 1) + 1) + 1)).toInt) (b := 240) rfl (by decide) (by show ¬ (240 ≤ ((((ln + 1) + 1) + 1)).toInt); omega)
  refine XW.fam (S' := (17, [(2, .int 0), (0, .ref 41), (1, .int v)], [], (sh, I29, L, R))) (M := mr_89) rfl (show mcode 89 14 = some (14, .if_icmp .ge 26, 3, 40, 0, 0, _) from rfl) (Or.inr (Or.inl ⟨17, [], by simp [brn, k33], rfl⟩)) ?_
  refine XW.fam (S' := (18, [(2, .int 0), (0, .ref 41), (1, .int v)], [.ref 41], (sh, I29, L, R))) (M := mr_89) rfl (show mcode 89 17 = some (17, .aload_n 0, 1, 0, 0, 0, _) from rfl) (Or.inl ⟨.ref 41, rfl, rfl⟩) ?_
  refine XW.fam (S' := (21, [(2, .int 0), (0, .ref 41), (1, .int v)], [.ref 42], (sh, I29, L, R))) (M := mr_89) rfl (show mcode 89 18 = some (18, .getfield 9, 3, 5, 1, 0, _) from rfl) (Or.inr (Or.inr (Or.inr (Or.inr (Or.inr (Or.inr (Or.inr (Or.inl ⟨_, _, rfl, fl_ld c41 r41_1 (by decide) (by decide), rfl⟩)))))))) ?_
  refine XW.fam (S' := (22, [(2, .int 0), (0, .ref 41), (1, .int v)], [.ref 41, .ref 42], (sh, I29, L, R))) (M := mr_89) rfl (show mcode 89 21 = some (21, .aload_n 0, 1, 0, 0, 0, _) from rfl) (Or.inl ⟨.ref 41, rfl, rfl⟩) ?_
  refine XW.fam (S' := (25, [(2, .int 0), (0, .ref 41), (1, .int v)], [.int (I29 41 0), .ref 42], (sh, I29, L, R))) (M := mr_89) rfl (show mcode 89 22 = some (22, .getfield 28, 3, 5, 0, 0, _) from rfl) (Or.inr (Or.inr (Or.inr (Or.inr (Or.inr (Or.inr (Or.inr (Or.inl ⟨_, _, rfl, fl_ldI c41 (by decide) (by decide), rfl⟩)))))))) ?_
  rw [v32]
  refine XW.fam (S' := (26, [(2, .int 0), (0, .ref 41), (1, .int v)], [.int v, .int (((ln + 1) + 1) + 1), .ref 42], (sh, I29, L, R))) (M := mr_89) rfl (show mcode 89 25 = some (25, .iload_n 1, 1, 0, 0, 0, _) from rfl) (Or.inl ⟨.int v, rfl, rfl⟩) ?_
  refine XW.fam (S' := (27, [(2, .int 0), (0, .ref 41), (1, .int v)], [.int 0, .int v, .int (((ln + 1) + 1) + 1), .ref 42], (sh, I29, L, R))) (M := mr_89) rfl (show mcode 89 26 = some (26, .iload_n 2, 1, 0, 0, 0, _) from rfl) (Or.inl ⟨.int 0, rfl, rfl⟩) ?_
  refine XW.fam (S' := (28, [(2, .int 0), (0, .ref 41), (1, .int v)], [.int (v >>> (0 &&& 31)), .int (((ln + 1) + 1) + 1), .ref 42], (sh, I29, L, R))) (M := mr_89) rfl (show mcode 89 27 = some (27, .ishr, 1, 0, 0, 0, _) from rfl) (Or.inr (Or.inr (Or.inr (Or.inr (Or.inr (Or.inl ⟨_, rfl, rfl⟩)))))) ?_
  refine XW.fam (S' := (29, [(2, .int 0), (0, .ref 41), (1, .int v)], [.int ((v >>> (0 &&& 31))).toInt8.toInt32, .int (((ln + 1) + 1) + 1), .ref 42], (sh, I29, L, R))) (M := mr_89) rfl (show mcode 89 28 = some (28, .i2b, 1, 0, 0, 0, _) from rfl) (Or.inr (Or.inr (Or.inr (Or.inr (Or.inr (Or.inl ⟨_, rfl, rfl⟩)))))) ?_
  have hin34 : inR (((ln + 1) + 1) + 1) 240 = true := inR_of (by omega) (by omega)
  have b36 : vp_nar .byte (((v >>> (0 &&& 31))).toInt8.toInt32) = ((v >>> (0 &&& 31))).toInt8.toInt32 := nar_b _
  obtain ⟨I35, eI35⟩ : ∃ X, X = up2 I29 42 ((((ln + 1) + 1) + 1)).toNatClampNeg ((v >>> (0 &&& 31))).toInt8.toInt32 := ⟨_, rfl⟩
  refine XW.fam (S' := (30, [(2, .int 0), (0, .ref 41), (1, .int v)], [], (sh, I35, L, R))) (M := mr_89) rfl (show mcode 89 29 = some (29, .bastore, 1, 0, 0, 0, _) from rfl) (Or.inr (Or.inr (Or.inr (Or.inl ⟨_, _, by rw [eI35]; exact sta_y b36 c42 hin34, rfl⟩)))) ?_
  have xb6 := i2b_rng (((v >>> (0 &&& 31))))
  have hwI35 : wOK (mkT vV []) (wE sh R) (sh, I35, L, R) := by rw [eI35]; exact wOK_u2 (q := 42) (k := ((((ln + 1) + 1) + 1)).toNatClampNeg) (x := ((v >>> (0 &&& 31))).toInt8.toInt32) wE_put hwI29 rfl (by show ((-128) : Int) ≤ _; omega) (by show _ ≤ (127 : Int); omega)
  have hfI35 : fresh (sh, I35, L, R) := by rw [eI35]; exact fresh_I hfI29 c42
  have v38 : I35 41 0 = (((ln + 1) + 1) + 1) := by rw [eI35, up2_ne (fun e => by cases e.1)]; exact v32
  have v39 : I35 42 ((((ln + 1) + 1) + 1)).toNatClampNeg = ((v >>> (0 &&& 31))).toInt8.toInt32 := by rw [eI35]; exact up2_eq
  refine XW.fam (S' := (31, [(2, .int 0), (0, .ref 41), (1, .int v)], [.ref 41], (sh, I35, L, R))) (M := mr_89) rfl (show mcode 89 30 = some (30, .aload_n 0, 1, 0, 0, 0, _) from rfl) (Or.inl ⟨.ref 41, rfl, rfl⟩) ?_
  refine XW.fam (S' := (32, [(2, .int 0), (0, .ref 41), (1, .int v)], [.ref 41, .ref 41], (sh, I35, L, R))) (M := mr_89) rfl (show mcode 89 31 = some (31, .dup, 1, 0, 0, 0, _) from rfl) (Or.inr (Or.inr (Or.inr (Or.inr (Or.inr (Or.inl ⟨_, rfl, rfl⟩)))))) ?_
  refine XW.fam (S' := (35, [(2, .int 0), (0, .ref 41), (1, .int v)], [.int (I35 41 0), .ref 41], (sh, I35, L, R))) (M := mr_89) rfl (show mcode 89 32 = some (32, .getfield 28, 3, 5, 0, 0, _) from rfl) (Or.inr (Or.inr (Or.inr (Or.inr (Or.inr (Or.inr (Or.inr (Or.inl ⟨_, _, rfl, fl_ldI c41 (by decide) (by decide), rfl⟩)))))))) ?_
  rw [v38]
  refine XW.fam (S' := (36, [(2, .int 0), (0, .ref 41), (1, .int v)], [.int 1, .int (((ln + 1) + 1) + 1), .ref 41], (sh, I35, L, R))) (M := mr_89) rfl (show mcode 89 35 = some (35, .iconst 1, 1, 0, 0, 0, _) from rfl) (Or.inl ⟨.int 1, rfl, rfl⟩) ?_
  refine XW.fam (S' := (37, [(2, .int 0), (0, .ref 41), (1, .int v)], [.int ((((ln + 1) + 1) + 1) + 1), .ref 41], (sh, I35, L, R))) (M := mr_89) rfl (show mcode 89 36 = some (36, .iadd, 1, 0, 0, 0, _) from rfl) (Or.inr (Or.inr (Or.inr (Or.inr (Or.inr (Or.inl ⟨_, rfl, rfl⟩)))))) ?_
  obtain ⟨I40, eI40⟩ : ∃ X, X = up2 I35 41 0 ((((ln + 1) + 1) + 1) + 1) := ⟨_, rfl⟩
  refine XW.fam (S' := (40, [(2, .int 0), (0, .ref 41), (1, .int v)], [], (sh, I40, L, R))) (M := mr_89) rfl (show mcode 89 37 = some (37, .putfield 28, 3, 5, 0, 0, _) from rfl) (Or.inr (Or.inr (Or.inr (Or.inr (Or.inr (Or.inr (Or.inr (Or.inr (Or.inl ⟨_, _, _, rfl, by rw [eI40]; exact stf_I c41 (by decide) (by decide) (by decide), rfl⟩))))))))) ?_
  have xi7 := inc32 (m := (((ln + 1) + 1) + 1)) (by omega) (by omega)
  have hwI40 : wOK (mkT vV []) (wE sh R) (sh, I40, L, R) := by rw [eI40]; exact wOK_u2 (q := 41) (k := 0) (x := ((((ln + 1) + 1) + 1) + 1)) wE_put hwI35 rfl (by show (0 : Int) ≤ _; omega) (by show _ ≤ (240 : Int); omega)
  have hfI40 : fresh (sh, I40, L, R) := by rw [eI40]; exact fresh_I hfI35 c41
  have v42 : I40 42 ((((ln + 1) + 1) + 1)).toNatClampNeg = ((v >>> (0 &&& 31))).toInt8.toInt32 := by rw [eI40, up2_ne (fun e => by cases e.1)]; exact v39
  have v43 : I40 41 0 = ((((ln + 1) + 1) + 1) + 1) := by rw [eI40]; exact up2_eq
  refine XW.fam (S' := (43, [(2, .int (-8)), (0, .ref 41), (1, .int v)], [], (sh, I40, L, R))) (M := mr_89) rfl (show mcode 89 40 = some (40, .iinc 2 (-8), 3, 0, 0, 0, _) from rfl) (Or.inr (Or.inr (Or.inr (Or.inr (Or.inr (Or.inr (Or.inr (Or.inr (Or.inr ⟨2, (-8), 0, rfl, rfl, by decide, rfl⟩))))))))) ?_
  refine XW.fam (S' := (3, [(2, .int (-8)), (0, .ref 41), (1, .int v)], [], (sh, I40, L, R))) (M := mr_89) rfl (show mcode 89 43 = some (43, .goto (-40), 3, 3, 0, 0, _) from rfl) (Or.inr (Or.inl ⟨3, [], rfl, rfl⟩)) ?_
  refine XW.fam (S' := (4, [(2, .int (-8)), (0, .ref 41), (1, .int v)], [.int (-8)], (sh, I40, L, R))) (M := mr_89) rfl (show mcode 89 3 = some (3, .iload_n 2, 1, 0, 0, 0, _) from rfl) (Or.inl ⟨.int (-8), rfl, rfl⟩) ?_
  refine XW.fam (S' := (46, [(2, .int (-8)), (0, .ref 41), (1, .int v)], [], (sh, I40, L, R))) (M := mr_89) rfl (show mcode 89 4 = some (4, .ifCond .lt 42, 3, 46, 0, 0, _) from rfl) (Or.inr (Or.inl ⟨46, [], rfl, rfl⟩)) ?_
  refine XW.ret (r := none) ⟨rfl, by decide +kernel⟩ ?_
  have n0 : (ln).toNatClampNeg = ln.toInt.toNat := rfl
  have n1 : (ln + 1).toNatClampNeg = ln.toInt.toNat + 1 := by show (ln + 1).toInt.toNat = _; omega
  have n2 : ((ln + 1) + 1).toNatClampNeg = ln.toInt.toNat + 2 := by show ((ln + 1) + 1).toInt.toNat = _; omega
  have n3 : (((ln + 1) + 1) + 1).toNatClampNeg = ln.toInt.toNat + 3 := by show (((ln + 1) + 1) + 1).toInt.toNat = _; omega
  refine ⟨rfl, hfI40, hwI40, fun q k z => ?_, ?_, funext fun k => ?_⟩
  · show I40 q k = I q k
    rw [eI40, up2_ne (fun e => by rw [e.1, e.2] at z; cases z), eI35, up2_ne (fun e => by rw [e.1] at z; cases z), eI29, up2_ne (fun e => by rw [e.1, e.2] at z; cases z), eI24, up2_ne (fun e => by rw [e.1] at z; cases z), eI18, up2_ne (fun e => by rw [e.1, e.2] at z; cases z), eI13, up2_ne (fun e => by rw [e.1] at z; cases z), eI7, up2_ne (fun e => by rw [e.1, e.2] at z; cases z), eI3, up2_ne (fun e => by rw [e.1] at z; cases z)]
  · show (I40 41 0).toInt = ln.toInt + 4
    rw [v43]
    omega
  · show I40 42 k = fd4 (I 42) ln.toInt.toNat v k
    rw [eI40, up2_ne (fun e => by cases e.1), eI35, up2_if, eI29, up2_ne (fun e => by cases e.1), eI24, up2_if, eI18, up2_ne (fun e => by cases e.1), eI13, up2_if, eI7, up2_ne (fun e => by cases e.1), eI3, up2_if]
    rw [n3, n2, n1, n0]
    rfl
theorem e8_3 : (8 * 3 : Int32) = 24 := by decide
theorem e8_2 : (8 * 2 : Int32) = 16 := by decide
theorem e8_1 : (8 * 1 : Int32) = 8 := by decide
theorem e8_0 : (8 * 0 : Int32) = 0 := by decide
def mdFo : aM := [(94, some 34), (122, none)]
theorem tc_fdo {d : Nat} {sh : List mE} {I : Nat → Nat → Int32} {L : Nat → Nat → Int64} {R : Nat → Nat → Option Nat} {v : Int32} (hw : wOK (mkT vV []) (wE sh R) (sh, I, L, R)) (hf : fresh (sh, I, L, R)) (hl : (I 94 34).toInt ≤ 236) : Tc 275 d 0 0 [.ref 94, .int v] (sh, I, L, R) (fun r w' => r = none ∧ fresh w' ∧ wOK (mkT vV []) (wE sh R) w' ∧ (∀ q k, inm mdFo q k = false → w'.2.1 q k = I q k) ∧ (w'.2.1 94 34).toInt = (I 94 34).toInt + 4 ∧ w'.2.1 122 = fd4 (I 122) (I 94 34).toInt.toNat v) := by
  have c94 : sh[94]? = some (.inr 12) := hw.1 94 _ rfl
  have c122 : sh[122]? = some (.inl (.byte, 240)) := hw.1 122 _ rfl
  have r94_33 : R 94 33 = some 122 := hw.2.1 94 33 _ rfl
  have z1 : (1 : Int32).toInt = 1 := rfl
  have z3 : (3 : Int32).toInt = 3 := rfl
  have z8 : (8 : Int32).toInt = 8 := rfl
  have hl0 : 0 ≤ (I 94 34).toInt ∧ (I 94 34).toInt ≤ 240 := hw.2.2.1 94 34
  obtain ⟨ln, eln⟩ : ∃ z : Int32, I 94 34 = z := ⟨_, rfl⟩
  rw [eln] at hl hl0 ⊢
  refine Tc.of mr_275 rfl (show 2 ≤ mr_275.2.2.2.1 by decide) ?_
  refine XW.fam (S' := (1, [(0, .ref 94), (1, .int v)], [.int 3], (sh, I, L, R))) (M := mr_275) rfl (show mcode 275 0 = some (0, .iconst 3, 1, 0, 0, 0, _) from rfl) (Or.inl ⟨.int 3, rfl, rfl⟩) ?_
  refine XW.fam (S' := (2, [(2, .int 3), (0, .ref 94), (1, .int v)], [], (sh, I, L, R))) (M := mr_275) rfl (show mcode 275 1 = some (1, .istore_n 2, 1, 0, 0, 0, _) from rfl) (Or.inr (Or.inr (Or.inr (Or.inr (Or.inr (Or.inr (Or.inl ⟨_, [], _, rfl, rfl, rfl⟩))))))) ?_
  refine XW.fam (S' := (3, [(2, .int 3), (0, .ref 94), (1, .int v)], [.int 3], (sh, I, L, R))) (M := mr_275) rfl (show mcode 275 2 = some (2, .iload_n 2, 1, 0, 0, 0, _) from rfl) (Or.inl ⟨.int 3, rfl, rfl⟩) ?_
  refine XW.fam (S' := (6, [(2, .int 3), (0, .ref 94), (1, .int v)], [], (sh, I, L, R))) (M := mr_275) rfl (show mcode 275 3 = some (3, .ifCond .lt 35, 3, 38, 0, 0, _) from rfl) (Or.inr (Or.inl ⟨6, [], rfl, rfl⟩)) ?_
  refine XW.fam (S' := (7, [(2, .int 3), (0, .ref 94), (1, .int v)], [.ref 94], (sh, I, L, R))) (M := mr_275) rfl (show mcode 275 6 = some (6, .aload_n 0, 1, 0, 0, 0, _) from rfl) (Or.inl ⟨.ref 94, rfl, rfl⟩) ?_
  refine XW.fam (S' := (10, [(2, .int 3), (0, .ref 94), (1, .int v)], [.ref 122], (sh, I, L, R))) (M := mr_275) rfl (show mcode 275 7 = some (7, .getfield 96, 3, 12, 33, 0, _) from rfl) (Or.inr (Or.inr (Or.inr (Or.inr (Or.inr (Or.inr (Or.inr (Or.inl ⟨_, _, rfl, fl_ld c94 r94_33 (by decide) (by decide), rfl⟩)))))))) ?_
  refine XW.fam (S' := (11, [(2, .int 3), (0, .ref 94), (1, .int v)], [.ref 94, .ref 122], (sh, I, L, R))) (M := mr_275) rfl (show mcode 275 10 = some (10, .aload_n 0, 1, 0, 0, 0, _) from rfl) (Or.inl ⟨.ref 94, rfl, rfl⟩) ?_
  refine XW.fam (S' := (14, [(2, .int 3), (0, .ref 94), (1, .int v)], [.int (I 94 34), .ref 122], (sh, I, L, R))) (M := mr_275) rfl (show mcode 275 11 = some (11, .getfield 341, 3, 12, 34, 0, _) from rfl) (Or.inr (Or.inr (Or.inr (Or.inr (Or.inr (Or.inr (Or.inr (Or.inl ⟨_, _, rfl, fl_ldI c94 (by decide) (by decide), rfl⟩)))))))) ?_
  rw [eln]
  refine XW.fam (S' := (15, [(2, .int 3), (0, .ref 94), (1, .int v)], [.int v, .int ln, .ref 122], (sh, I, L, R))) (M := mr_275) rfl (show mcode 275 14 = some (14, .iload_n 1, 1, 0, 0, 0, _) from rfl) (Or.inl ⟨.int v, rfl, rfl⟩) ?_
  refine XW.fam (S' := (17, [(2, .int 3), (0, .ref 94), (1, .int v)], [.int 8, .int v, .int ln, .ref 122], (sh, I, L, R))) (M := mr_275) rfl (show mcode 275 15 = some (15, .bipush 8, 2, 0, 0, 0, _) from rfl) (Or.inl ⟨.int 8, rfl, rfl⟩) ?_
  refine XW.fam (S' := (18, [(2, .int 3), (0, .ref 94), (1, .int v)], [.int 3, .int 8, .int v, .int ln, .ref 122], (sh, I, L, R))) (M := mr_275) rfl (show mcode 275 17 = some (17, .iload_n 2, 1, 0, 0, 0, _) from rfl) (Or.inl ⟨.int 3, rfl, rfl⟩) ?_
  refine XW.fam (S' := (19, [(2, .int 3), (0, .ref 94), (1, .int v)], [.int (8 * 3), .int v, .int ln, .ref 122], (sh, I, L, R))) (M := mr_275) rfl (show mcode 275 18 = some (18, .imul, 1, 0, 0, 0, _) from rfl) (Or.inr (Or.inr (Or.inr (Or.inr (Or.inr (Or.inl ⟨_, rfl, rfl⟩)))))) ?_
  refine XW.fam (S' := (20, [(2, .int 3), (0, .ref 94), (1, .int v)], [.int (v >>> ((8 * 3) &&& 31)), .int ln, .ref 122], (sh, I, L, R))) (M := mr_275) rfl (show mcode 275 19 = some (19, .ishr, 1, 0, 0, 0, _) from rfl) (Or.inr (Or.inr (Or.inr (Or.inr (Or.inr (Or.inl ⟨_, rfl, rfl⟩)))))) ?_
  refine XW.fam (S' := (21, [(2, .int 3), (0, .ref 94), (1, .int v)], [.int ((v >>> ((8 * 3) &&& 31))).toInt8.toInt32, .int ln, .ref 122], (sh, I, L, R))) (M := mr_275) rfl (show mcode 275 20 = some (20, .i2b, 1, 0, 0, 0, _) from rfl) (Or.inr (Or.inr (Or.inr (Or.inr (Or.inr (Or.inl ⟨_, rfl, rfl⟩)))))) ?_
  have hin1 : inR ln 240 = true := inR_of (by omega) (by omega)
  have b3 : vp_nar .byte (((v >>> ((8 * 3) &&& 31))).toInt8.toInt32) = ((v >>> ((8 * 3) &&& 31))).toInt8.toInt32 := nar_b _
  obtain ⟨I2, eI2⟩ : ∃ X, X = up2 I 122 (ln).toNatClampNeg ((v >>> ((8 * 3) &&& 31))).toInt8.toInt32 := ⟨_, rfl⟩
  refine XW.fam (S' := (22, [(2, .int 3), (0, .ref 94), (1, .int v)], [], (sh, I2, L, R))) (M := mr_275) rfl (show mcode 275 21 = some (21, .bastore, 1, 0, 0, 0, _) from rfl) (Or.inr (Or.inr (Or.inr (Or.inl ⟨_, _, by rw [eI2]; exact sta_y b3 c122 hin1, rfl⟩)))) ?_
  have xb0 := i2b_rng (((v >>> ((8 * 3) &&& 31))))
  have hwI2 : wOK (mkT vV []) (wE sh R) (sh, I2, L, R) := by rw [eI2]; exact wOK_u2 (q := 122) (k := (ln).toNatClampNeg) (x := ((v >>> ((8 * 3) &&& 31))).toInt8.toInt32) wE_put hw rfl (by show ((-128) : Int) ≤ _; omega) (by show _ ≤ (127 : Int); omega)
  have hfI2 : fresh (sh, I2, L, R) := by rw [eI2]; exact fresh_I hf c122
  have v4 : I2 94 34 = ln := by rw [eI2, up2_ne (fun e => by cases e.1)]; exact eln
  have v5 : I2 122 (ln).toNatClampNeg = ((v >>> ((8 * 3) &&& 31))).toInt8.toInt32 := by rw [eI2]; exact up2_eq
  refine XW.fam (S' := (23, [(2, .int 3), (0, .ref 94), (1, .int v)], [.ref 94], (sh, I2, L, R))) (M := mr_275) rfl (show mcode 275 22 = some (22, .aload_n 0, 1, 0, 0, 0, _) from rfl) (Or.inl ⟨.ref 94, rfl, rfl⟩) ?_
  refine XW.fam (S' := (24, [(2, .int 3), (0, .ref 94), (1, .int v)], [.ref 94, .ref 94], (sh, I2, L, R))) (M := mr_275) rfl (show mcode 275 23 = some (23, .dup, 1, 0, 0, 0, _) from rfl) (Or.inr (Or.inr (Or.inr (Or.inr (Or.inr (Or.inl ⟨_, rfl, rfl⟩)))))) ?_
  refine XW.fam (S' := (27, [(2, .int 3), (0, .ref 94), (1, .int v)], [.int (I2 94 34), .ref 94], (sh, I2, L, R))) (M := mr_275) rfl (show mcode 275 24 = some (24, .getfield 341, 3, 12, 34, 0, _) from rfl) (Or.inr (Or.inr (Or.inr (Or.inr (Or.inr (Or.inr (Or.inr (Or.inl ⟨_, _, rfl, fl_ldI c94 (by decide) (by decide), rfl⟩)))))))) ?_
  rw [v4]
  refine XW.fam (S' := (28, [(2, .int 3), (0, .ref 94), (1, .int v)], [.int 1, .int ln, .ref 94], (sh, I2, L, R))) (M := mr_275) rfl (show mcode 275 27 = some (27, .iconst 1, 1, 0, 0, 0, _) from rfl) (Or.inl ⟨.int 1, rfl, rfl⟩) ?_
  refine XW.fam (S' := (29, [(2, .int 3), (0, .ref 94), (1, .int v)], [.int (ln + 1), .ref 94], (sh, I2, L, R))) (M := mr_275) rfl (show mcode 275 28 = some (28, .iadd, 1, 0, 0, 0, _) from rfl) (Or.inr (Or.inr (Or.inr (Or.inr (Or.inr (Or.inl ⟨_, rfl, rfl⟩)))))) ?_
  obtain ⟨I6, eI6⟩ : ∃ X, X = up2 I2 94 34 (ln + 1) := ⟨_, rfl⟩
  refine XW.fam (S' := (32, [(2, .int 3), (0, .ref 94), (1, .int v)], [], (sh, I6, L, R))) (M := mr_275) rfl (show mcode 275 29 = some (29, .putfield 341, 3, 12, 34, 0, _) from rfl) (Or.inr (Or.inr (Or.inr (Or.inr (Or.inr (Or.inr (Or.inr (Or.inr (Or.inl ⟨_, _, _, rfl, by rw [eI6]; exact stf_I c94 (by decide) (by decide) (by decide), rfl⟩))))))))) ?_
  have xi1 := inc32 (m := ln) (by omega) (by omega)
  have hwI6 : wOK (mkT vV []) (wE sh R) (sh, I6, L, R) := by rw [eI6]; exact wOK_u2 (q := 94) (k := 34) (x := (ln + 1)) wE_put hwI2 rfl (by show (0 : Int) ≤ _; omega) (by show _ ≤ (240 : Int); omega)
  have hfI6 : fresh (sh, I6, L, R) := by rw [eI6]; exact fresh_I hfI2 c94
  have v8 : I6 122 (ln).toNatClampNeg = ((v >>> ((8 * 3) &&& 31))).toInt8.toInt32 := by rw [eI6, up2_ne (fun e => by cases e.1)]; exact v5
  have v9 : I6 94 34 = (ln + 1) := by rw [eI6]; exact up2_eq
  refine XW.fam (S' := (35, [(2, .int 2), (0, .ref 94), (1, .int v)], [], (sh, I6, L, R))) (M := mr_275) rfl (show mcode 275 32 = some (32, .iinc 2 (-1), 3, 0, 0, 0, _) from rfl) (Or.inr (Or.inr (Or.inr (Or.inr (Or.inr (Or.inr (Or.inr (Or.inr (Or.inr ⟨2, (-1), 3, rfl, rfl, by decide, rfl⟩))))))))) ?_
  refine XW.fam (S' := (2, [(2, .int 2), (0, .ref 94), (1, .int v)], [], (sh, I6, L, R))) (M := mr_275) rfl (show mcode 275 35 = some (35, .goto (-33), 3, 2, 0, 0, _) from rfl) (Or.inr (Or.inl ⟨2, [], rfl, rfl⟩)) ?_
  refine XW.fam (S' := (3, [(2, .int 2), (0, .ref 94), (1, .int v)], [.int 2], (sh, I6, L, R))) (M := mr_275) rfl (show mcode 275 2 = some (2, .iload_n 2, 1, 0, 0, 0, _) from rfl) (Or.inl ⟨.int 2, rfl, rfl⟩) ?_
  refine XW.fam (S' := (6, [(2, .int 2), (0, .ref 94), (1, .int v)], [], (sh, I6, L, R))) (M := mr_275) rfl (show mcode 275 3 = some (3, .ifCond .lt 35, 3, 38, 0, 0, _) from rfl) (Or.inr (Or.inl ⟨6, [], rfl, rfl⟩)) ?_
  refine XW.fam (S' := (7, [(2, .int 2), (0, .ref 94), (1, .int v)], [.ref 94], (sh, I6, L, R))) (M := mr_275) rfl (show mcode 275 6 = some (6, .aload_n 0, 1, 0, 0, 0, _) from rfl) (Or.inl ⟨.ref 94, rfl, rfl⟩) ?_
  refine XW.fam (S' := (10, [(2, .int 2), (0, .ref 94), (1, .int v)], [.ref 122], (sh, I6, L, R))) (M := mr_275) rfl (show mcode 275 7 = some (7, .getfield 96, 3, 12, 33, 0, _) from rfl) (Or.inr (Or.inr (Or.inr (Or.inr (Or.inr (Or.inr (Or.inr (Or.inl ⟨_, _, rfl, fl_ld c94 r94_33 (by decide) (by decide), rfl⟩)))))))) ?_
  refine XW.fam (S' := (11, [(2, .int 2), (0, .ref 94), (1, .int v)], [.ref 94, .ref 122], (sh, I6, L, R))) (M := mr_275) rfl (show mcode 275 10 = some (10, .aload_n 0, 1, 0, 0, 0, _) from rfl) (Or.inl ⟨.ref 94, rfl, rfl⟩) ?_
  refine XW.fam (S' := (14, [(2, .int 2), (0, .ref 94), (1, .int v)], [.int (I6 94 34), .ref 122], (sh, I6, L, R))) (M := mr_275) rfl (show mcode 275 11 = some (11, .getfield 341, 3, 12, 34, 0, _) from rfl) (Or.inr (Or.inr (Or.inr (Or.inr (Or.inr (Or.inr (Or.inr (Or.inl ⟨_, _, rfl, fl_ldI c94 (by decide) (by decide), rfl⟩)))))))) ?_
  rw [v9]
  refine XW.fam (S' := (15, [(2, .int 2), (0, .ref 94), (1, .int v)], [.int v, .int (ln + 1), .ref 122], (sh, I6, L, R))) (M := mr_275) rfl (show mcode 275 14 = some (14, .iload_n 1, 1, 0, 0, 0, _) from rfl) (Or.inl ⟨.int v, rfl, rfl⟩) ?_
  refine XW.fam (S' := (17, [(2, .int 2), (0, .ref 94), (1, .int v)], [.int 8, .int v, .int (ln + 1), .ref 122], (sh, I6, L, R))) (M := mr_275) rfl (show mcode 275 15 = some (15, .bipush 8, 2, 0, 0, 0, _) from rfl) (Or.inl ⟨.int 8, rfl, rfl⟩) ?_
  refine XW.fam (S' := (18, [(2, .int 2), (0, .ref 94), (1, .int v)], [.int 2, .int 8, .int v, .int (ln + 1), .ref 122], (sh, I6, L, R))) (M := mr_275) rfl (show mcode 275 17 = some (17, .iload_n 2, 1, 0, 0, 0, _) from rfl) (Or.inl ⟨.int 2, rfl, rfl⟩) ?_
  refine XW.fam (S' := (19, [(2, .int 2), (0, .ref 94), (1, .int v)], [.int (8 * 2), .int v, .int (ln + 1), .ref 122], (sh, I6, L, R))) (M := mr_275) rfl (show mcode 275 18 = some (18, .imul, 1, 0, 0, 0, _) from rfl) (Or.inr (Or.inr (Or.inr (Or.inr (Or.inr (Or.inl ⟨_, rfl, rfl⟩)))))) ?_
  refine XW.fam (S' := (20, [(2, .int 2), (0, .ref 94), (1, .int v)], [.int (v >>> ((8 * 2) &&& 31)), .int (ln + 1), .ref 122], (sh, I6, L, R))) (M := mr_275) rfl (show mcode 275 19 = some (19, .ishr, 1, 0, 0, 0, _) from rfl) (Or.inr (Or.inr (Or.inr (Or.inr (Or.inr (Or.inl ⟨_, rfl, rfl⟩)))))) ?_
  refine XW.fam (S' := (21, [(2, .int 2), (0, .ref 94), (1, .int v)], [.int ((v >>> ((8 * 2) &&& 31))).toInt8.toInt32, .int (ln + 1), .ref 122], (sh, I6, L, R))) (M := mr_275) rfl (show mcode 275 20 = some (20, .i2b, 1, 0, 0, 0, _) from rfl) (Or.inr (Or.inr (Or.inr (Or.inr (Or.inr (Or.inl ⟨_, rfl, rfl⟩)))))) ?_
  have hin10 : inR (ln + 1) 240 = true := inR_of (by omega) (by omega)
  have b12 : vp_nar .byte (((v >>> ((8 * 2) &&& 31))).toInt8.toInt32) = ((v >>> ((8 * 2) &&& 31))).toInt8.toInt32 := nar_b _
  obtain ⟨I11, eI11⟩ : ∃ X, X = up2 I6 122 ((ln + 1)).toNatClampNeg ((v >>> ((8 * 2) &&& 31))).toInt8.toInt32 := ⟨_, rfl⟩
  refine XW.fam (S' := (22, [(2, .int 2), (0, .ref 94), (1, .int v)], [], (sh, I11, L, R))) (M := mr_275) rfl (show mcode 275 21 = some (21, .bastore, 1, 0, 0, 0, _) from rfl) (Or.inr (Or.inr (Or.inr (Or.inl ⟨_, _, by rw [eI11]; exact sta_y b12 c122 hin10, rfl⟩)))) ?_
  have xb2 := i2b_rng (((v >>> ((8 * 2) &&& 31))))
  have hwI11 : wOK (mkT vV []) (wE sh R) (sh, I11, L, R) := by rw [eI11]; exact wOK_u2 (q := 122) (k := ((ln + 1)).toNatClampNeg) (x := ((v >>> ((8 * 2) &&& 31))).toInt8.toInt32) wE_put hwI6 rfl (by show ((-128) : Int) ≤ _; omega) (by show _ ≤ (127 : Int); omega)
  have hfI11 : fresh (sh, I11, L, R) := by rw [eI11]; exact fresh_I hfI6 c122
  have v14 : I11 94 34 = (ln + 1) := by rw [eI11, up2_ne (fun e => by cases e.1)]; exact v9
  have v15 : I11 122 ((ln + 1)).toNatClampNeg = ((v >>> ((8 * 2) &&& 31))).toInt8.toInt32 := by rw [eI11]; exact up2_eq
  refine XW.fam (S' := (23, [(2, .int 2), (0, .ref 94), (1, .int v)], [.ref 94], (sh, I11, L, R))) (M := mr_275) rfl (show mcode 275 22 = some (22, .aload_n 0, 1, 0, 0, 0, _) from rfl) (Or.inl ⟨.ref 94, rfl, rfl⟩) ?_
  refine XW.fam (S' := (24, [(2, .int 2), (0, .ref 94), (1, .int v)], [.ref 94, .ref 94], (sh, I11, L, R))) (M := mr_275) rfl (show mcode 275 23 = some (23, .dup, 1, 0, 0, 0, _) from rfl) (Or.inr (Or.inr (Or.inr (Or.inr (Or.inr (Or.inl ⟨_, rfl, rfl⟩)))))) ?_
  refine XW.fam (S' := (27, [(2, .int 2), (0, .ref 94), (1, .int v)], [.int (I11 94 34), .ref 94], (sh, I11, L, R))) (M := mr_275) rfl (show mcode 275 24 = some (24, .getfield 341, 3, 12, 34, 0, _) from rfl) (Or.inr (Or.inr (Or.inr (Or.inr (Or.inr (Or.inr (Or.inr (Or.inl ⟨_, _, rfl, fl_ldI c94 (by decide) (by decide), rfl⟩)))))))) ?_
  rw [v14]
  refine XW.fam (S' := (28, [(2, .int 2), (0, .ref 94), (1, .int v)], [.int 1, .int (ln + 1), .ref 94], (sh, I11, L, R))) (M := mr_275) rfl (show mcode 275 27 = some (27, .iconst 1, 1, 0, 0, 0, _) from rfl) (Or.inl ⟨.int 1, rfl, rfl⟩) ?_
  refine XW.fam (S' := (29, [(2, .int 2), (0, .ref 94), (1, .int v)], [.int ((ln + 1) + 1), .ref 94], (sh, I11, L, R))) (M := mr_275) rfl (show mcode 275 28 = some (28, .iadd, 1, 0, 0, 0, _) from rfl) (Or.inr (Or.inr (Or.inr (Or.inr (Or.inr (Or.inl ⟨_, rfl, rfl⟩)))))) ?_
  obtain ⟨I16, eI16⟩ : ∃ X, X = up2 I11 94 34 ((ln + 1) + 1) := ⟨_, rfl⟩
  refine XW.fam (S' := (32, [(2, .int 2), (0, .ref 94), (1, .int v)], [], (sh, I16, L, R))) (M := mr_275) rfl (show mcode 275 29 = some (29, .putfield 341, 3, 12, 34, 0, _) from rfl) (Or.inr (Or.inr (Or.inr (Or.inr (Or.inr (Or.inr (Or.inr (Or.inr (Or.inl ⟨_, _, _, rfl, by rw [eI16]; exact stf_I c94 (by decide) (by decide) (by decide), rfl⟩))))))))) ?_
  have xi3 := inc32 (m := (ln + 1)) (by omega) (by omega)
  have hwI16 : wOK (mkT vV []) (wE sh R) (sh, I16, L, R) := by rw [eI16]; exact wOK_u2 (q := 94) (k := 34) (x := ((ln + 1) + 1)) wE_put hwI11 rfl (by show (0 : Int) ≤ _; omega) (by show _ ≤ (240 : Int); omega)
  have hfI16 : fresh (sh, I16, L, R) := by rw [eI16]; exact fresh_I hfI11 c94
  have v18 : I16 122 ((ln + 1)).toNatClampNeg = ((v >>> ((8 * 2) &&& 31))).toInt8.toInt32 := by rw [eI16, up2_ne (fun e => by cases e.1)]; exact v15
  have v19 : I16 94 34 = ((ln + 1) + 1) := by rw [eI16]; exact up2_eq
  refine XW.fam (S' := (35, [(2, .int 1), (0, .ref 94), (1, .int v)], [], (sh, I16, L, R))) (M := mr_275) rfl (show mcode 275 32 = some (32, .iinc 2 (-1), 3, 0, 0, 0, _) from rfl) (Or.inr (Or.inr (Or.inr (Or.inr (Or.inr (Or.inr (Or.inr (Or.inr (Or.inr ⟨2, (-1), 2, rfl, rfl, by decide, rfl⟩))))))))) ?_
  refine XW.fam (S' := (2, [(2, .int 1), (0, .ref 94), (1, .int v)], [], (sh, I16, L, R))) (M := mr_275) rfl (show mcode 275 35 = some (35, .goto (-33), 3, 2, 0, 0, _) from rfl) (Or.inr (Or.inl ⟨2, [], rfl, rfl⟩)) ?_
  refine XW.fam (S' := (3, [(2, .int 1), (0, .ref 94), (1, .int v)], [.int 1], (sh, I16, L, R))) (M := mr_275) rfl (show mcode 275 2 = some (2, .iload_n 2, 1, 0, 0, 0, _) from rfl) (Or.inl ⟨.int 1, rfl, rfl⟩) ?_
  refine XW.fam (S' := (6, [(2, .int 1), (0, .ref 94), (1, .int v)], [], (sh, I16, L, R))) (M := mr_275) rfl (show mcode 275 3 = some (3, .ifCond .lt 35, 3, 38, 0, 0, _) from rfl) (Or.inr (Or.inl ⟨6, [], rfl, rfl⟩)) ?_
  refine XW.fam (S' := (7, [(2, .int 1), (0, .ref 94), (1, .int v)], [.ref 94], (sh, I16, L, R))) (M := mr_275) rfl (show mcode 275 6 = some (6, .aload_n 0, 1, 0, 0, 0, _) from rfl) (Or.inl ⟨.ref 94, rfl, rfl⟩) ?_
  refine XW.fam (S' := (10, [(2, .int 1), (0, .ref 94), (1, .int v)], [.ref 122], (sh, I16, L, R))) (M := mr_275) rfl (show mcode 275 7 = some (7, .getfield 96, 3, 12, 33, 0, _) from rfl) (Or.inr (Or.inr (Or.inr (Or.inr (Or.inr (Or.inr (Or.inr (Or.inl ⟨_, _, rfl, fl_ld c94 r94_33 (by decide) (by decide), rfl⟩)))))))) ?_
  refine XW.fam (S' := (11, [(2, .int 1), (0, .ref 94), (1, .int v)], [.ref 94, .ref 122], (sh, I16, L, R))) (M := mr_275) rfl (show mcode 275 10 = some (10, .aload_n 0, 1, 0, 0, 0, _) from rfl) (Or.inl ⟨.ref 94, rfl, rfl⟩) ?_
  refine XW.fam (S' := (14, [(2, .int 1), (0, .ref 94), (1, .int v)], [.int (I16 94 34), .ref 122], (sh, I16, L, R))) (M := mr_275) rfl (show mcode 275 11 = some (11, .getfield 341, 3, 12, 34, 0, _) from rfl) (Or.inr (Or.inr (Or.inr (Or.inr (Or.inr (Or.inr (Or.inr (Or.inl ⟨_, _, rfl, fl_ldI c94 (by decide) (by decide), rfl⟩)))))))) ?_
  rw [v19]
  refine XW.fam (S' := (15, [(2, .int 1), (0, .ref 94), (1, .int v)], [.int v, .int ((ln + 1) + 1), .ref 122], (sh, I16, L, R))) (M := mr_275) rfl (show mcode 275 14 = some (14, .iload_n 1, 1, 0, 0, 0, _) from rfl) (Or.inl ⟨.int v, rfl, rfl⟩) ?_
  refine XW.fam (S' := (17, [(2, .int 1), (0, .ref 94), (1, .int v)], [.int 8, .int v, .int ((ln + 1) + 1), .ref 122], (sh, I16, L, R))) (M := mr_275) rfl (show mcode 275 15 = some (15, .bipush 8, 2, 0, 0, 0, _) from rfl) (Or.inl ⟨.int 8, rfl, rfl⟩) ?_
  refine XW.fam (S' := (18, [(2, .int 1), (0, .ref 94), (1, .int v)], [.int 1, .int 8, .int v, .int ((ln + 1) + 1), .ref 122], (sh, I16, L, R))) (M := mr_275) rfl (show mcode 275 17 = some (17, .iload_n 2, 1, 0, 0, 0, _) from rfl) (Or.inl ⟨.int 1, rfl, rfl⟩) ?_
  refine XW.fam (S' := (19, [(2, .int 1), (0, .ref 94), (1, .int v)], [.int (8 * 1), .int v, .int ((ln + 1) + 1), .ref 122], (sh, I16, L, R))) (M := mr_275) rfl (show mcode 275 18 = some (18, .imul, 1, 0, 0, 0, _) from rfl) (Or.inr (Or.inr (Or.inr (Or.inr (Or.inr (Or.inl ⟨_, rfl, rfl⟩)))))) ?_
  refine XW.fam (S' := (20, [(2, .int 1), (0, .ref 94), (1, .int v)], [.int (v >>> ((8 * 1) &&& 31)), .int ((ln + 1) + 1), .ref 122], (sh, I16, L, R))) (M := mr_275) rfl (show mcode 275 19 = some (19, .ishr, 1, 0, 0, 0, _) from rfl) (Or.inr (Or.inr (Or.inr (Or.inr (Or.inr (Or.inl ⟨_, rfl, rfl⟩)))))) ?_
  refine XW.fam (S' := (21, [(2, .int 1), (0, .ref 94), (1, .int v)], [.int ((v >>> ((8 * 1) &&& 31))).toInt8.toInt32, .int ((ln + 1) + 1), .ref 122], (sh, I16, L, R))) (M := mr_275) rfl (show mcode 275 20 = some (20, .i2b, 1, 0, 0, 0, _) from rfl) (Or.inr (Or.inr (Or.inr (Or.inr (Or.inr (Or.inl ⟨_, rfl, rfl⟩)))))) ?_
  have hin20 : inR ((ln + 1) + 1) 240 = true := inR_of (by omega) (by omega)
  have b22 : vp_nar .byte (((v >>> ((8 * 1) &&& 31))).toInt8.toInt32) = ((v >>> ((8 * 1) &&& 31))).toInt8.toInt32 := nar_b _
  obtain ⟨I21, eI21⟩ : ∃ X, X = up2 I16 122 (((ln + 1) + 1)).toNatClampNeg ((v >>> ((8 * 1) &&& 31))).toInt8.toInt32 := ⟨_, rfl⟩
  refine XW.fam (S' := (22, [(2, .int 1), (0, .ref 94), (1, .int v)], [], (sh, I21, L, R))) (M := mr_275) rfl (show mcode 275 21 = some (21, .bastore, 1, 0, 0, 0, _) from rfl) (Or.inr (Or.inr (Or.inr (Or.inl ⟨_, _, by rw [eI21]; exact sta_y b22 c122 hin20, rfl⟩)))) ?_
  have xb4 := i2b_rng (((v >>> ((8 * 1) &&& 31))))
  have hwI21 : wOK (mkT vV []) (wE sh R) (sh, I21, L, R) := by rw [eI21]; exact wOK_u2 (q := 122) (k := (((ln + 1) + 1)).toNatClampNeg) (x := ((v >>> ((8 * 1) &&& 31))).toInt8.toInt32) wE_put hwI16 rfl (by show ((-128) : Int) ≤ _; omega) (by show _ ≤ (127 : Int); omega)
  have hfI21 : fresh (sh, I21, L, R) := by rw [eI21]; exact fresh_I hfI16 c122
  have v24 : I21 94 34 = ((ln + 1) + 1) := by rw [eI21, up2_ne (fun e => by cases e.1)]; exact v19
  have v25 : I21 122 (((ln + 1) + 1)).toNatClampNeg = ((v >>> ((8 * 1) &&& 31))).toInt8.toInt32 := by rw [eI21]; exact up2_eq
  refine XW.fam (S' := (23, [(2, .int 1), (0, .ref 94), (1, .int v)], [.ref 94], (sh, I21, L, R))) (M := mr_275) rfl (show mcode 275 22 = some (22, .aload_n 0, 1, 0, 0, 0, _) from rfl) (Or.inl ⟨.ref 94, rfl, rfl⟩) ?_
  refine XW.fam (S' := (24, [(2, .int 1), (0, .ref 94), (1, .int v)], [.ref 94, .ref 94], (sh, I21, L, R))) (M := mr_275) rfl (show mcode 275 23 = some (23, .dup, 1, 0, 0, 0, _) from rfl) (Or.inr (Or.inr (Or.inr (Or.inr (Or.inr (Or.inl ⟨_, rfl, rfl⟩)))))) ?_
  refine XW.fam (S' := (27, [(2, .int 1), (0, .ref 94), (1, .int v)], [.int (I21 94 34), .ref 94], (sh, I21, L, R))) (M := mr_275) rfl (show mcode 275 24 = some (24, .getfield 341, 3, 12, 34, 0, _) from rfl) (Or.inr (Or.inr (Or.inr (Or.inr (Or.inr (Or.inr (Or.inr (Or.inl ⟨_, _, rfl, fl_ldI c94 (by decide) (by decide), rfl⟩)))))))) ?_
  rw [v24]
  refine XW.fam (S' := (28, [(2, .int 1), (0, .ref 94), (1, .int v)], [.int 1, .int ((ln + 1) + 1), .ref 94], (sh, I21, L, R))) (M := mr_275) rfl (show mcode 275 27 = some (27, .iconst 1, 1, 0, 0, 0, _) from rfl) (Or.inl ⟨.int 1, rfl, rfl⟩) ?_
  refine XW.fam (S' := (29, [(2, .int 1), (0, .ref 94), (1, .int v)], [.int (((ln + 1) + 1) + 1), .ref 94], (sh, I21, L, R))) (M := mr_275) rfl (show mcode 275 28 = some (28, .iadd, 1, 0, 0, 0, _) from rfl) (Or.inr (Or.inr (Or.inr (Or.inr (Or.inr (Or.inl ⟨_, rfl, rfl⟩)))))) ?_
  obtain ⟨I26, eI26⟩ : ∃ X, X = up2 I21 94 34 (((ln + 1) + 1) + 1) := ⟨_, rfl⟩
  refine XW.fam (S' := (32, [(2, .int 1), (0, .ref 94), (1, .int v)], [], (sh, I26, L, R))) (M := mr_275) rfl (show mcode 275 29 = some (29, .putfield 341, 3, 12, 34, 0, _) from rfl) (Or.inr (Or.inr (Or.inr (Or.inr (Or.inr (Or.inr (Or.inr (Or.inr (Or.inl ⟨_, _, _, rfl, by rw [eI26]; exact stf_I c94 (by decide) (by decide) (by decide), rfl⟩))))))))) ?_
  have xi5 := inc32 (m := ((ln + 1) + 1)) (by omega) (by omega)
  have hwI26 : wOK (mkT vV []) (wE sh R) (sh, I26, L, R) := by rw [eI26]; exact wOK_u2 (q := 94) (k := 34) (x := (((ln + 1) + 1) + 1)) wE_put hwI21 rfl (by show (0 : Int) ≤ _; omega) (by show _ ≤ (240 : Int); omega)
  have hfI26 : fresh (sh, I26, L, R) := by rw [eI26]; exact fresh_I hfI21 c94
  have v28 : I26 122 (((ln + 1) + 1)).toNatClampNeg = ((v >>> ((8 * 1) &&& 31))).toInt8.toInt32 := by rw [eI26, up2_ne (fun e => by cases e.1)]; exact v25
  have v29 : I26 94 34 = (((ln + 1) + 1) + 1) := by rw [eI26]; exact up2_eq
  refine XW.fam (S' := (35, [(2, .int 0), (0, .ref 94), (1, .int v)], [], (sh, I26, L, R))) (M := mr_275) rfl (show mcode 275 32 = some (32, .iinc 2 (-1), 3, 0, 0, 0, _) from rfl) (Or.inr (Or.inr (Or.inr (Or.inr (Or.inr (Or.inr (Or.inr (Or.inr (Or.inr ⟨2, (-1), 1, rfl, rfl, by decide, rfl⟩))))))))) ?_
  refine XW.fam (S' := (2, [(2, .int 0), (0, .ref 94), (1, .int v)], [], (sh, I26, L, R))) (M := mr_275) rfl (show mcode 275 35 = some (35, .goto (-33), 3, 2, 0, 0, _) from rfl) (Or.inr (Or.inl ⟨2, [], rfl, rfl⟩)) ?_
  refine XW.fam (S' := (3, [(2, .int 0), (0, .ref 94), (1, .int v)], [.int 0], (sh, I26, L, R))) (M := mr_275) rfl (show mcode 275 2 = some (2, .iload_n 2, 1, 0, 0, 0, _) from rfl) (Or.inl ⟨.int 0, rfl, rfl⟩) ?_
  refine XW.fam (S' := (6, [(2, .int 0), (0, .ref 94), (1, .int v)], [], (sh, I26, L, R))) (M := mr_275) rfl (show mcode 275 3 = some (3, .ifCond .lt 35, 3, 38, 0, 0, _) from rfl) (Or.inr (Or.inl ⟨6, [], rfl, rfl⟩)) ?_
  refine XW.fam (S' := (7, [(2, .int 0), (0, .ref 94), (1, .int v)], [.ref 94], (sh, I26, L, R))) (M := mr_275) rfl (show mcode 275 6 = some (6, .aload_n 0, 1, 0, 0, 0, _) from rfl) (Or.inl ⟨.ref 94, rfl, rfl⟩) ?_
  refine XW.fam (S' := (10, [(2, .int 0), (0, .ref 94), (1, .int v)], [.ref 122], (sh, I26, L, R))) (M := mr_275) rfl (show mcode 275 7 = some (7, .getfield 96, 3, 12, 33, 0, _) from rfl) (Or.inr (Or.inr (Or.inr (Or.inr (Or.inr (Or.inr (Or.inr (Or.inl ⟨_, _, rfl, fl_ld c94 r94_33 (by decide) (by decide), rfl⟩)))))))) ?_
  refine XW.fam (S' := (11, [(2, .int 0), (0, .ref 94), (1, .int v)], [.ref 94, .ref 122], (sh, I26, L, R))) (M := mr_275) rfl (show mcode 275 10 = some (10, .aload_n 0, 1, 0, 0, 0, _) from rfl) (Or.inl ⟨.ref 94, rfl, rfl⟩) ?_
  refine XW.fam (S' := (14, [(2, .int 0), (0, .ref 94), (1, .int v)], [.int (I26 94 34), .ref 122], (sh, I26, L, R))) (M := mr_275) rfl (show mcode 275 11 = some (11, .getfield 341, 3, 12, 34, 0, _) from rfl) (Or.inr (Or.inr (Or.inr (Or.inr (Or.inr (Or.inr (Or.inr (Or.inl ⟨_, _, rfl, fl_ldI c94 (by decide) (by decide), rfl⟩)))))))) ?_
  rw [v29]
  refine XW.fam (S' := (15, [(2, .int 0), (0, .ref 94), (1, .int v)], [.int v, .int (((ln + 1) + 1) + 1), .ref 122], (sh, I26, L, R))) (M := mr_275) rfl (show mcode 275 14 = some (14, .iload_n 1, 1, 0, 0, 0, _) from rfl) (Or.inl ⟨.int v, rfl, rfl⟩) ?_
  refine XW.fam (S' := (17, [(2, .int 0), (0, .ref 94), (1, .int v)], [.int 8, .int v, .int (((ln + 1) + 1) + 1), .ref 122], (sh, I26, L, R))) (M := mr_275) rfl (show mcode 275 15 = some (15, .bipush 8, 2, 0, 0, 0, _) from rfl) (Or.inl ⟨.int 8, rfl, rfl⟩) ?_
  refine XW.fam (S' := (18, [(2, .int 0), (0, .ref 94), (1, .int v)], [.int 0, .int 8, .int v, .int (((ln + 1) + 1) + 1), .ref 122], (sh, I26, L, R))) (M := mr_275) rfl (show mcode 275 17 = some (17, .iload_n 2, 1, 0, 0, 0, _) from rfl) (Or.inl ⟨.int 0, rfl, rfl⟩) ?_
  refine XW.fam (S' := (19, [(2, .int 0), (0, .ref 94), (1, .int v)], [.int (8 * 0), .int v, .int (((ln + 1) + 1) + 1), .ref 122], (sh, I26, L, R))) (M := mr_275) rfl (show mcode 275 18 = some (18, .imul, 1, 0, 0, 0, _) from rfl) (Or.inr (Or.inr (Or.inr (Or.inr (Or.inr (Or.inl ⟨_, rfl, rfl⟩)))))) ?_
  refine XW.fam (S' := (20, [(2, .int 0), (0, .ref 94), (1, .int v)], [.int (v >>> ((8 * 0) &&& 31)), .int (((ln + 1) + 1) + 1), .ref 122], (sh, I26, L, R))) (M := mr_275) rfl (show mcode 275 19 = some (19, .ishr, 1, 0, 0, 0, _) from rfl) (Or.inr (Or.inr (Or.inr (Or.inr (Or.inr (Or.inl ⟨_, rfl, rfl⟩)))))) ?_
  refine XW.fam (S' := (21, [(2, .int 0), (0, .ref 94), (1, .int v)], [.int ((v >>> ((8 * 0) &&& 31))).toInt8.toInt32, .int (((ln + 1) + 1) + 1), .ref 122], (sh, I26, L, R))) (M := mr_275) rfl (show mcode 275 20 = some (20, .i2b, 1, 0, 0, 0, _) from rfl) (Or.inr (Or.inr (Or.inr (Or.inr (Or.inr (Or.inl ⟨_, rfl, rfl⟩)))))) ?_
  have hin30 : inR (((ln + 1) + 1) + 1) 240 = true := inR_of (by omega) (by omega)
  have b32 : vp_nar .byte (((v >>> ((8 * 0) &&& 31))).toInt8.toInt32) = ((v >>> ((8 * 0) &&& 31))).toInt8.toInt32 := nar_b _
  obtain ⟨I31, eI31⟩ : ∃ X, X = up2 I26 122 ((((ln + 1) + 1) + 1)).toNatClampNeg ((v >>> ((8 * 0) &&& 31))).toInt8.toInt32 := ⟨_, rfl⟩
  refine XW.fam (S' := (22, [(2, .int 0), (0, .ref 94), (1, .int v)], [], (sh, I31, L, R))) (M := mr_275) rfl (show mcode 275 21 = some (21, .bastore, 1, 0, 0, 0, _) from rfl) (Or.inr (Or.inr (Or.inr (Or.inl ⟨_, _, by rw [eI31]; exact sta_y b32 c122 hin30, rfl⟩)))) ?_
  have xb6 := i2b_rng (((v >>> ((8 * 0) &&& 31))))
  have hwI31 : wOK (mkT vV []) (wE sh R) (sh, I31, L, R) := by rw [eI31]; exact wOK_u2 (q := 122) (k := ((((ln + 1) + 1) + 1)).toNatClampNeg) (x := ((v >>> ((8 * 0) &&& 31))).toInt8.toInt32) wE_put hwI26 rfl (by show ((-128) : Int) ≤ _; omega) (by show _ ≤ (127 : Int); omega)
  have hfI31 : fresh (sh, I31, L, R) := by rw [eI31]; exact fresh_I hfI26 c122
  have v34 : I31 94 34 = (((ln + 1) + 1) + 1) := by rw [eI31, up2_ne (fun e => by cases e.1)]; exact v29
  have v35 : I31 122 ((((ln + 1) + 1) + 1)).toNatClampNeg = ((v >>> ((8 * 0) &&& 31))).toInt8.toInt32 := by rw [eI31]; exact up2_eq
  refine XW.fam (S' := (23, [(2, .int 0), (0, .ref 94), (1, .int v)], [.ref 94], (sh, I31, L, R))) (M := mr_275) rfl (show mcode 275 22 = some (22, .aload_n 0, 1, 0, 0, 0, _) from rfl) (Or.inl ⟨.ref 94, rfl, rfl⟩) ?_
  refine XW.fam (S' := (24, [(2, .int 0), (0, .ref 94), (1, .int v)], [.ref 94, .ref 94], (sh, I31, L, R))) (M := mr_275) rfl (show mcode 275 23 = some (23, .dup, 1, 0, 0, 0, _) from rfl) (Or.inr (Or.inr (Or.inr (Or.inr (Or.inr (Or.inl ⟨_, rfl, rfl⟩)))))) ?_
  refine XW.fam (S' := (27, [(2, .int 0), (0, .ref 94), (1, .int v)], [.int (I31 94 34), .ref 94], (sh, I31, L, R))) (M := mr_275) rfl (show mcode 275 24 = some (24, .getfield 341, 3, 12, 34, 0, _) from rfl) (Or.inr (Or.inr (Or.inr (Or.inr (Or.inr (Or.inr (Or.inr (Or.inl ⟨_, _, rfl, fl_ldI c94 (by decide) (by decide), rfl⟩)))))))) ?_
  rw [v34]
  refine XW.fam (S' := (28, [(2, .int 0), (0, .ref 94), (1, .int v)], [.int 1, .int (((ln + 1) + 1) + 1), .ref 94], (sh, I31, L, R))) (M := mr_275) rfl (show mcode 275 27 = some (27, .iconst 1, 1, 0, 0, 0, _) from rfl) (Or.inl ⟨.int 1, rfl, rfl⟩) ?_
  refine XW.fam (S' := (29, [(2, .int 0), (0, .ref 94), (1, .int v)], [.int ((((ln + 1) + 1) + 1) + 1), .ref 94], (sh, I31, L, R))) (M := mr_275) rfl (show mcode 275 28 = some (28, .iadd, 1, 0, 0, 0, _) from rfl) (Or.inr (Or.inr (Or.inr (Or.inr (Or.inr (Or.inl ⟨_, rfl, rfl⟩)))))) ?_
  obtain ⟨I36, eI36⟩ : ∃ X, X = up2 I31 94 34 ((((ln + 1) + 1) + 1) + 1) := ⟨_, rfl⟩
  refine XW.fam (S' := (32, [(2, .int 0), (0, .ref 94), (1, .int v)], [], (sh, I36, L, R))) (M := mr_275) rfl (show mcode 275 29 = some (29, .putfield 341, 3, 12, 34, 0, _) from rfl) (Or.inr (Or.inr (Or.inr (Or.inr (Or.inr (Or.inr (Or.inr (Or.inr (Or.inl ⟨_, _, _, rfl, by rw [eI36]; exact stf_I c94 (by decide) (by decide) (by decide), rfl⟩))))))))) ?_
  have xi7 := inc32 (m := (((ln + 1) + 1) + 1)) (by omega) (by omega)
  have hwI36 : wOK (mkT vV []) (wE sh R) (sh, I36, L, R) := by rw [eI36]; exact wOK_u2 (q := 94) (k := 34) (x := ((((ln + 1) + 1) + 1) + 1)) wE_put hwI31 rfl (by show (0 : Int) ≤ _; omega) (by show _ ≤ (240 : Int); omega)
  have hfI36 : fresh (sh, I36, L, R) := by rw [eI36]; exact fresh_I hfI31 c94
  have v38 : I36 122 ((((ln + 1) + 1) + 1)).toNatClampNeg = ((v >>> ((8 * 0) &&& 31))).toInt8.toInt32 := by rw [eI36, up2_ne (fun e => by cases e.1)]; exact v35
  have v39 : I36 94 34 = ((((ln + 1) + 1) + 1) + 1) := by rw [eI36]; exact up2_eq
  refine XW.fam (S' := (35, [(2, .int (-1)), (0, .ref 94), (1, .int v)], [], (sh, I36, L, R))) (M := mr_275) rfl (show mcode 275 32 = some (32, .iinc 2 (-1), 3, 0, 0, 0, _) from rfl) (Or.inr (Or.inr (Or.inr (Or.inr (Or.inr (Or.inr (Or.inr (Or.inr (Or.inr ⟨2, (-1), 0, rfl, rfl, by decide, rfl⟩))))))))) ?_
  refine XW.fam (S' := (2, [(2, .int (-1)), (0, .ref 94), (1, .int v)], [], (sh, I36, L, R))) (M := mr_275) rfl (show mcode 275 35 = some (35, .goto (-33), 3, 2, 0, 0, _) from rfl) (Or.inr (Or.inl ⟨2, [], rfl, rfl⟩)) ?_
  refine XW.fam (S' := (3, [(2, .int (-1)), (0, .ref 94), (1, .int v)], [.int (-1)], (sh, I36, L, R))) (M := mr_275) rfl (show mcode 275 2 = some (2, .iload_n 2, 1, 0, 0, 0, _) from rfl) (Or.inl ⟨.int (-1), rfl, rfl⟩) ?_
  refine XW.fam (S' := (38, [(2, .int (-1)), (0, .ref 94), (1, .int v)], [], (sh, I36, L, R))) (M := mr_275) rfl (show mcode 275 3 = some (3, .ifCond .lt 35, 3, 38, 0, 0, _) from rfl) (Or.inr (Or.inl ⟨38, [], rfl, rfl⟩)) ?_
  refine XW.ret (r := none) ⟨rfl, by decide +kernel⟩ ?_
  have n0 : (ln).toNatClampNeg = ln.toInt.toNat := rfl
  have n1 : (ln + 1).toNatClampNeg = ln.toInt.toNat + 1 := by show (ln + 1).toInt.toNat = _; omega
  have n2 : ((ln + 1) + 1).toNatClampNeg = ln.toInt.toNat + 2 := by show ((ln + 1) + 1).toInt.toNat = _; omega
  have n3 : (((ln + 1) + 1) + 1).toNatClampNeg = ln.toInt.toNat + 3 := by show (((ln + 1) + 1) + 1).toInt.toNat = _; omega
  refine ⟨rfl, hfI36, hwI36, fun q k z => ?_, ?_, funext fun k => ?_⟩
  · show I36 q k = I q k
    rw [eI36, up2_ne (fun e => by rw [e.1, e.2] at z; cases z), eI31, up2_ne (fun e => by rw [e.1] at z; cases z), eI26, up2_ne (fun e => by rw [e.1, e.2] at z; cases z), eI21, up2_ne (fun e => by rw [e.1] at z; cases z), eI16, up2_ne (fun e => by rw [e.1, e.2] at z; cases z), eI11, up2_ne (fun e => by rw [e.1] at z; cases z), eI6, up2_ne (fun e => by rw [e.1, e.2] at z; cases z), eI2, up2_ne (fun e => by rw [e.1] at z; cases z)]
  · show (I36 94 34).toInt = ln.toInt + 4
    rw [v39]
    omega
  · show I36 122 k = fd4 (I 122) ln.toInt.toNat v k
    rw [eI36, up2_ne (fun e => by cases e.1), eI31, up2_if, eI26, up2_ne (fun e => by cases e.1), eI21, up2_if, eI16, up2_ne (fun e => by cases e.1), eI11, up2_if, eI6, up2_ne (fun e => by cases e.1), eI2, up2_if]
    rw [n3, n2, n1, n0]
    rw [e8_3, e8_2, e8_1, e8_0]
    rfl
theorem tc_feedC {d : Nat} {sh : List mE} {I : Nat → Nat → Int32} {L : Nat → Nat → Int64} {R : Nat → Nat → Option Nat} {a b c x4 x5 : Int32} (hw : wOK (mkT vV []) (wE sh R) (sh, I, L, R)) (hf : fresh (sh, I, L, R)) : Tc 88 (d + 1) 0 0 [.ref 0, .int a, .int b, .int c, .int x4, .int x5] (sh, I, L, R) (fun r w' => (240 < (I 41 0).toInt + 20 ∧ r = some (.int (-3)) ∧ w' = (sh, I, L, R)) ∨ ((I 41 0).toInt + 20 ≤ 240 ∧ (∃ y : Int32, r = some (.int y) ∧ y.toInt = (I 41 0).toInt + 20) ∧ fresh w' ∧ wOK (mkT vV []) (wE sh R) w' ∧ (∀ q k, inm mdAp q k = false → w'.2.1 q k = I q k) ∧ (w'.2.1 41 0).toInt = (I 41 0).toInt + 20 ∧ w'.2.1 42 = fd20 (I 42) (I 41 0).toInt.toNat a b c x4 x5)) := by
  have c0 : sh[0]? = some (.inr 0) := hw.1 0 _ rfl
  have c41 : sh[41]? = some (.inr 5) := hw.1 41 _ rfl
  have r0_4 : R 0 4 = some 41 := hw.2.1 0 4 _ rfl
  have zm3 : ((-3) : Int32).toInt = (-3) := rfl
  have z20 : (20 : Int32).toInt = 20 := rfl
  have z240 : (240 : Int32).toInt = 240 := rfl
  have hl0 : 0 ≤ (I 41 0).toInt ∧ (I 41 0).toInt ≤ 240 := hw.2.2.1 41 0
  have xs := sumS (a := I 41 0) (b := 20) (by omega) (by omega)
  refine Tc.of mr_88 rfl (show 6 ≤ mr_88.2.2.2.1 by decide) ?_
  refine XW.fam (S' := (1, [(0, .ref 0), (1, .int a), (2, .int b), (3, .int c), (4, .int x4), (5, .int x5)], [.ref 0], (sh, I, L, R))) (M := mr_88) rfl (show mcode 88 0 = some (0, .aload_n 0, 1, 0, 0, 0, _) from rfl) (Or.inl ⟨.ref 0, rfl, rfl⟩) ?_
  refine XW.fam (S' := (4, [(0, .ref 0), (1, .int a), (2, .int b), (3, .int c), (4, .int x4), (5, .int x5)], [.ref 41], (sh, I, L, R))) (M := mr_88) rfl (show mcode 88 1 = some (1, .getfield 44, 3, 0, 4, 0, _) from rfl) (Or.inr (Or.inr (Or.inr (Or.inr (Or.inr (Or.inr (Or.inr (Or.inl ⟨_, _, rfl, fl_ld c0 r0_4 (by decide) (by decide), rfl⟩)))))))) ?_
  refine XW.fam (S' := (7, [(0, .ref 0), (1, .int a), (2, .int b), (3, .int c), (4, .int x4), (5, .int x5)], [.int (I 41 0)], (sh, I, L, R))) (M := mr_88) rfl (show mcode 88 4 = some (4, .getfield 210, 3, 5, 0, 0, _) from rfl) (Or.inr (Or.inr (Or.inr (Or.inr (Or.inr (Or.inr (Or.inr (Or.inl ⟨_, _, rfl, fl_ldI c41 (by decide) (by decide), rfl⟩)))))))) ?_
  refine XW.fam (S' := (9, [(0, .ref 0), (1, .int a), (2, .int b), (3, .int c), (4, .int x4), (5, .int x5)], [.int 20, .int (I 41 0)], (sh, I, L, R))) (M := mr_88) rfl (show mcode 88 7 = some (7, .bipush 20, 2, 0, 0, 0, _) from rfl) (Or.inl ⟨.int 20, rfl, rfl⟩) ?_
  refine XW.fam (S' := (10, [(0, .ref 0), (1, .int a), (2, .int b), (3, .int c), (4, .int x4), (5, .int x5)], [.int ((I 41 0) + 20)], (sh, I, L, R))) (M := mr_88) rfl (show mcode 88 9 = some (9, .iadd, 1, 0, 0, 0, _) from rfl) (Or.inr (Or.inr (Or.inr (Or.inr (Or.inr (Or.inl ⟨_, rfl, rfl⟩)))))) ?_
  refine XW.fam (S' := (13, [(0, .ref 0), (1, .int a), (2, .int b), (3, .int c), (4, .int x4), (5, .int x5)], [.int 240, .int ((I 41 0) + 20)], (sh, I, L, R))) (M := mr_88) rfl (show mcode 88 10 = some (10, .sipush 240, 3, 0, 0, 0, _) from rfl) (Or.inl ⟨.int 240, rfl, rfl⟩) ?_
  cases k1 : bcmp .le ((I 41 0) + 20) 240 with
  | true =>
    have gk1 : (((I 41 0) + 20)).toInt ≤ 240 := icT (c := .le) (a := (((I 41 0) + 20)).toInt) (b := 240) rfl (by decide) k1
    refine XW.fam (S' := (19, [(0, .ref 0), (1, .int a), (2, .int b), (3, .int c), (4, .int x4), (5, .int x5)], [], (sh, I, L, R))) (M := mr_88) rfl (show mcode 88 13 = some (13, .if_icmp .le 6, 3, 19, 0, 0, _) from rfl) (Or.inr (Or.inl ⟨19, [], by simp [brn, k1], rfl⟩)) ?_
    refine XW.fam (S' := (20, [(0, .ref 0), (1, .int a), (2, .int b), (3, .int c), (4, .int x4), (5, .int x5)], [.ref 0], (sh, I, L, R))) (M := mr_88) rfl (show mcode 88 19 = some (19, .aload_n 0, 1, 0, 0, 0, _) from rfl) (Or.inl ⟨.ref 0, rfl, rfl⟩) ?_
    refine XW.fam (S' := (23, [(0, .ref 0), (1, .int a), (2, .int b), (3, .int c), (4, .int x4), (5, .int x5)], [.ref 41], (sh, I, L, R))) (M := mr_88) rfl (show mcode 88 20 = some (20, .getfield 44, 3, 0, 4, 0, _) from rfl) (Or.inr (Or.inr (Or.inr (Or.inr (Or.inr (Or.inr (Or.inr (Or.inl ⟨_, _, rfl, fl_ld c0 r0_4 (by decide) (by decide), rfl⟩)))))))) ?_
    refine XW.fam (S' := (24, [(0, .ref 0), (1, .int a), (2, .int b), (3, .int c), (4, .int x4), (5, .int x5)], [.int a, .ref 41], (sh, I, L, R))) (M := mr_88) rfl (show mcode 88 23 = some (23, .iload_n 1, 1, 0, 0, 0, _) from rfl) (Or.inl ⟨.int a, rfl, rfl⟩) ?_
    refine XW.call (d' := d) (mc' := 0) (ms' := 0) (av := [.ref 41, .int a]) (rest := []) (M := mr_88) (Ma := mr_89) rfl (show mcode 88 24 = some (24, .invokevirtual 213, 3, 89, 0, 0, _) from rfl) rfl (by decide) (by decide) ⟨rfl, 41, _, rfl, c41⟩ rfl rfl (show 0 ≤ 8 by decide) (tc_app (d := d) hw hf (by omega)) (by omega) (Nat.zero_le _) (Nat.zero_le _) (fun rQ2 wQ2 Q2 => ?_)
    obtain ⟨hrQ2, hfQ2, hwQ2, hkQ2, hnQ2, hBQ2⟩ := Q2
    subst hrQ2
    obtain ⟨shQ2, IQ2, LQ2, RQ2⟩ := wQ2
    obtain rfl : sh = shQ2 := hwQ2.2.2.2.1.symm
    obtain rfl : R = RQ2 := hwQ2.2.2.2.2.1.symm
    have hkQ2 : ∀ q k, inm mdAp q k = false → IQ2 q k = I q k := hkQ2
    have hnQ2 : (IQ2 41 0).toInt = (I 41 0).toInt + 4 := hnQ2
    have hBQ2 : IQ2 42 = fd4 (I 42) (I 41 0).toInt.toNat a := hBQ2
    refine XW.fam (S' := (28, [(0, .ref 0), (1, .int a), (2, .int b), (3, .int c), (4, .int x4), (5, .int x5)], [.ref 0], (sh, IQ2, LQ2, R))) (M := mr_88) rfl (show mcode 88 27 = some (27, .aload_n 0, 1, 0, 0, 0, _) from rfl) (Or.inl ⟨.ref 0, rfl, rfl⟩) ?_
    refine XW.fam (S' := (31, [(0, .ref 0), (1, .int a), (2, .int b), (3, .int c), (4, .int x4), (5, .int x5)], [.ref 41], (sh, IQ2, LQ2, R))) (M := mr_88) rfl (show mcode 88 28 = some (28, .getfield 44, 3, 0, 4, 0, _) from rfl) (Or.inr (Or.inr (Or.inr (Or.inr (Or.inr (Or.inr (Or.inr (Or.inl ⟨_, _, rfl, fl_ld c0 r0_4 (by decide) (by decide), rfl⟩)))))))) ?_
    refine XW.fam (S' := (32, [(0, .ref 0), (1, .int a), (2, .int b), (3, .int c), (4, .int x4), (5, .int x5)], [.int b, .ref 41], (sh, IQ2, LQ2, R))) (M := mr_88) rfl (show mcode 88 31 = some (31, .iload_n 2, 1, 0, 0, 0, _) from rfl) (Or.inl ⟨.int b, rfl, rfl⟩) ?_
    refine XW.call (d' := d) (mc' := 0) (ms' := 0) (av := [.ref 41, .int b]) (rest := []) (M := mr_88) (Ma := mr_89) rfl (show mcode 88 32 = some (32, .invokevirtual 213, 3, 89, 0, 0, _) from rfl) rfl (by decide) (by decide) ⟨rfl, 41, _, rfl, c41⟩ rfl rfl (show 0 ≤ 8 by decide) (tc_app (d := d) hwQ2 hfQ2 (by omega)) (by omega) (Nat.zero_le _) (Nat.zero_le _) (fun rQ3 wQ3 Q3 => ?_)
    obtain ⟨hrQ3, hfQ3, hwQ3, hkQ3, hnQ3, hBQ3⟩ := Q3
    subst hrQ3
    obtain ⟨shQ3, IQ3, LQ3, RQ3⟩ := wQ3
    obtain rfl : sh = shQ3 := hwQ3.2.2.2.1.symm
    obtain rfl : R = RQ3 := hwQ3.2.2.2.2.1.symm
    have hkQ3 : ∀ q k, inm mdAp q k = false → IQ3 q k = IQ2 q k := hkQ3
    have hnQ3 : (IQ3 41 0).toInt = (IQ2 41 0).toInt + 4 := hnQ3
    have hBQ3 : IQ3 42 = fd4 (IQ2 42) (IQ2 41 0).toInt.toNat b := hBQ3
    refine XW.fam (S' := (36, [(0, .ref 0), (1, .int a), (2, .int b), (3, .int c), (4, .int x4), (5, .int x5)], [.ref 0], (sh, IQ3, LQ3, R))) (M := mr_88) rfl (show mcode 88 35 = some (35, .aload_n 0, 1, 0, 0, 0, _) from rfl) (Or.inl ⟨.ref 0, rfl, rfl⟩) ?_
    refine XW.fam (S' := (39, [(0, .ref 0), (1, .int a), (2, .int b), (3, .int c), (4, .int x4), (5, .int x5)], [.ref 41], (sh, IQ3, LQ3, R))) (M := mr_88) rfl (show mcode 88 36 = some (36, .getfield 44, 3, 0, 4, 0, _) from rfl) (Or.inr (Or.inr (Or.inr (Or.inr (Or.inr (Or.inr (Or.inr (Or.inl ⟨_, _, rfl, fl_ld c0 r0_4 (by decide) (by decide), rfl⟩)))))))) ?_
    refine XW.fam (S' := (40, [(0, .ref 0), (1, .int a), (2, .int b), (3, .int c), (4, .int x4), (5, .int x5)], [.int c, .ref 41], (sh, IQ3, LQ3, R))) (M := mr_88) rfl (show mcode 88 39 = some (39, .iload_n 3, 1, 0, 0, 0, _) from rfl) (Or.inl ⟨.int c, rfl, rfl⟩) ?_
    refine XW.call (d' := d) (mc' := 0) (ms' := 0) (av := [.ref 41, .int c]) (rest := []) (M := mr_88) (Ma := mr_89) rfl (show mcode 88 40 = some (40, .invokevirtual 213, 3, 89, 0, 0, _) from rfl) rfl (by decide) (by decide) ⟨rfl, 41, _, rfl, c41⟩ rfl rfl (show 0 ≤ 8 by decide) (tc_app (d := d) hwQ3 hfQ3 (by omega)) (by omega) (Nat.zero_le _) (Nat.zero_le _) (fun rQ4 wQ4 Q4 => ?_)
    obtain ⟨hrQ4, hfQ4, hwQ4, hkQ4, hnQ4, hBQ4⟩ := Q4
    subst hrQ4
    obtain ⟨shQ4, IQ4, LQ4, RQ4⟩ := wQ4
    obtain rfl : sh = shQ4 := hwQ4.2.2.2.1.symm
    obtain rfl : R = RQ4 := hwQ4.2.2.2.2.1.symm
    have hkQ4 : ∀ q k, inm mdAp q k = false → IQ4 q k = IQ3 q k := hkQ4
    have hnQ4 : (IQ4 41 0).toInt = (IQ3 41 0).toInt + 4 := hnQ4
    have hBQ4 : IQ4 42 = fd4 (IQ3 42) (IQ3 41 0).toInt.toNat c := hBQ4
    refine XW.fam (S' := (44, [(0, .ref 0), (1, .int a), (2, .int b), (3, .int c), (4, .int x4), (5, .int x5)], [.ref 0], (sh, IQ4, LQ4, R))) (M := mr_88) rfl (show mcode 88 43 = some (43, .aload_n 0, 1, 0, 0, 0, _) from rfl) (Or.inl ⟨.ref 0, rfl, rfl⟩) ?_
    refine XW.fam (S' := (47, [(0, .ref 0), (1, .int a), (2, .int b), (3, .int c), (4, .int x4), (5, .int x5)], [.ref 41], (sh, IQ4, LQ4, R))) (M := mr_88) rfl (show mcode 88 44 = some (44, .getfield 44, 3, 0, 4, 0, _) from rfl) (Or.inr (Or.inr (Or.inr (Or.inr (Or.inr (Or.inr (Or.inr (Or.inl ⟨_, _, rfl, fl_ld c0 r0_4 (by decide) (by decide), rfl⟩)))))))) ?_
    refine XW.fam (S' := (49, [(0, .ref 0), (1, .int a), (2, .int b), (3, .int c), (4, .int x4), (5, .int x5)], [.int x4, .ref 41], (sh, IQ4, LQ4, R))) (M := mr_88) rfl (show mcode 88 47 = some (47, .iload 4, 2, 0, 0, 0, _) from rfl) (Or.inl ⟨.int x4, rfl, rfl⟩) ?_
    refine XW.call (d' := d) (mc' := 0) (ms' := 0) (av := [.ref 41, .int x4]) (rest := []) (M := mr_88) (Ma := mr_89) rfl (show mcode 88 49 = some (49, .invokevirtual 213, 3, 89, 0, 0, _) from rfl) rfl (by decide) (by decide) ⟨rfl, 41, _, rfl, c41⟩ rfl rfl (show 0 ≤ 8 by decide) (tc_app (d := d) hwQ4 hfQ4 (by omega)) (by omega) (Nat.zero_le _) (Nat.zero_le _) (fun rQ5 wQ5 Q5 => ?_)
    obtain ⟨hrQ5, hfQ5, hwQ5, hkQ5, hnQ5, hBQ5⟩ := Q5
    subst hrQ5
    obtain ⟨shQ5, IQ5, LQ5, RQ5⟩ := wQ5
    obtain rfl : sh = shQ5 := hwQ5.2.2.2.1.symm
    obtain rfl : R = RQ5 := hwQ5.2.2.2.2.1.symm
    have hkQ5 : ∀ q k, inm mdAp q k = false → IQ5 q k = IQ4 q k := hkQ5
    have hnQ5 : (IQ5 41 0).toInt = (IQ4 41 0).toInt + 4 := hnQ5
    have hBQ5 : IQ5 42 = fd4 (IQ4 42) (IQ4 41 0).toInt.toNat x4 := hBQ5
    refine XW.fam (S' := (53, [(0, .ref 0), (1, .int a), (2, .int b), (3, .int c), (4, .int x4), (5, .int x5)], [.ref 0], (sh, IQ5, LQ5, R))) (M := mr_88) rfl (show mcode 88 52 = some (52, .aload_n 0, 1, 0, 0, 0, _) from rfl) (Or.inl ⟨.ref 0, rfl, rfl⟩) ?_
    refine XW.fam (S' := (56, [(0, .ref 0), (1, .int a), (2, .int b), (3, .int c), (4, .int x4), (5, .int x5)], [.ref 41], (sh, IQ5, LQ5, R))) (M := mr_88) rfl (show mcode 88 53 = some (53, .getfield 44, 3, 0, 4, 0, _) from rfl) (Or.inr (Or.inr (Or.inr (Or.inr (Or.inr (Or.inr (Or.inr (Or.inl ⟨_, _, rfl, fl_ld c0 r0_4 (by decide) (by decide), rfl⟩)))))))) ?_
    refine XW.fam (S' := (58, [(0, .ref 0), (1, .int a), (2, .int b), (3, .int c), (4, .int x4), (5, .int x5)], [.int x5, .ref 41], (sh, IQ5, LQ5, R))) (M := mr_88) rfl (show mcode 88 56 = some (56, .iload 5, 2, 0, 0, 0, _) from rfl) (Or.inl ⟨.int x5, rfl, rfl⟩) ?_
    refine XW.call (d' := d) (mc' := 0) (ms' := 0) (av := [.ref 41, .int x5]) (rest := []) (M := mr_88) (Ma := mr_89) rfl (show mcode 88 58 = some (58, .invokevirtual 213, 3, 89, 0, 0, _) from rfl) rfl (by decide) (by decide) ⟨rfl, 41, _, rfl, c41⟩ rfl rfl (show 0 ≤ 8 by decide) (tc_app (d := d) hwQ5 hfQ5 (by omega)) (by omega) (Nat.zero_le _) (Nat.zero_le _) (fun rQ6 wQ6 Q6 => ?_)
    obtain ⟨hrQ6, hfQ6, hwQ6, hkQ6, hnQ6, hBQ6⟩ := Q6
    subst hrQ6
    obtain ⟨shQ6, IQ6, LQ6, RQ6⟩ := wQ6
    obtain rfl : sh = shQ6 := hwQ6.2.2.2.1.symm
    obtain rfl : R = RQ6 := hwQ6.2.2.2.2.1.symm
    have hkQ6 : ∀ q k, inm mdAp q k = false → IQ6 q k = IQ5 q k := hkQ6
    have hnQ6 : (IQ6 41 0).toInt = (IQ5 41 0).toInt + 4 := hnQ6
    have hBQ6 : IQ6 42 = fd4 (IQ5 42) (IQ5 41 0).toInt.toNat x5 := hBQ6
    refine XW.fam (S' := (62, [(0, .ref 0), (1, .int a), (2, .int b), (3, .int c), (4, .int x4), (5, .int x5)], [.ref 0], (sh, IQ6, LQ6, R))) (M := mr_88) rfl (show mcode 88 61 = some (61, .aload_n 0, 1, 0, 0, 0, _) from rfl) (Or.inl ⟨.ref 0, rfl, rfl⟩) ?_
    refine XW.fam (S' := (65, [(0, .ref 0), (1, .int a), (2, .int b), (3, .int c), (4, .int x4), (5, .int x5)], [.ref 41], (sh, IQ6, LQ6, R))) (M := mr_88) rfl (show mcode 88 62 = some (62, .getfield 44, 3, 0, 4, 0, _) from rfl) (Or.inr (Or.inr (Or.inr (Or.inr (Or.inr (Or.inr (Or.inr (Or.inl ⟨_, _, rfl, fl_ld c0 r0_4 (by decide) (by decide), rfl⟩)))))))) ?_
    refine XW.fam (S' := (68, [(0, .ref 0), (1, .int a), (2, .int b), (3, .int c), (4, .int x4), (5, .int x5)], [.int (IQ6 41 0)], (sh, IQ6, LQ6, R))) (M := mr_88) rfl (show mcode 88 65 = some (65, .getfield 210, 3, 5, 0, 0, _) from rfl) (Or.inr (Or.inr (Or.inr (Or.inr (Or.inr (Or.inr (Or.inr (Or.inl ⟨_, _, rfl, fl_ldI c41 (by decide) (by decide), rfl⟩)))))))) ?_
    refine XW.ret (r := some (.int (IQ6 41 0))) ⟨⟨.int, rfl, rfl⟩, by decide +kernel⟩ ?_
    refine Or.inr ⟨by omega, ⟨_, rfl, ?_⟩, hfQ6, hwQ6, fun q k z => (hkQ6 q k z).trans ((hkQ5 q k z).trans ((hkQ4 q k z).trans ((hkQ3 q k z).trans (hkQ2 q k z)))), ?_, ?_⟩
    · omega
    · show (IQ6 41 0).toInt = (I 41 0).toInt + 20
      omega
    · show IQ6 42 = fd20 (I 42) (I 41 0).toInt.toNat a b c x4 x5
      have t1 : (IQ2 41 0).toInt.toNat = (I 41 0).toInt.toNat + 4 := by omega
      have t2 : (IQ3 41 0).toInt.toNat = (I 41 0).toInt.toNat + 8 := by omega
      have t3 : (IQ4 41 0).toInt.toNat = (I 41 0).toInt.toNat + 12 := by omega
      have t4 : (IQ5 41 0).toInt.toNat = (I 41 0).toInt.toNat + 16 := by omega
      rw [hBQ6, t4, hBQ5, t3, hBQ4, t2, hBQ3, t1, hBQ2]
      rfl
  | false =>
    have gk1 : ¬ ((((I 41 0) + 20)).toInt ≤ 240) := icF (c := .le) (a := (((I 41 0) + 20)).toInt) (b := 240) rfl (by decide) k1
    refine XW.fam (S' := (16, [(0, .ref 0), (1, .int a), (2, .int b), (3, .int c), (4, .int x4), (5, .int x5)], [], (sh, I, L, R))) (M := mr_88) rfl (show mcode 88 13 = some (13, .if_icmp .le 6, 3, 19, 0, 0, _) from rfl) (Or.inr (Or.inl ⟨16, [], by simp [brn, k1], rfl⟩)) ?_
    refine XW.fam (S' := (18, [(0, .ref 0), (1, .int a), (2, .int b), (3, .int c), (4, .int x4), (5, .int x5)], [.int (-3)], (sh, I, L, R))) (M := mr_88) rfl (show mcode 88 16 = some (16, .bipush (-3), 2, 0, 0, 0, _) from rfl) (Or.inl ⟨.int (-3), rfl, rfl⟩) ?_
    refine XW.ret (r := some (.int (-3))) ⟨⟨.int, rfl, rfl⟩, by decide +kernel⟩ ?_
    exact Or.inl ⟨by omega, rfl, rfl⟩
theorem tc_feedM {d : Nat} {sh : List mE} {I : Nat → Nat → Int32} {L : Nat → Nat → Int64} {R : Nat → Nat → Option Nat} {a b c x4 x5 : Int32} (hw : wOK (mkT vV []) (wE sh R) (sh, I, L, R)) (hf : fresh (sh, I, L, R)) : Tc 274 (d + 1) 0 0 [.ref 94, .int a, .int b, .int c, .int x4, .int x5] (sh, I, L, R) (fun r w' => (240 < (I 94 34).toInt + 20 ∧ r = some (.int (-3)) ∧ w' = (sh, I, L, R)) ∨ ((I 94 34).toInt + 20 ≤ 240 ∧ (∃ y : Int32, r = some (.int y) ∧ y.toInt = (I 94 34).toInt + 20) ∧ fresh w' ∧ wOK (mkT vV []) (wE sh R) w' ∧ (∀ q k, inm mdFo q k = false → w'.2.1 q k = I q k) ∧ (w'.2.1 94 34).toInt = (I 94 34).toInt + 20 ∧ w'.2.1 122 = fd20 (I 122) (I 94 34).toInt.toNat a b c x4 x5)) := by
  have c94 : sh[94]? = some (.inr 12) := hw.1 94 _ rfl
  have zm3 : ((-3) : Int32).toInt = (-3) := rfl
  have z20 : (20 : Int32).toInt = 20 := rfl
  have z240 : (240 : Int32).toInt = 240 := rfl
  have hl0 : 0 ≤ (I 94 34).toInt ∧ (I 94 34).toInt ≤ 240 := hw.2.2.1 94 34
  have xs := sumS (a := I 94 34) (b := 20) (by omega) (by omega)
  refine Tc.of mr_274 rfl (show 6 ≤ mr_274.2.2.2.1 by decide) ?_
  refine XW.fam (S' := (1, [(0, .ref 94), (1, .int a), (2, .int b), (3, .int c), (4, .int x4), (5, .int x5)], [.ref 94], (sh, I, L, R))) (M := mr_274) rfl (show mcode 274 0 = some (0, .aload_n 0, 1, 0, 0, 0, _) from rfl) (Or.inl ⟨.ref 94, rfl, rfl⟩) ?_
  refine XW.fam (S' := (4, [(0, .ref 94), (1, .int a), (2, .int b), (3, .int c), (4, .int x4), (5, .int x5)], [.int (I 94 34)], (sh, I, L, R))) (M := mr_274) rfl (show mcode 274 1 = some (1, .getfield 341, 3, 12, 34, 0, _) from rfl) (Or.inr (Or.inr (Or.inr (Or.inr (Or.inr (Or.inr (Or.inr (Or.inl ⟨_, _, rfl, fl_ldI c94 (by decide) (by decide), rfl⟩)))))))) ?_
  refine XW.fam (S' := (6, [(0, .ref 94), (1, .int a), (2, .int b), (3, .int c), (4, .int x4), (5, .int x5)], [.int 20, .int (I 94 34)], (sh, I, L, R))) (M := mr_274) rfl (show mcode 274 4 = some (4, .bipush 20, 2, 0, 0, 0, _) from rfl) (Or.inl ⟨.int 20, rfl, rfl⟩) ?_
  refine XW.fam (S' := (7, [(0, .ref 94), (1, .int a), (2, .int b), (3, .int c), (4, .int x4), (5, .int x5)], [.int ((I 94 34) + 20)], (sh, I, L, R))) (M := mr_274) rfl (show mcode 274 6 = some (6, .iadd, 1, 0, 0, 0, _) from rfl) (Or.inr (Or.inr (Or.inr (Or.inr (Or.inr (Or.inl ⟨_, rfl, rfl⟩)))))) ?_
  refine XW.fam (S' := (10, [(0, .ref 94), (1, .int a), (2, .int b), (3, .int c), (4, .int x4), (5, .int x5)], [.int 240, .int ((I 94 34) + 20)], (sh, I, L, R))) (M := mr_274) rfl (show mcode 274 7 = some (7, .sipush 240, 3, 0, 0, 0, _) from rfl) (Or.inl ⟨.int 240, rfl, rfl⟩) ?_
  cases k1 : bcmp .le ((I 94 34) + 20) 240 with
  | true =>
    have gk1 : (((I 94 34) + 20)).toInt ≤ 240 := icT (c := .le) (a := (((I 94 34) + 20)).toInt) (b := 240) rfl (by decide) k1
    refine XW.fam (S' := (16, [(0, .ref 94), (1, .int a), (2, .int b), (3, .int c), (4, .int x4), (5, .int x5)], [], (sh, I, L, R))) (M := mr_274) rfl (show mcode 274 10 = some (10, .if_icmp .le 6, 3, 16, 0, 0, _) from rfl) (Or.inr (Or.inl ⟨16, [], by simp [brn, k1], rfl⟩)) ?_
    refine XW.fam (S' := (17, [(0, .ref 94), (1, .int a), (2, .int b), (3, .int c), (4, .int x4), (5, .int x5)], [.ref 94], (sh, I, L, R))) (M := mr_274) rfl (show mcode 274 16 = some (16, .aload_n 0, 1, 0, 0, 0, _) from rfl) (Or.inl ⟨.ref 94, rfl, rfl⟩) ?_
    refine XW.fam (S' := (18, [(0, .ref 94), (1, .int a), (2, .int b), (3, .int c), (4, .int x4), (5, .int x5)], [.int a, .ref 94], (sh, I, L, R))) (M := mr_274) rfl (show mcode 274 17 = some (17, .iload_n 1, 1, 0, 0, 0, _) from rfl) (Or.inl ⟨.int a, rfl, rfl⟩) ?_
    refine XW.call (d' := d) (mc' := 0) (ms' := 0) (av := [.ref 94, .int a]) (rest := []) (M := mr_274) (Ma := mr_275) rfl (show mcode 274 18 = some (18, .invokevirtual 344, 3, 275, 0, 0, _) from rfl) rfl (by decide) (by decide) ⟨rfl, 94, _, rfl, c94⟩ rfl rfl (show 0 ≤ 8 by decide) (tc_fdo (d := d) hw hf (by omega)) (by omega) (Nat.zero_le _) (Nat.zero_le _) (fun rQ2 wQ2 Q2 => ?_)
    obtain ⟨hrQ2, hfQ2, hwQ2, hkQ2, hnQ2, hBQ2⟩ := Q2
    subst hrQ2
    obtain ⟨shQ2, IQ2, LQ2, RQ2⟩ := wQ2
    obtain rfl : sh = shQ2 := hwQ2.2.2.2.1.symm
    obtain rfl : R = RQ2 := hwQ2.2.2.2.2.1.symm
    have hkQ2 : ∀ q k, inm mdFo q k = false → IQ2 q k = I q k := hkQ2
    have hnQ2 : (IQ2 94 34).toInt = (I 94 34).toInt + 4 := hnQ2
    have hBQ2 : IQ2 122 = fd4 (I 122) (I 94 34).toInt.toNat a := hBQ2
    refine XW.fam (S' := (22, [(0, .ref 94), (1, .int a), (2, .int b), (3, .int c), (4, .int x4), (5, .int x5)], [.ref 94], (sh, IQ2, LQ2, R))) (M := mr_274) rfl (show mcode 274 21 = some (21, .aload_n 0, 1, 0, 0, 0, _) from rfl) (Or.inl ⟨.ref 94, rfl, rfl⟩) ?_
    refine XW.fam (S' := (23, [(0, .ref 94), (1, .int a), (2, .int b), (3, .int c), (4, .int x4), (5, .int x5)], [.int b, .ref 94], (sh, IQ2, LQ2, R))) (M := mr_274) rfl (show mcode 274 22 = some (22, .iload_n 2, 1, 0, 0, 0, _) from rfl) (Or.inl ⟨.int b, rfl, rfl⟩) ?_
    refine XW.call (d' := d) (mc' := 0) (ms' := 0) (av := [.ref 94, .int b]) (rest := []) (M := mr_274) (Ma := mr_275) rfl (show mcode 274 23 = some (23, .invokevirtual 344, 3, 275, 0, 0, _) from rfl) rfl (by decide) (by decide) ⟨rfl, 94, _, rfl, c94⟩ rfl rfl (show 0 ≤ 8 by decide) (tc_fdo (d := d) hwQ2 hfQ2 (by omega)) (by omega) (Nat.zero_le _) (Nat.zero_le _) (fun rQ3 wQ3 Q3 => ?_)
    obtain ⟨hrQ3, hfQ3, hwQ3, hkQ3, hnQ3, hBQ3⟩ := Q3
    subst hrQ3
    obtain ⟨shQ3, IQ3, LQ3, RQ3⟩ := wQ3
    obtain rfl : sh = shQ3 := hwQ3.2.2.2.1.symm
    obtain rfl : R = RQ3 := hwQ3.2.2.2.2.1.symm
    have hkQ3 : ∀ q k, inm mdFo q k = false → IQ3 q k = IQ2 q k := hkQ3
    have hnQ3 : (IQ3 94 34).toInt = (IQ2 94 34).toInt + 4 := hnQ3
    have hBQ3 : IQ3 122 = fd4 (IQ2 122) (IQ2 94 34).toInt.toNat b := hBQ3
    refine XW.fam (S' := (27, [(0, .ref 94), (1, .int a), (2, .int b), (3, .int c), (4, .int x4), (5, .int x5)], [.ref 94], (sh, IQ3, LQ3, R))) (M := mr_274) rfl (show mcode 274 26 = some (26, .aload_n 0, 1, 0, 0, 0, _) from rfl) (Or.inl ⟨.ref 94, rfl, rfl⟩) ?_
    refine XW.fam (S' := (28, [(0, .ref 94), (1, .int a), (2, .int b), (3, .int c), (4, .int x4), (5, .int x5)], [.int c, .ref 94], (sh, IQ3, LQ3, R))) (M := mr_274) rfl (show mcode 274 27 = some (27, .iload_n 3, 1, 0, 0, 0, _) from rfl) (Or.inl ⟨.int c, rfl, rfl⟩) ?_
    refine XW.call (d' := d) (mc' := 0) (ms' := 0) (av := [.ref 94, .int c]) (rest := []) (M := mr_274) (Ma := mr_275) rfl (show mcode 274 28 = some (28, .invokevirtual 344, 3, 275, 0, 0, _) from rfl) rfl (by decide) (by decide) ⟨rfl, 94, _, rfl, c94⟩ rfl rfl (show 0 ≤ 8 by decide) (tc_fdo (d := d) hwQ3 hfQ3 (by omega)) (by omega) (Nat.zero_le _) (Nat.zero_le _) (fun rQ4 wQ4 Q4 => ?_)
    obtain ⟨hrQ4, hfQ4, hwQ4, hkQ4, hnQ4, hBQ4⟩ := Q4
    subst hrQ4
    obtain ⟨shQ4, IQ4, LQ4, RQ4⟩ := wQ4
    obtain rfl : sh = shQ4 := hwQ4.2.2.2.1.symm
    obtain rfl : R = RQ4 := hwQ4.2.2.2.2.1.symm
    have hkQ4 : ∀ q k, inm mdFo q k = false → IQ4 q k = IQ3 q k := hkQ4
    have hnQ4 : (IQ4 94 34).toInt = (IQ3 94 34).toInt + 4 := hnQ4
    have hBQ4 : IQ4 122 = fd4 (IQ3 122) (IQ3 94 34).toInt.toNat c := hBQ4
    refine XW.fam (S' := (32, [(0, .ref 94), (1, .int a), (2, .int b), (3, .int c), (4, .int x4), (5, .int x5)], [.ref 94], (sh, IQ4, LQ4, R))) (M := mr_274) rfl (show mcode 274 31 = some (31, .aload_n 0, 1, 0, 0, 0, _) from rfl) (Or.inl ⟨.ref 94, rfl, rfl⟩) ?_
    refine XW.fam (S' := (34, [(0, .ref 94), (1, .int a), (2, .int b), (3, .int c), (4, .int x4), (5, .int x5)], [.int x4, .ref 94], (sh, IQ4, LQ4, R))) (M := mr_274) rfl (show mcode 274 32 = some (32, .iload 4, 2, 0, 0, 0, _) from rfl) (Or.inl ⟨.int x4, rfl, rfl⟩) ?_
    refine XW.call (d' := d) (mc' := 0) (ms' := 0) (av := [.ref 94, .int x4]) (rest := []) (M := mr_274) (Ma := mr_275) rfl (show mcode 274 34 = some (34, .invokevirtual 344, 3, 275, 0, 0, _) from rfl) rfl (by decide) (by decide) ⟨rfl, 94, _, rfl, c94⟩ rfl rfl (show 0 ≤ 8 by decide) (tc_fdo (d := d) hwQ4 hfQ4 (by omega)) (by omega) (Nat.zero_le _) (Nat.zero_le _) (fun rQ5 wQ5 Q5 => ?_)
    obtain ⟨hrQ5, hfQ5, hwQ5, hkQ5, hnQ5, hBQ5⟩ := Q5
    subst hrQ5
    obtain ⟨shQ5, IQ5, LQ5, RQ5⟩ := wQ5
    obtain rfl : sh = shQ5 := hwQ5.2.2.2.1.symm
    obtain rfl : R = RQ5 := hwQ5.2.2.2.2.1.symm
    have hkQ5 : ∀ q k, inm mdFo q k = false → IQ5 q k = IQ4 q k := hkQ5
    have hnQ5 : (IQ5 94 34).toInt = (IQ4 94 34).toInt + 4 := hnQ5
    have hBQ5 : IQ5 122 = fd4 (IQ4 122) (IQ4 94 34).toInt.toNat x4 := hBQ5
    refine XW.fam (S' := (38, [(0, .ref 94), (1, .int a), (2, .int b), (3, .int c), (4, .int x4), (5, .int x5)], [.ref 94], (sh, IQ5, LQ5, R))) (M := mr_274) rfl (show mcode 274 37 = some (37, .aload_n 0, 1, 0, 0, 0, _) from rfl) (Or.inl ⟨.ref 94, rfl, rfl⟩) ?_
    refine XW.fam (S' := (40, [(0, .ref 94), (1, .int a), (2, .int b), (3, .int c), (4, .int x4), (5, .int x5)], [.int x5, .ref 94], (sh, IQ5, LQ5, R))) (M := mr_274) rfl (show mcode 274 38 = some (38, .iload 5, 2, 0, 0, 0, _) from rfl) (Or.inl ⟨.int x5, rfl, rfl⟩) ?_
    refine XW.call (d' := d) (mc' := 0) (ms' := 0) (av := [.ref 94, .int x5]) (rest := []) (M := mr_274) (Ma := mr_275) rfl (show mcode 274 40 = some (40, .invokevirtual 344, 3, 275, 0, 0, _) from rfl) rfl (by decide) (by decide) ⟨rfl, 94, _, rfl, c94⟩ rfl rfl (show 0 ≤ 8 by decide) (tc_fdo (d := d) hwQ5 hfQ5 (by omega)) (by omega) (Nat.zero_le _) (Nat.zero_le _) (fun rQ6 wQ6 Q6 => ?_)
    obtain ⟨hrQ6, hfQ6, hwQ6, hkQ6, hnQ6, hBQ6⟩ := Q6
    subst hrQ6
    obtain ⟨shQ6, IQ6, LQ6, RQ6⟩ := wQ6
    obtain rfl : sh = shQ6 := hwQ6.2.2.2.1.symm
    obtain rfl : R = RQ6 := hwQ6.2.2.2.2.1.symm
    have hkQ6 : ∀ q k, inm mdFo q k = false → IQ6 q k = IQ5 q k := hkQ6
    have hnQ6 : (IQ6 94 34).toInt = (IQ5 94 34).toInt + 4 := hnQ6
    have hBQ6 : IQ6 122 = fd4 (IQ5 122) (IQ5 94 34).toInt.toNat x5 := hBQ6
    refine XW.fam (S' := (44, [(0, .ref 94), (1, .int a), (2, .int b), (3, .int c), (4, .int x4), (5, .int x5)], [.ref 94], (sh, IQ6, LQ6, R))) (M := mr_274) rfl (show mcode 274 43 = some (43, .aload_n 0, 1, 0, 0, 0, _) from rfl) (Or.inl ⟨.ref 94, rfl, rfl⟩) ?_
    refine XW.fam (S' := (47, [(0, .ref 94), (1, .int a), (2, .int b), (3, .int c), (4, .int x4), (5, .int x5)], [.int (IQ6 94 34)], (sh, IQ6, LQ6, R))) (M := mr_274) rfl (show mcode 274 44 = some (44, .getfield 341, 3, 12, 34, 0, _) from rfl) (Or.inr (Or.inr (Or.inr (Or.inr (Or.inr (Or.inr (Or.inr (Or.inl ⟨_, _, rfl, fl_ldI c94 (by decide) (by decide), rfl⟩)))))))) ?_
    refine XW.ret (r := some (.int (IQ6 94 34))) ⟨⟨.int, rfl, rfl⟩, by decide +kernel⟩ ?_
    refine Or.inr ⟨by omega, ⟨_, rfl, ?_⟩, hfQ6, hwQ6, fun q k z => (hkQ6 q k z).trans ((hkQ5 q k z).trans ((hkQ4 q k z).trans ((hkQ3 q k z).trans (hkQ2 q k z)))), ?_, ?_⟩
    · omega
    · show (IQ6 94 34).toInt = (I 94 34).toInt + 20
      omega
    · show IQ6 122 = fd20 (I 122) (I 94 34).toInt.toNat a b c x4 x5
      have t1 : (IQ2 94 34).toInt.toNat = (I 94 34).toInt.toNat + 4 := by omega
      have t2 : (IQ3 94 34).toInt.toNat = (I 94 34).toInt.toNat + 8 := by omega
      have t3 : (IQ4 94 34).toInt.toNat = (I 94 34).toInt.toNat + 12 := by omega
      have t4 : (IQ5 94 34).toInt.toNat = (I 94 34).toInt.toNat + 16 := by omega
      rw [hBQ6, t4, hBQ5, t3, hBQ4, t2, hBQ3, t1, hBQ2]
      rfl
  | false =>
    have gk1 : ¬ ((((I 94 34) + 20)).toInt ≤ 240) := icF (c := .le) (a := (((I 94 34) + 20)).toInt) (b := 240) rfl (by decide) k1
    refine XW.fam (S' := (13, [(0, .ref 94), (1, .int a), (2, .int b), (3, .int c), (4, .int x4), (5, .int x5)], [], (sh, I, L, R))) (M := mr_274) rfl (show mcode 274 10 = some (10, .if_icmp .le 6, 3, 16, 0, 0, _) from rfl) (Or.inr (Or.inl ⟨13, [], by simp [brn, k1], rfl⟩)) ?_
    refine XW.fam (S' := (15, [(0, .ref 94), (1, .int a), (2, .int b), (3, .int c), (4, .int x4), (5, .int x5)], [.int (-3)], (sh, I, L, R))) (M := mr_274) rfl (show mcode 274 13 = some (13, .bipush (-3), 2, 0, 0, 0, _) from rfl) (Or.inl ⟨.int (-3), rfl, rfl⟩) ?_
    refine XW.ret (r := some (.int (-3))) ⟨⟨.int, rfl, rfl⟩, by decide +kernel⟩ ?_
    exact Or.inl ⟨by omega, rfl, rfl⟩
theorem tc_endC {d : Nat} {sh : List mE} {I : Nat → Nat → Int32} {L : Nat → Nat → Int64} {R : Nat → Nat → Option Nat} {v : Int32} (hw : wOK (mkT vV []) (wE sh R) (sh, I, L, R)) (hf : fresh (sh, I, L, R)) : Tc 90 (d + 1) 0 0 [.ref 0, .int v] (sh, I, L, R) (fun r w' => (∃ y : Int32, r = some (.int y) ∧ y.toInt = if 0 ≤ v.toInt ∧ v.toInt ≤ (I 41 0).toInt then v.toInt else -1) ∧ fresh w' ∧ wOK (mkT vV []) (wE sh R) w' ∧ (∀ q k, inm [(41, some 0)] q k = false → w'.2.1 q k = I q k) ∧ (w'.2.1 41 0).toInt = if 0 ≤ v.toInt ∧ v.toInt ≤ (I 41 0).toInt then v.toInt else (I 41 0).toInt) := by
  have c0 : sh[0]? = some (.inr 0) := hw.1 0 _ rfl
  have c41 : sh[41]? = some (.inr 5) := hw.1 41 _ rfl
  have r0_4 : R 0 4 = some 41 := hw.2.1 0 4 _ rfl
  have zm1 : ((-1) : Int32).toInt = (-1) := rfl
  have z0 : (0 : Int32).toInt = 0 := rfl
  have hl0 : 0 ≤ (I 41 0).toInt ∧ (I 41 0).toInt ≤ 240 := hw.2.2.1 41 0
  obtain ⟨ln, eln⟩ : ∃ z : Int32, I 41 0 = z := ⟨_, rfl⟩
  rw [eln] at hl0 ⊢
  refine Tc.of mr_90 rfl (show 2 ≤ mr_90.2.2.2.1 by decide) ?_
  refine XW.fam (S' := (1, [(0, .ref 0), (1, .int v)], [.int v], (sh, I, L, R))) (M := mr_90) rfl (show mcode 90 0 = some (0, .iload_n 1, 1, 0, 0, 0, _) from rfl) (Or.inl ⟨.int v, rfl, rfl⟩) ?_
  cases k1 : bcmp .lt v 0 with
  | true =>
    have gk1 : (v).toInt < 0 := icT (c := .lt) (a := (v).toInt) (b := 0) rfl (by decide) k1
    refine XW.fam (S' := (15, [(0, .ref 0), (1, .int v)], [], (sh, I, L, R))) (M := mr_90) rfl (show mcode 90 1 = some (1, .ifCond .lt 14, 3, 15, 0, 0, _) from rfl) (Or.inr (Or.inl ⟨15, [], by simp [brn, k1], rfl⟩)) ?_
    refine XW.fam (S' := (16, [(0, .ref 0), (1, .int v)], [.int (-1)], (sh, I, L, R))) (M := mr_90) rfl (show mcode 90 15 = some (15, .iconst (-1), 1, 0, 0, 0, _) from rfl) (Or.inl ⟨.int (-1), rfl, rfl⟩) ?_
    refine XW.ret (r := some (.int (-1))) ⟨⟨.int, rfl, rfl⟩, by decide +kernel⟩ ?_
    have hn : ¬ (0 ≤ v.toInt ∧ v.toInt ≤ ln.toInt) := by omega
    exact ⟨⟨_, rfl, (if_neg hn).symm⟩, hf, hw, fun _ _ _ => rfl, (congrArg Int32.toInt eln).trans (if_neg hn).symm⟩
  | false =>
    have gk1 : ¬ ((v).toInt < 0) := icF (c := .lt) (a := (v).toInt) (b := 0) rfl (by decide) k1
    refine XW.fam (S' := (4, [(0, .ref 0), (1, .int v)], [], (sh, I, L, R))) (M := mr_90) rfl (show mcode 90 1 = some (1, .ifCond .lt 14, 3, 15, 0, 0, _) from rfl) (Or.inr (Or.inl ⟨4, [], by simp [brn, k1], rfl⟩)) ?_
    refine XW.fam (S' := (5, [(0, .ref 0), (1, .int v)], [.int v], (sh, I, L, R))) (M := mr_90) rfl (show mcode 90 4 = some (4, .iload_n 1, 1, 0, 0, 0, _) from rfl) (Or.inl ⟨.int v, rfl, rfl⟩) ?_
    refine XW.fam (S' := (6, [(0, .ref 0), (1, .int v)], [.ref 0, .int v], (sh, I, L, R))) (M := mr_90) rfl (show mcode 90 5 = some (5, .aload_n 0, 1, 0, 0, 0, _) from rfl) (Or.inl ⟨.ref 0, rfl, rfl⟩) ?_
    refine XW.fam (S' := (9, [(0, .ref 0), (1, .int v)], [.ref 41, .int v], (sh, I, L, R))) (M := mr_90) rfl (show mcode 90 6 = some (6, .getfield 44, 3, 0, 4, 0, _) from rfl) (Or.inr (Or.inr (Or.inr (Or.inr (Or.inr (Or.inr (Or.inr (Or.inl ⟨_, _, rfl, fl_ld c0 r0_4 (by decide) (by decide), rfl⟩)))))))) ?_
    refine XW.fam (S' := (12, [(0, .ref 0), (1, .int v)], [.int (I 41 0), .int v], (sh, I, L, R))) (M := mr_90) rfl (show mcode 90 9 = some (9, .getfield 210, 3, 5, 0, 0, _) from rfl) (Or.inr (Or.inr (Or.inr (Or.inr (Or.inr (Or.inr (Or.inr (Or.inl ⟨_, _, rfl, fl_ldI c41 (by decide) (by decide), rfl⟩)))))))) ?_
    rw [eln]
    cases k2 : bcmp .le v ln with
    | true =>
      have gk2 : (v).toInt ≤ (ln).toInt := icT (c := .le) (a := (v).toInt) (b := (ln).toInt) rfl rfl k2
      refine XW.fam (S' := (17, [(0, .ref 0), (1, .int v)], [], (sh, I, L, R))) (M := mr_90) rfl (show mcode 90 12 = some (12, .if_icmp .le 5, 3, 17, 0, 0, _) from rfl) (Or.inr (Or.inl ⟨17, [], by simp [brn, k2], rfl⟩)) ?_
      refine XW.fam (S' := (18, [(0, .ref 0), (1, .int v)], [.ref 0], (sh, I, L, R))) (M := mr_90) rfl (show mcode 90 17 = some (17, .aload_n 0, 1, 0, 0, 0, _) from rfl) (Or.inl ⟨.ref 0, rfl, rfl⟩) ?_
      refine XW.fam (S' := (21, [(0, .ref 0), (1, .int v)], [.ref 41], (sh, I, L, R))) (M := mr_90) rfl (show mcode 90 18 = some (18, .getfield 44, 3, 0, 4, 0, _) from rfl) (Or.inr (Or.inr (Or.inr (Or.inr (Or.inr (Or.inr (Or.inr (Or.inl ⟨_, _, rfl, fl_ld c0 r0_4 (by decide) (by decide), rfl⟩)))))))) ?_
      refine XW.fam (S' := (22, [(0, .ref 0), (1, .int v)], [.int v, .ref 41], (sh, I, L, R))) (M := mr_90) rfl (show mcode 90 21 = some (21, .iload_n 1, 1, 0, 0, 0, _) from rfl) (Or.inl ⟨.int v, rfl, rfl⟩) ?_
      obtain ⟨I3, eI3⟩ : ∃ X, X = up2 I 41 0 v := ⟨_, rfl⟩
      refine XW.fam (S' := (25, [(0, .ref 0), (1, .int v)], [], (sh, I3, L, R))) (M := mr_90) rfl (show mcode 90 22 = some (22, .putfield 210, 3, 5, 0, 0, _) from rfl) (Or.inr (Or.inr (Or.inr (Or.inr (Or.inr (Or.inr (Or.inr (Or.inr (Or.inl ⟨_, _, _, rfl, by rw [eI3]; exact stf_I c41 (by decide) (by decide) (by decide), rfl⟩))))))))) ?_
      have hwI3 : wOK (mkT vV []) (wE sh R) (sh, I3, L, R) := by rw [eI3]; exact wOK_u2 (q := 41) (k := 0) (x := v) wE_put hw rfl (by show (0 : Int) ≤ _; omega) (by show _ ≤ (240 : Int); omega)
      have hfI3 : fresh (sh, I3, L, R) := by rw [eI3]; exact fresh_I hf c41
      have v5 : I3 41 0 = v := by rw [eI3]; exact up2_eq
      refine XW.fam (S' := (26, [(0, .ref 0), (1, .int v)], [.int v], (sh, I3, L, R))) (M := mr_90) rfl (show mcode 90 25 = some (25, .iload_n 1, 1, 0, 0, 0, _) from rfl) (Or.inl ⟨.int v, rfl, rfl⟩) ?_
      refine XW.ret (r := some (.int v)) ⟨⟨.int, rfl, rfl⟩, by decide +kernel⟩ ?_
      refine ⟨⟨_, rfl, (if_pos (by omega)).symm⟩, hfI3, hwI3, fun q k z => ?_, ?_⟩
      · show I3 q k = I q k
        rw [eI3, up2_ne (fun e => by rw [e.1, e.2] at z; cases z)]
      · show (I3 41 0).toInt = _
        rw [eI3, up2_eq]
        exact (if_pos (by omega)).symm
    | false =>
      have gk2 : ¬ ((v).toInt ≤ (ln).toInt) := icF (c := .le) (a := (v).toInt) (b := (ln).toInt) rfl rfl k2
      refine XW.fam (S' := (15, [(0, .ref 0), (1, .int v)], [], (sh, I, L, R))) (M := mr_90) rfl (show mcode 90 12 = some (12, .if_icmp .le 5, 3, 17, 0, 0, _) from rfl) (Or.inr (Or.inl ⟨15, [], by simp [brn, k2], rfl⟩)) ?_
      refine XW.fam (S' := (16, [(0, .ref 0), (1, .int v)], [.int (-1)], (sh, I, L, R))) (M := mr_90) rfl (show mcode 90 15 = some (15, .iconst (-1), 1, 0, 0, 0, _) from rfl) (Or.inl ⟨.int (-1), rfl, rfl⟩) ?_
      refine XW.ret (r := some (.int (-1))) ⟨⟨.int, rfl, rfl⟩, by decide +kernel⟩ ?_
      have hn : ¬ (0 ≤ v.toInt ∧ v.toInt ≤ ln.toInt) := by omega
      exact ⟨⟨_, rfl, (if_neg hn).symm⟩, hf, hw, fun _ _ _ => rfl, (congrArg Int32.toInt eln).trans (if_neg hn).symm⟩
theorem tc_endM {d : Nat} {sh : List mE} {I : Nat → Nat → Int32} {L : Nat → Nat → Int64} {R : Nat → Nat → Option Nat} {v : Int32} (hw : wOK (mkT vV []) (wE sh R) (sh, I, L, R)) (hf : fresh (sh, I, L, R)) : Tc 276 (d + 1) 0 0 [.ref 94, .int v] (sh, I, L, R) (fun r w' => (∃ y : Int32, r = some (.int y) ∧ y.toInt = if 0 ≤ v.toInt ∧ v.toInt ≤ (I 94 34).toInt then v.toInt else -1) ∧ fresh w' ∧ wOK (mkT vV []) (wE sh R) w' ∧ (∀ q k, inm [(94, some 34)] q k = false → w'.2.1 q k = I q k) ∧ (w'.2.1 94 34).toInt = if 0 ≤ v.toInt ∧ v.toInt ≤ (I 94 34).toInt then v.toInt else (I 94 34).toInt) := by
  have c94 : sh[94]? = some (.inr 12) := hw.1 94 _ rfl
  have zm1 : ((-1) : Int32).toInt = (-1) := rfl
  have z0 : (0 : Int32).toInt = 0 := rfl
  have hl0 : 0 ≤ (I 94 34).toInt ∧ (I 94 34).toInt ≤ 240 := hw.2.2.1 94 34
  obtain ⟨ln, eln⟩ : ∃ z : Int32, I 94 34 = z := ⟨_, rfl⟩
  rw [eln] at hl0 ⊢
  refine Tc.of mr_276 rfl (show 2 ≤ mr_276.2.2.2.1 by decide) ?_
  refine XW.fam (S' := (1, [(0, .ref 94), (1, .int v)], [.int v], (sh, I, L, R))) (M := mr_276) rfl (show mcode 276 0 = some (0, .iload_n 1, 1, 0, 0, 0, _) from rfl) (Or.inl ⟨.int v, rfl, rfl⟩) ?_
  refine XW.fam (S' := (2, [(0, .ref 94), (1, .int v)], [.int 0, .int v], (sh, I, L, R))) (M := mr_276) rfl (show mcode 276 1 = some (1, .iconst 0, 1, 0, 0, 0, _) from rfl) (Or.inl ⟨.int 0, rfl, rfl⟩) ?_
  refine XW.fam (S' := (3, [(0, .ref 94), (1, .int v)], [.ref 94, .int 0, .int v], (sh, I, L, R))) (M := mr_276) rfl (show mcode 276 2 = some (2, .aload_n 0, 1, 0, 0, 0, _) from rfl) (Or.inl ⟨.ref 94, rfl, rfl⟩) ?_
  refine XW.fam (S' := (6, [(0, .ref 94), (1, .int v)], [.int (I 94 34), .int 0, .int v], (sh, I, L, R))) (M := mr_276) rfl (show mcode 276 3 = some (3, .getfield 341, 3, 12, 34, 0, _) from rfl) (Or.inr (Or.inr (Or.inr (Or.inr (Or.inr (Or.inr (Or.inr (Or.inl ⟨_, _, rfl, fl_ldI c94 (by decide) (by decide), rfl⟩)))))))) ?_
  rw [eln]
  refine XW.call (d' := d) (mc' := 0) (ms' := 0) (av := [.int v, .int 0, .int ln]) (rest := []) (M := mr_276) (Ma := mr_236) rfl (show mcode 276 6 = some (6, .invokestatic 254, 3, 236, 0, 0, _) from rfl) rfl (by decide) (by decide) rfl rfl rfl (show 0 ≤ 8 by decide) (tc_inM) (by omega) (Nat.zero_le _) (Nat.zero_le _) (fun rQ1 wQ1 Q1 => ?_)
  obtain ⟨hQ1, rfl⟩ := Q1
  rcases hQ1 with ⟨rfl, gQ1⟩ | ⟨rfl, gQ1⟩
  · skip
    refine XW.fam (S' := (12, [(0, .ref 94), (1, .int v)], [], (sh, I, L, R))) (M := mr_276) rfl (show mcode 276 9 = some (9, .ifCond .ne 5, 3, 14, 0, 0, _) from rfl) (Or.inr (Or.inl ⟨12, [], rfl, rfl⟩)) ?_
    refine XW.fam (S' := (13, [(0, .ref 94), (1, .int v)], [.int (-1)], (sh, I, L, R))) (M := mr_276) rfl (show mcode 276 12 = some (12, .iconst (-1), 1, 0, 0, 0, _) from rfl) (Or.inl ⟨.int (-1), rfl, rfl⟩) ?_
    refine XW.ret (r := some (.int (-1))) ⟨⟨.int, rfl, rfl⟩, by decide +kernel⟩ ?_
    have hn : ¬ (0 ≤ v.toInt ∧ v.toInt ≤ ln.toInt) := by omega
    exact ⟨⟨_, rfl, (if_neg hn).symm⟩, hf, hw, fun _ _ _ => rfl, (congrArg Int32.toInt eln).trans (if_neg hn).symm⟩
  · skip
    refine XW.fam (S' := (14, [(0, .ref 94), (1, .int v)], [], (sh, I, L, R))) (M := mr_276) rfl (show mcode 276 9 = some (9, .ifCond .ne 5, 3, 14, 0, 0, _) from rfl) (Or.inr (Or.inl ⟨14, [], rfl, rfl⟩)) ?_
    refine XW.fam (S' := (15, [(0, .ref 94), (1, .int v)], [.ref 94], (sh, I, L, R))) (M := mr_276) rfl (show mcode 276 14 = some (14, .aload_n 0, 1, 0, 0, 0, _) from rfl) (Or.inl ⟨.ref 94, rfl, rfl⟩) ?_
    refine XW.fam (S' := (16, [(0, .ref 94), (1, .int v)], [.int v, .ref 94], (sh, I, L, R))) (M := mr_276) rfl (show mcode 276 15 = some (15, .iload_n 1, 1, 0, 0, 0, _) from rfl) (Or.inl ⟨.int v, rfl, rfl⟩) ?_
    obtain ⟨I2, eI2⟩ : ∃ X, X = up2 I 94 34 v := ⟨_, rfl⟩
    refine XW.fam (S' := (19, [(0, .ref 94), (1, .int v)], [], (sh, I2, L, R))) (M := mr_276) rfl (show mcode 276 16 = some (16, .putfield 341, 3, 12, 34, 0, _) from rfl) (Or.inr (Or.inr (Or.inr (Or.inr (Or.inr (Or.inr (Or.inr (Or.inr (Or.inl ⟨_, _, _, rfl, by rw [eI2]; exact stf_I c94 (by decide) (by decide) (by decide), rfl⟩))))))))) ?_
    have hwI2 : wOK (mkT vV []) (wE sh R) (sh, I2, L, R) := by rw [eI2]; exact wOK_u2 (q := 94) (k := 34) (x := v) wE_put hw rfl (by show (0 : Int) ≤ _; omega) (by show _ ≤ (240 : Int); omega)
    have hfI2 : fresh (sh, I2, L, R) := by rw [eI2]; exact fresh_I hf c94
    have v4 : I2 94 34 = v := by rw [eI2]; exact up2_eq
    refine XW.fam (S' := (20, [(0, .ref 94), (1, .int v)], [.int v], (sh, I2, L, R))) (M := mr_276) rfl (show mcode 276 19 = some (19, .iload_n 1, 1, 0, 0, 0, _) from rfl) (Or.inl ⟨.int v, rfl, rfl⟩) ?_
    refine XW.ret (r := some (.int v)) ⟨⟨.int, rfl, rfl⟩, by decide +kernel⟩ ?_
    refine ⟨⟨_, rfl, (if_pos (by omega)).symm⟩, hfI2, hwI2, fun q k z => ?_, ?_⟩
    · show I2 q k = I q k
      rw [eI2, up2_ne (fun e => by rw [e.1, e.2] at z; cases z)]
    · show (I2 94 34).toInt = _
      rw [eI2, up2_eq]
      exact (if_pos (by omega)).symm
