/-! ===== the grammar of the model (wip/genmgram.py) ===== -/
theorem rgp {I : Nat → Nat → Int32} {q k : Nat} {x : Int32} (h : ∀ q k, (rg (mkT vV []) q k).1 ≤ (I q k).toInt ∧ (I q k).toInt ≤ (rg (mkT vV []) q k).2) (h1 : (rg (mkT vV []) q k).1 ≤ x.toInt) (h2 : x.toInt ≤ (rg (mkT vV []) q k).2) : ∀ q' k', (rg (mkT vV []) q' k').1 ≤ (up2 I q k x q' k').toInt ∧ (up2 I q k x q' k').toInt ≤ (rg (mkT vV []) q' k').2 := by
  intro q' k'
  by_cases c : q' = q ∧ k' = k
  · obtain ⟨rfl, rfl⟩ := c
    rw [up2_eq]
    exact ⟨h1, h2⟩
  · rw [up2_ne c]
    exact h q' k'
theorem wOK_g {sh : List mE} {I I' : Nat → Nat → Int32} {L : Nat → Nat → Int64} {R : Nat → Nat → Option Nat} (hw : wOK (mkT vV []) (wE sh R) (sh, I, L, R)) (hr : ∀ q k, (rg (mkT vV []) q k).1 ≤ (I' q k).toInt ∧ (I' q k).toInt ≤ (rg (mkT vV []) q k).2) (h1 : e1 135 60 I') (h2 : e2 I') (h3 : e3 I') : wOK (mkT vV []) (wE sh R) (sh, I', L, R) := ⟨hw.1, hw.2.1, hr, rfl, rfl, hw.2.2.2.2.2.1, h1, h2, h3⟩
theorem e1_same {I I' : Nat → Nat → Int32} (h60 : I' 94 60 = I 94 60) (h135 : ∀ k, I' 135 k = I 135 k) (h : e1 135 60 I) : e1 135 60 I' := by
  intro s hs
  rw [h60] at hs
  rw [h135]
  exact h s hs
def mdL : aM := [(94, some 53), (94, some 200), (131, none), (132, none)]
theorem dl_rng {x : Int} : -1 ≤ dl x ∧ dl x ≤ 1 := by
  unfold dl
  split
  · omega
  · split <;> omega
theorem tc_layT {d : Nat} {sh : List mE} {I : Nat → Nat → Int32} {L : Nat → Nat → Int64} {R : Nat → Nat → Option Nat} {wt v : Int32} (hw : wOK (mkT vV []) (wE sh R) (sh, I, L, R)) (hf : fresh (sh, I, L, R)) (hR : (I 94 35).toInt ≤ (I 94 52).toInt) (hl : (I 94 53).toInt ≤ 240) (hwt : 0 ≤ wt.toInt ∧ wt.toInt ≤ 62) (hfl : (I 94 201).toInt = 1) (hned : ned wt.toInt ≤ (I 94 200).toInt) (hh : -1000 ≤ (I 94 200).toInt ∧ (I 94 200).toInt ≤ 1000) (hv9 : wt.toInt = 2 → 0 ≤ v.toInt ∧ v.toInt ≤ 9) : Tc 287 d 0 0 [.ref 94, .int wt, .int v] (sh, I, L, R) (fun r w' => r = none ∧ fresh w' ∧ wOK (mkT vV []) (wE sh R) w' ∧ (∀ q k, inm mdL q k = false → w'.2.1 q k = I q k) ∧ (w'.2.1 94 53).toInt = (I 94 53).toInt + 1 ∧ (w'.2.1 94 200).toInt = (I 94 200).toInt + dl wt.toInt) := by
  have c94 : sh[94]? = some (.inr 12) := hw.1 94 _ rfl
  have c131 : sh[131]? = some (.inl (.int, 5670)) := hw.1 131 _ rfl
  have c132 : sh[132]? = some (.inl (.int, 5670)) := hw.1 132 _ rfl
  have r94_44 : R 94 44 = some 131 := hw.2.1 94 44 _ rfl
  have r94_45 : R 94 45 = some 132 := hw.2.1 94 45 _ rfl
  have z1 : (1 : Int32).toInt = 1 := rfl
  have z270 : (270 : Int32).toInt = 270 := rfl
  have hro : 0 ≤ (I 94 52).toInt ∧ (I 94 52).toInt ≤ 19 := hw.2.2.1 94 52
  have hla : 0 ≤ (I 94 53).toInt ∧ (I 94 53).toInt ≤ 241 := hw.2.2.1 94 53
  have h35 : 0 ≤ (I 94 35).toInt ∧ (I 94 35).toInt ≤ 20 := hw.2.2.1 94 35
  obtain ⟨ro, ero⟩ : ∃ z : Int32, I 94 52 = z := ⟨_, rfl⟩
  obtain ⟨la, ela⟩ : ∃ z : Int32, I 94 53 = z := ⟨_, rfl⟩
  rw [ero] at hro hR
  rw [ela] at hla hl ⊢
  have xi := inc32 (m := la) (by omega) (by omega)
  have zz270 : (270 : Int32).toInt = 270 := rfl
  have xm : (270 * ro).toInt = 270 * ro.toInt := mul_i (a := 270) (b := ro) (by show lo32 ≤ 270 * ro.toInt; unfold lo32; omega) (by show 270 * ro.toInt ≤ hi32; unfold hi32; omega)
  have xs := sumS (a := 270 * ro) (b := la) (by omega) (by omega)
  have dr := dl_rng (x := wt.toInt)
  obtain ⟨nh, hnh⟩ : ∃ z : Int32, z.toInt = (I 94 200).toInt + dl wt.toInt := ⟨Int32.ofInt ((I 94 200).toInt + dl wt.toInt), Int32.toInt_ofInt_of_le (by omega) (by omega)⟩
  refine Tc.gh (q := 94) (g := 200) (x := nh) c94 (by decide +kernel) ?_
  obtain ⟨Ig, eIg⟩ : ∃ X, X = up2 I 94 200 nh := ⟨_, rfl⟩
  rw [← eIg]
  have gro : Ig 94 52 = ro := by rw [eIg, up2_ne (by decide)]; exact ero
  have gla : Ig 94 53 = la := by rw [eIg, up2_ne (by decide)]; exact ela
  refine Tc.of mr_287 rfl (show 3 ≤ mr_287.2.2.2.1 by decide) ?_
  refine XW.fam (S' := (1, [(0, .ref 94), (1, .int wt), (2, .int v)], [.ref 94], (sh, Ig, L, R))) (M := mr_287) rfl (show mcode 287 0 = some (0, .aload_n 0, 1, 0, 0, 0, _) from rfl) (Or.inl ⟨.ref 94, rfl, rfl⟩) ?_
  refine XW.fam (S' := (4, [(0, .ref 94), (1, .int wt), (2, .int v)], [.ref 131], (sh, Ig, L, R))) (M := mr_287) rfl (show mcode 287 1 = some (1, .getfield 124, 3, 12, 44, 0, _) from rfl) (Or.inr (Or.inr (Or.inr (Or.inr (Or.inr (Or.inr (Or.inr (Or.inl ⟨_, _, rfl, fl_ld c94 r94_44 (by decide) (by decide), rfl⟩)))))))) ?_
  refine XW.fam (S' := (7, [(0, .ref 94), (1, .int wt), (2, .int v)], [.int 270, .ref 131], (sh, Ig, L, R))) (M := mr_287) rfl (show mcode 287 4 = some (4, .sipush 270, 3, 0, 0, 0, _) from rfl) (Or.inl ⟨.int 270, rfl, rfl⟩) ?_
  refine XW.fam (S' := (8, [(0, .ref 94), (1, .int wt), (2, .int v)], [.ref 94, .int 270, .ref 131], (sh, Ig, L, R))) (M := mr_287) rfl (show mcode 287 7 = some (7, .aload_n 0, 1, 0, 0, 0, _) from rfl) (Or.inl ⟨.ref 94, rfl, rfl⟩) ?_
  refine XW.fam (S' := (11, [(0, .ref 94), (1, .int wt), (2, .int v)], [.int (Ig 94 52), .int 270, .ref 131], (sh, Ig, L, R))) (M := mr_287) rfl (show mcode 287 8 = some (8, .getfield 373, 3, 12, 52, 0, _) from rfl) (Or.inr (Or.inr (Or.inr (Or.inr (Or.inr (Or.inr (Or.inr (Or.inl ⟨_, _, rfl, fl_ldI c94 (by decide) (by decide), rfl⟩)))))))) ?_
  rw [gro]
  refine XW.fam (S' := (12, [(0, .ref 94), (1, .int wt), (2, .int v)], [.int (270 * ro), .ref 131], (sh, Ig, L, R))) (M := mr_287) rfl (show mcode 287 11 = some (11, .imul, 1, 0, 0, 0, _) from rfl) (Or.inr (Or.inr (Or.inr (Or.inr (Or.inr (Or.inl ⟨_, rfl, rfl⟩)))))) ?_
  refine XW.fam (S' := (13, [(0, .ref 94), (1, .int wt), (2, .int v)], [.ref 94, .int (270 * ro), .ref 131], (sh, Ig, L, R))) (M := mr_287) rfl (show mcode 287 12 = some (12, .aload_n 0, 1, 0, 0, 0, _) from rfl) (Or.inl ⟨.ref 94, rfl, rfl⟩) ?_
  refine XW.fam (S' := (16, [(0, .ref 94), (1, .int wt), (2, .int v)], [.int (Ig 94 53), .int (270 * ro), .ref 131], (sh, Ig, L, R))) (M := mr_287) rfl (show mcode 287 13 = some (13, .getfield 376, 3, 12, 53, 0, _) from rfl) (Or.inr (Or.inr (Or.inr (Or.inr (Or.inr (Or.inr (Or.inr (Or.inl ⟨_, _, rfl, fl_ldI c94 (by decide) (by decide), rfl⟩)))))))) ?_
  rw [gla]
  refine XW.fam (S' := (17, [(0, .ref 94), (1, .int wt), (2, .int v)], [.int ((270 * ro) + la), .ref 131], (sh, Ig, L, R))) (M := mr_287) rfl (show mcode 287 16 = some (16, .iadd, 1, 0, 0, 0, _) from rfl) (Or.inr (Or.inr (Or.inr (Or.inr (Or.inr (Or.inl ⟨_, rfl, rfl⟩)))))) ?_
  refine XW.fam (S' := (18, [(0, .ref 94), (1, .int wt), (2, .int v)], [.int wt, .int ((270 * ro) + la), .ref 131], (sh, Ig, L, R))) (M := mr_287) rfl (show mcode 287 17 = some (17, .iload_n 1, 1, 0, 0, 0, _) from rfl) (Or.inl ⟨.int wt, rfl, rfl⟩) ?_
  have hin1 : inR ((270 * ro) + la) 5670 = true := inR_of (by omega) (by omega)
  obtain ⟨I2, eI2⟩ : ∃ X, X = up2 Ig 131 (((270 * ro) + la)).toNatClampNeg wt := ⟨_, rfl⟩
  refine XW.fam (S' := (19, [(0, .ref 94), (1, .int wt), (2, .int v)], [], (sh, I2, L, R))) (M := mr_287) rfl (show mcode 287 18 = some (18, .iastore, 1, 0, 0, 0, _) from rfl) (Or.inr (Or.inr (Or.inr (Or.inl ⟨_, _, by rw [eI2]; exact sta_i c131 hin1, rfl⟩)))) ?_
  have v3 : I2 94 52 = ro := by rw [eI2, up2_ne (fun e => by cases e.1)]; exact gro
  have v4 : I2 94 53 = la := by rw [eI2, up2_ne (fun e => by cases e.1)]; exact gla
  refine XW.fam (S' := (20, [(0, .ref 94), (1, .int wt), (2, .int v)], [.ref 94], (sh, I2, L, R))) (M := mr_287) rfl (show mcode 287 19 = some (19, .aload_n 0, 1, 0, 0, 0, _) from rfl) (Or.inl ⟨.ref 94, rfl, rfl⟩) ?_
  refine XW.fam (S' := (23, [(0, .ref 94), (1, .int wt), (2, .int v)], [.ref 132], (sh, I2, L, R))) (M := mr_287) rfl (show mcode 287 20 = some (20, .getfield 127, 3, 12, 45, 0, _) from rfl) (Or.inr (Or.inr (Or.inr (Or.inr (Or.inr (Or.inr (Or.inr (Or.inl ⟨_, _, rfl, fl_ld c94 r94_45 (by decide) (by decide), rfl⟩)))))))) ?_
  refine XW.fam (S' := (26, [(0, .ref 94), (1, .int wt), (2, .int v)], [.int 270, .ref 132], (sh, I2, L, R))) (M := mr_287) rfl (show mcode 287 23 = some (23, .sipush 270, 3, 0, 0, 0, _) from rfl) (Or.inl ⟨.int 270, rfl, rfl⟩) ?_
  refine XW.fam (S' := (27, [(0, .ref 94), (1, .int wt), (2, .int v)], [.ref 94, .int 270, .ref 132], (sh, I2, L, R))) (M := mr_287) rfl (show mcode 287 26 = some (26, .aload_n 0, 1, 0, 0, 0, _) from rfl) (Or.inl ⟨.ref 94, rfl, rfl⟩) ?_
  refine XW.fam (S' := (30, [(0, .ref 94), (1, .int wt), (2, .int v)], [.int (I2 94 52), .int 270, .ref 132], (sh, I2, L, R))) (M := mr_287) rfl (show mcode 287 27 = some (27, .getfield 373, 3, 12, 52, 0, _) from rfl) (Or.inr (Or.inr (Or.inr (Or.inr (Or.inr (Or.inr (Or.inr (Or.inl ⟨_, _, rfl, fl_ldI c94 (by decide) (by decide), rfl⟩)))))))) ?_
  rw [v3]
  refine XW.fam (S' := (31, [(0, .ref 94), (1, .int wt), (2, .int v)], [.int (270 * ro), .ref 132], (sh, I2, L, R))) (M := mr_287) rfl (show mcode 287 30 = some (30, .imul, 1, 0, 0, 0, _) from rfl) (Or.inr (Or.inr (Or.inr (Or.inr (Or.inr (Or.inl ⟨_, rfl, rfl⟩)))))) ?_
  refine XW.fam (S' := (32, [(0, .ref 94), (1, .int wt), (2, .int v)], [.ref 94, .int (270 * ro), .ref 132], (sh, I2, L, R))) (M := mr_287) rfl (show mcode 287 31 = some (31, .aload_n 0, 1, 0, 0, 0, _) from rfl) (Or.inl ⟨.ref 94, rfl, rfl⟩) ?_
  refine XW.fam (S' := (35, [(0, .ref 94), (1, .int wt), (2, .int v)], [.int (I2 94 53), .int (270 * ro), .ref 132], (sh, I2, L, R))) (M := mr_287) rfl (show mcode 287 32 = some (32, .getfield 376, 3, 12, 53, 0, _) from rfl) (Or.inr (Or.inr (Or.inr (Or.inr (Or.inr (Or.inr (Or.inr (Or.inl ⟨_, _, rfl, fl_ldI c94 (by decide) (by decide), rfl⟩)))))))) ?_
  rw [v4]
  refine XW.fam (S' := (36, [(0, .ref 94), (1, .int wt), (2, .int v)], [.int ((270 * ro) + la), .ref 132], (sh, I2, L, R))) (M := mr_287) rfl (show mcode 287 35 = some (35, .iadd, 1, 0, 0, 0, _) from rfl) (Or.inr (Or.inr (Or.inr (Or.inr (Or.inr (Or.inl ⟨_, rfl, rfl⟩)))))) ?_
  refine XW.fam (S' := (37, [(0, .ref 94), (1, .int wt), (2, .int v)], [.int v, .int ((270 * ro) + la), .ref 132], (sh, I2, L, R))) (M := mr_287) rfl (show mcode 287 36 = some (36, .iload_n 2, 1, 0, 0, 0, _) from rfl) (Or.inl ⟨.int v, rfl, rfl⟩) ?_
  have hin5 : inR ((270 * ro) + la) 5670 = true := inR_of (by omega) (by omega)
  obtain ⟨I6, eI6⟩ : ∃ X, X = up2 I2 132 (((270 * ro) + la)).toNatClampNeg v := ⟨_, rfl⟩
  refine XW.fam (S' := (38, [(0, .ref 94), (1, .int wt), (2, .int v)], [], (sh, I6, L, R))) (M := mr_287) rfl (show mcode 287 37 = some (37, .iastore, 1, 0, 0, 0, _) from rfl) (Or.inr (Or.inr (Or.inr (Or.inl ⟨_, _, by rw [eI6]; exact sta_i c132 hin5, rfl⟩)))) ?_
  have v7 : I6 94 52 = ro := by rw [eI6, up2_ne (fun e => by cases e.1)]; exact v3
  have v8 : I6 94 53 = la := by rw [eI6, up2_ne (fun e => by cases e.1)]; exact v4
  refine XW.fam (S' := (39, [(0, .ref 94), (1, .int wt), (2, .int v)], [.ref 94], (sh, I6, L, R))) (M := mr_287) rfl (show mcode 287 38 = some (38, .aload_n 0, 1, 0, 0, 0, _) from rfl) (Or.inl ⟨.ref 94, rfl, rfl⟩) ?_
  refine XW.fam (S' := (40, [(0, .ref 94), (1, .int wt), (2, .int v)], [.ref 94, .ref 94], (sh, I6, L, R))) (M := mr_287) rfl (show mcode 287 39 = some (39, .dup, 1, 0, 0, 0, _) from rfl) (Or.inr (Or.inr (Or.inr (Or.inr (Or.inr (Or.inl ⟨_, rfl, rfl⟩)))))) ?_
  refine XW.fam (S' := (43, [(0, .ref 94), (1, .int wt), (2, .int v)], [.int (I6 94 53), .ref 94], (sh, I6, L, R))) (M := mr_287) rfl (show mcode 287 40 = some (40, .getfield 376, 3, 12, 53, 0, _) from rfl) (Or.inr (Or.inr (Or.inr (Or.inr (Or.inr (Or.inr (Or.inr (Or.inl ⟨_, _, rfl, fl_ldI c94 (by decide) (by decide), rfl⟩)))))))) ?_
  rw [v8]
  refine XW.fam (S' := (44, [(0, .ref 94), (1, .int wt), (2, .int v)], [.int 1, .int la, .ref 94], (sh, I6, L, R))) (M := mr_287) rfl (show mcode 287 43 = some (43, .iconst 1, 1, 0, 0, 0, _) from rfl) (Or.inl ⟨.int 1, rfl, rfl⟩) ?_
  refine XW.fam (S' := (45, [(0, .ref 94), (1, .int wt), (2, .int v)], [.int (la + 1), .ref 94], (sh, I6, L, R))) (M := mr_287) rfl (show mcode 287 44 = some (44, .iadd, 1, 0, 0, 0, _) from rfl) (Or.inr (Or.inr (Or.inr (Or.inr (Or.inr (Or.inl ⟨_, rfl, rfl⟩)))))) ?_
  obtain ⟨I9, eI9⟩ : ∃ X, X = up2 I6 94 53 (la + 1) := ⟨_, rfl⟩
  refine XW.fam (S' := (48, [(0, .ref 94), (1, .int wt), (2, .int v)], [], (sh, I9, L, R))) (M := mr_287) rfl (show mcode 287 45 = some (45, .putfield 376, 3, 12, 53, 0, _) from rfl) (Or.inr (Or.inr (Or.inr (Or.inr (Or.inr (Or.inr (Or.inr (Or.inr (Or.inl ⟨_, _, _, rfl, by rw [eI9]; exact stf_I c94 (by decide) (by decide) (by decide), rfl⟩))))))))) ?_
  have v10 : I9 94 52 = ro := by rw [eI9, up2_ne (by decide)]; exact v7
  refine XW.ret (r := none) ⟨rfl, by decide +kernel⟩ ?_
  have pn : ((270 * ro + la)).toNatClampNeg = 270 * nv I 94 52 + nv I 94 53 := by show ((270 * ro + la)).toInt.toNat = _; unfold nv; rw [ero, ela]; omega
  have oth : ∀ q k, ¬ q = 94 → ¬ q = 131 → ¬ q = 132 → I9 q k = I q k := by
    intro q k a1 a2 a3
    rw [eI9, up2_ne (fun e => a1 e.1), eI6, up2_ne (fun e => a3 e.1), eI2, up2_ne (fun e => a2 e.1), eIg, up2_ne (fun e => a1 e.1)]
  have o94 : ∀ k, ¬ k = 53 → ¬ k = 200 → I9 94 k = I 94 k := by
    intro k a1 a2
    rw [eI9, up2_ne (fun e => a1 e.2), eI6, up2_ne (fun e => by cases e.1), eI2, up2_ne (fun e => by cases e.1), eIg, up2_ne (fun e => a2 e.2)]
  have v53 : I9 94 53 = la + 1 := by rw [eI9]; exact up2_eq
  have v200 : I9 94 200 = nh := by rw [eI9, up2_ne (by decide), eI6, up2_ne (fun e => by cases e.1), eI2, up2_ne (fun e => by cases e.1), eIg]; exact up2_eq
  have r131 : ∀ k, ¬ k = 270 * nv I 94 52 + nv I 94 53 → I9 131 k = I 131 k ∧ I9 132 k = I 132 k := by
    intro k a1
    refine ⟨?_, ?_⟩
    · rw [eI9, up2_ne (fun e => by cases e.1), eI6, up2_ne (fun e => by cases e.1), eI2, up2_ne (fun e => a1 (by rw [e.2, pn])), eIg, up2_ne (fun e => by cases e.1)]
    · rw [eI9, up2_ne (fun e => by cases e.1), eI6, up2_ne (fun e => a1 (by rw [e.2, pn])), eI2, up2_ne (fun e => by cases e.1), eIg, up2_ne (fun e => by cases e.1)]
  have nR : nv I 94 35 ≤ nv I 94 52 := by unfold nv; rw [ero]; omega
  have he := hw.2.2.2.2.2.2
  have hr : ∀ q k, (rg (mkT vV []) q k).1 ≤ (I9 q k).toInt ∧ (I9 q k).toInt ≤ (rg (mkT vV []) q k).2 := by
    rw [eI9]
    refine rgp ?_ (by show (0 : Int) ≤ _; omega) (by show _ ≤ (241 : Int); omega)
    rw [eI6]
    have vb := i32b v
    unfold lo32 hi32 at vb
    refine rgp ?_ (by show (-2147483648 : Int) ≤ _; omega) (by show _ ≤ (2147483647 : Int); omega)
    rw [eI2]
    refine rgp ?_ (by show (0 : Int) ≤ _; omega) (by show _ ≤ (62 : Int); omega)
    rw [eIg]
    have nb := i32b nh
    unfold lo32 hi32 at nb
    exact rgp hw.2.2.1 (by show (-2147483648 : Int) ≤ _; omega) (by show _ ≤ (2147483647 : Int); omega)
  have h3 : e3 I9 := e3_far (by unfold nv; rw [o94 35 (by decide) (by decide)]; exact Nat.le_refl _) (fun k hk => o94 k (by omega) (by omega)) (fun k hk => r131 k (by omega)) he.2.2
  have h1 : e1 135 60 I9 := e1_same (o94 60 (by decide) (by decide)) (fun k => oth 135 k (by decide) (by decide) (by decide)) he.1
  have a131 : I9 131 (270 * nv I 94 52 + nv I 94 53) = wt := by rw [← pn, eI9, up2_ne (fun e => by cases e.1), eI6, up2_ne (fun e => by cases e.1), eI2]; exact up2_eq
  have a132 : I9 132 (270 * nv I 94 52 + nv I 94 53) = v := by rw [← pn, eI9, up2_ne (fun e => by cases e.1), eI6]; exact up2_eq
  have h2 : e2 I9 := e2_lay (what := wt) (v := v) (funext fun k => oth 125 k (by decide) (by decide) (by decide)) (funext fun k => oth 128 k (by decide) (by decide) (by decide)) (funext fun k => oth 129 k (by decide) (by decide) (by decide)) (funext fun k => oth 130 k (by decide) (by decide) (by decide)) (o94 35 (by decide) (by decide)) (o94 52 (by decide) (by decide)) (o94 202 (by decide) (by decide)) (o94 203 (by decide) (by decide)) (by unfold zv; rw [v53, ela]; omega) (by unfold zv; rw [ela]; omega) rfl r131 a131 a132 (by unfold zv; rw [v200]; exact hnh) (fun q => ⟨by unfold zv; exact hfl, by unfold zv; exact hned, hv9⟩) nR (by unfold nv; rw [ela]; omega) he.2.1
  have hf9 : fresh (sh, I9, L, R) := by rw [eI9, eI6, eI2, eIg]; exact fresh_I (fresh_I (fresh_I (fresh_gh c94 hf) c131) c132) c94
  refine ⟨rfl, hf9, wOK_g hw hr h1 h2 h3, fun q k hq => ?_, by show (I9 94 53).toInt = _; rw [v53]; omega, by show (I9 94 200).toInt = _; rw [v200]; exact hnh⟩
  show I9 q k = I q k
  by_cases a : q = 94
  · rw [a] at hq ⊢
    exact o94 k (fun e => by rw [e] at hq; cases hq) (fun e => by rw [e] at hq; cases hq)
  · exact oth q k a (fun e => by rw [e] at hq; cases hq) (fun e => by rw [e] at hq; cases hq)
theorem tc_layF {d : Nat} {sh : List mE} {I : Nat → Nat → Int32} {L : Nat → Nat → Int64} {R : Nat → Nat → Option Nat} {wt v : Int32} (hw : wOK (mkT vV []) (wE sh R) (sh, I, L, R)) (hf : fresh (sh, I, L, R)) (hR : (I 94 35).toInt ≤ (I 94 52).toInt) (hl : (I 94 53).toInt ≤ 240) (hwt : 0 ≤ wt.toInt ∧ wt.toInt ≤ 62) (hfl : ¬ (I 94 201).toInt = 1) : Tc 287 d 0 0 [.ref 94, .int wt, .int v] (sh, I, L, R) (fun r w' => r = none ∧ fresh w' ∧ wOK (mkT vV []) (wE sh R) w' ∧ (∀ q k, inm mdL q k = false → w'.2.1 q k = I q k) ∧ (w'.2.1 94 53).toInt = (I 94 53).toInt + 1 ∧ True) := by
  have c94 : sh[94]? = some (.inr 12) := hw.1 94 _ rfl
  have c131 : sh[131]? = some (.inl (.int, 5670)) := hw.1 131 _ rfl
  have c132 : sh[132]? = some (.inl (.int, 5670)) := hw.1 132 _ rfl
  have r94_44 : R 94 44 = some 131 := hw.2.1 94 44 _ rfl
  have r94_45 : R 94 45 = some 132 := hw.2.1 94 45 _ rfl
  have z1 : (1 : Int32).toInt = 1 := rfl
  have z270 : (270 : Int32).toInt = 270 := rfl
  have hro : 0 ≤ (I 94 52).toInt ∧ (I 94 52).toInt ≤ 19 := hw.2.2.1 94 52
  have hla : 0 ≤ (I 94 53).toInt ∧ (I 94 53).toInt ≤ 241 := hw.2.2.1 94 53
  have h35 : 0 ≤ (I 94 35).toInt ∧ (I 94 35).toInt ≤ 20 := hw.2.2.1 94 35
  obtain ⟨ro, ero⟩ : ∃ z : Int32, I 94 52 = z := ⟨_, rfl⟩
  obtain ⟨la, ela⟩ : ∃ z : Int32, I 94 53 = z := ⟨_, rfl⟩
  rw [ero] at hro hR
  rw [ela] at hla hl ⊢
  have xi := inc32 (m := la) (by omega) (by omega)
  have zz270 : (270 : Int32).toInt = 270 := rfl
  have xm : (270 * ro).toInt = 270 * ro.toInt := mul_i (a := 270) (b := ro) (by show lo32 ≤ 270 * ro.toInt; unfold lo32; omega) (by show 270 * ro.toInt ≤ hi32; unfold hi32; omega)
  have xs := sumS (a := 270 * ro) (b := la) (by omega) (by omega)
  refine Tc.of mr_287 rfl (show 3 ≤ mr_287.2.2.2.1 by decide) ?_
  refine XW.fam (S' := (1, [(0, .ref 94), (1, .int wt), (2, .int v)], [.ref 94], (sh, I, L, R))) (M := mr_287) rfl (show mcode 287 0 = some (0, .aload_n 0, 1, 0, 0, 0, _) from rfl) (Or.inl ⟨.ref 94, rfl, rfl⟩) ?_
  refine XW.fam (S' := (4, [(0, .ref 94), (1, .int wt), (2, .int v)], [.ref 131], (sh, I, L, R))) (M := mr_287) rfl (show mcode 287 1 = some (1, .getfield 124, 3, 12, 44, 0, _) from rfl) (Or.inr (Or.inr (Or.inr (Or.inr (Or.inr (Or.inr (Or.inr (Or.inl ⟨_, _, rfl, fl_ld c94 r94_44 (by decide) (by decide), rfl⟩)))))))) ?_
  refine XW.fam (S' := (7, [(0, .ref 94), (1, .int wt), (2, .int v)], [.int 270, .ref 131], (sh, I, L, R))) (M := mr_287) rfl (show mcode 287 4 = some (4, .sipush 270, 3, 0, 0, 0, _) from rfl) (Or.inl ⟨.int 270, rfl, rfl⟩) ?_
  refine XW.fam (S' := (8, [(0, .ref 94), (1, .int wt), (2, .int v)], [.ref 94, .int 270, .ref 131], (sh, I, L, R))) (M := mr_287) rfl (show mcode 287 7 = some (7, .aload_n 0, 1, 0, 0, 0, _) from rfl) (Or.inl ⟨.ref 94, rfl, rfl⟩) ?_
  refine XW.fam (S' := (11, [(0, .ref 94), (1, .int wt), (2, .int v)], [.int (I 94 52), .int 270, .ref 131], (sh, I, L, R))) (M := mr_287) rfl (show mcode 287 8 = some (8, .getfield 373, 3, 12, 52, 0, _) from rfl) (Or.inr (Or.inr (Or.inr (Or.inr (Or.inr (Or.inr (Or.inr (Or.inl ⟨_, _, rfl, fl_ldI c94 (by decide) (by decide), rfl⟩)))))))) ?_
  rw [ero]
  refine XW.fam (S' := (12, [(0, .ref 94), (1, .int wt), (2, .int v)], [.int (270 * ro), .ref 131], (sh, I, L, R))) (M := mr_287) rfl (show mcode 287 11 = some (11, .imul, 1, 0, 0, 0, _) from rfl) (Or.inr (Or.inr (Or.inr (Or.inr (Or.inr (Or.inl ⟨_, rfl, rfl⟩)))))) ?_
  refine XW.fam (S' := (13, [(0, .ref 94), (1, .int wt), (2, .int v)], [.ref 94, .int (270 * ro), .ref 131], (sh, I, L, R))) (M := mr_287) rfl (show mcode 287 12 = some (12, .aload_n 0, 1, 0, 0, 0, _) from rfl) (Or.inl ⟨.ref 94, rfl, rfl⟩) ?_
  refine XW.fam (S' := (16, [(0, .ref 94), (1, .int wt), (2, .int v)], [.int (I 94 53), .int (270 * ro), .ref 131], (sh, I, L, R))) (M := mr_287) rfl (show mcode 287 13 = some (13, .getfield 376, 3, 12, 53, 0, _) from rfl) (Or.inr (Or.inr (Or.inr (Or.inr (Or.inr (Or.inr (Or.inr (Or.inl ⟨_, _, rfl, fl_ldI c94 (by decide) (by decide), rfl⟩)))))))) ?_
  rw [ela]
  refine XW.fam (S' := (17, [(0, .ref 94), (1, .int wt), (2, .int v)], [.int ((270 * ro) + la), .ref 131], (sh, I, L, R))) (M := mr_287) rfl (show mcode 287 16 = some (16, .iadd, 1, 0, 0, 0, _) from rfl) (Or.inr (Or.inr (Or.inr (Or.inr (Or.inr (Or.inl ⟨_, rfl, rfl⟩)))))) ?_
  refine XW.fam (S' := (18, [(0, .ref 94), (1, .int wt), (2, .int v)], [.int wt, .int ((270 * ro) + la), .ref 131], (sh, I, L, R))) (M := mr_287) rfl (show mcode 287 17 = some (17, .iload_n 1, 1, 0, 0, 0, _) from rfl) (Or.inl ⟨.int wt, rfl, rfl⟩) ?_
  have hin1 : inR ((270 * ro) + la) 5670 = true := inR_of (by omega) (by omega)
  obtain ⟨I2, eI2⟩ : ∃ X, X = up2 I 131 (((270 * ro) + la)).toNatClampNeg wt := ⟨_, rfl⟩
  refine XW.fam (S' := (19, [(0, .ref 94), (1, .int wt), (2, .int v)], [], (sh, I2, L, R))) (M := mr_287) rfl (show mcode 287 18 = some (18, .iastore, 1, 0, 0, 0, _) from rfl) (Or.inr (Or.inr (Or.inr (Or.inl ⟨_, _, by rw [eI2]; exact sta_i c131 hin1, rfl⟩)))) ?_
  have v3 : I2 94 52 = ro := by rw [eI2, up2_ne (fun e => by cases e.1)]; exact ero
  have v4 : I2 94 53 = la := by rw [eI2, up2_ne (fun e => by cases e.1)]; exact ela
  refine XW.fam (S' := (20, [(0, .ref 94), (1, .int wt), (2, .int v)], [.ref 94], (sh, I2, L, R))) (M := mr_287) rfl (show mcode 287 19 = some (19, .aload_n 0, 1, 0, 0, 0, _) from rfl) (Or.inl ⟨.ref 94, rfl, rfl⟩) ?_
  refine XW.fam (S' := (23, [(0, .ref 94), (1, .int wt), (2, .int v)], [.ref 132], (sh, I2, L, R))) (M := mr_287) rfl (show mcode 287 20 = some (20, .getfield 127, 3, 12, 45, 0, _) from rfl) (Or.inr (Or.inr (Or.inr (Or.inr (Or.inr (Or.inr (Or.inr (Or.inl ⟨_, _, rfl, fl_ld c94 r94_45 (by decide) (by decide), rfl⟩)))))))) ?_
  refine XW.fam (S' := (26, [(0, .ref 94), (1, .int wt), (2, .int v)], [.int 270, .ref 132], (sh, I2, L, R))) (M := mr_287) rfl (show mcode 287 23 = some (23, .sipush 270, 3, 0, 0, 0, _) from rfl) (Or.inl ⟨.int 270, rfl, rfl⟩) ?_
  refine XW.fam (S' := (27, [(0, .ref 94), (1, .int wt), (2, .int v)], [.ref 94, .int 270, .ref 132], (sh, I2, L, R))) (M := mr_287) rfl (show mcode 287 26 = some (26, .aload_n 0, 1, 0, 0, 0, _) from rfl) (Or.inl ⟨.ref 94, rfl, rfl⟩) ?_
  refine XW.fam (S' := (30, [(0, .ref 94), (1, .int wt), (2, .int v)], [.int (I2 94 52), .int 270, .ref 132], (sh, I2, L, R))) (M := mr_287) rfl (show mcode 287 27 = some (27, .getfield 373, 3, 12, 52, 0, _) from rfl) (Or.inr (Or.inr (Or.inr (Or.inr (Or.inr (Or.inr (Or.inr (Or.inl ⟨_, _, rfl, fl_ldI c94 (by decide) (by decide), rfl⟩)))))))) ?_
  rw [v3]
  refine XW.fam (S' := (31, [(0, .ref 94), (1, .int wt), (2, .int v)], [.int (270 * ro), .ref 132], (sh, I2, L, R))) (M := mr_287) rfl (show mcode 287 30 = some (30, .imul, 1, 0, 0, 0, _) from rfl) (Or.inr (Or.inr (Or.inr (Or.inr (Or.inr (Or.inl ⟨_, rfl, rfl⟩)))))) ?_
  refine XW.fam (S' := (32, [(0, .ref 94), (1, .int wt), (2, .int v)], [.ref 94, .int (270 * ro), .ref 132], (sh, I2, L, R))) (M := mr_287) rfl (show mcode 287 31 = some (31, .aload_n 0, 1, 0, 0, 0, _) from rfl) (Or.inl ⟨.ref 94, rfl, rfl⟩) ?_
  refine XW.fam (S' := (35, [(0, .ref 94), (1, .int wt), (2, .int v)], [.int (I2 94 53), .int (270 * ro), .ref 132], (sh, I2, L, R))) (M := mr_287) rfl (show mcode 287 32 = some (32, .getfield 376, 3, 12, 53, 0, _) from rfl) (Or.inr (Or.inr (Or.inr (Or.inr (Or.inr (Or.inr (Or.inr (Or.inl ⟨_, _, rfl, fl_ldI c94 (by decide) (by decide), rfl⟩)))))))) ?_
  rw [v4]
  refine XW.fam (S' := (36, [(0, .ref 94), (1, .int wt), (2, .int v)], [.int ((270 * ro) + la), .ref 132], (sh, I2, L, R))) (M := mr_287) rfl (show mcode 287 35 = some (35, .iadd, 1, 0, 0, 0, _) from rfl) (Or.inr (Or.inr (Or.inr (Or.inr (Or.inr (Or.inl ⟨_, rfl, rfl⟩)))))) ?_
  refine XW.fam (S' := (37, [(0, .ref 94), (1, .int wt), (2, .int v)], [.int v, .int ((270 * ro) + la), .ref 132], (sh, I2, L, R))) (M := mr_287) rfl (show mcode 287 36 = some (36, .iload_n 2, 1, 0, 0, 0, _) from rfl) (Or.inl ⟨.int v, rfl, rfl⟩) ?_
  have hin5 : inR ((270 * ro) + la) 5670 = true := inR_of (by omega) (by omega)
  obtain ⟨I6, eI6⟩ : ∃ X, X = up2 I2 132 (((270 * ro) + la)).toNatClampNeg v := ⟨_, rfl⟩
  refine XW.fam (S' := (38, [(0, .ref 94), (1, .int wt), (2, .int v)], [], (sh, I6, L, R))) (M := mr_287) rfl (show mcode 287 37 = some (37, .iastore, 1, 0, 0, 0, _) from rfl) (Or.inr (Or.inr (Or.inr (Or.inl ⟨_, _, by rw [eI6]; exact sta_i c132 hin5, rfl⟩)))) ?_
  have v7 : I6 94 52 = ro := by rw [eI6, up2_ne (fun e => by cases e.1)]; exact v3
  have v8 : I6 94 53 = la := by rw [eI6, up2_ne (fun e => by cases e.1)]; exact v4
  refine XW.fam (S' := (39, [(0, .ref 94), (1, .int wt), (2, .int v)], [.ref 94], (sh, I6, L, R))) (M := mr_287) rfl (show mcode 287 38 = some (38, .aload_n 0, 1, 0, 0, 0, _) from rfl) (Or.inl ⟨.ref 94, rfl, rfl⟩) ?_
  refine XW.fam (S' := (40, [(0, .ref 94), (1, .int wt), (2, .int v)], [.ref 94, .ref 94], (sh, I6, L, R))) (M := mr_287) rfl (show mcode 287 39 = some (39, .dup, 1, 0, 0, 0, _) from rfl) (Or.inr (Or.inr (Or.inr (Or.inr (Or.inr (Or.inl ⟨_, rfl, rfl⟩)))))) ?_
  refine XW.fam (S' := (43, [(0, .ref 94), (1, .int wt), (2, .int v)], [.int (I6 94 53), .ref 94], (sh, I6, L, R))) (M := mr_287) rfl (show mcode 287 40 = some (40, .getfield 376, 3, 12, 53, 0, _) from rfl) (Or.inr (Or.inr (Or.inr (Or.inr (Or.inr (Or.inr (Or.inr (Or.inl ⟨_, _, rfl, fl_ldI c94 (by decide) (by decide), rfl⟩)))))))) ?_
  rw [v8]
  refine XW.fam (S' := (44, [(0, .ref 94), (1, .int wt), (2, .int v)], [.int 1, .int la, .ref 94], (sh, I6, L, R))) (M := mr_287) rfl (show mcode 287 43 = some (43, .iconst 1, 1, 0, 0, 0, _) from rfl) (Or.inl ⟨.int 1, rfl, rfl⟩) ?_
  refine XW.fam (S' := (45, [(0, .ref 94), (1, .int wt), (2, .int v)], [.int (la + 1), .ref 94], (sh, I6, L, R))) (M := mr_287) rfl (show mcode 287 44 = some (44, .iadd, 1, 0, 0, 0, _) from rfl) (Or.inr (Or.inr (Or.inr (Or.inr (Or.inr (Or.inl ⟨_, rfl, rfl⟩)))))) ?_
  obtain ⟨I9, eI9⟩ : ∃ X, X = up2 I6 94 53 (la + 1) := ⟨_, rfl⟩
  refine XW.fam (S' := (48, [(0, .ref 94), (1, .int wt), (2, .int v)], [], (sh, I9, L, R))) (M := mr_287) rfl (show mcode 287 45 = some (45, .putfield 376, 3, 12, 53, 0, _) from rfl) (Or.inr (Or.inr (Or.inr (Or.inr (Or.inr (Or.inr (Or.inr (Or.inr (Or.inl ⟨_, _, _, rfl, by rw [eI9]; exact stf_I c94 (by decide) (by decide) (by decide), rfl⟩))))))))) ?_
  have v10 : I9 94 52 = ro := by rw [eI9, up2_ne (by decide)]; exact v7
  refine XW.ret (r := none) ⟨rfl, by decide +kernel⟩ ?_
  have pn : ((270 * ro + la)).toNatClampNeg = 270 * nv I 94 52 + nv I 94 53 := by show ((270 * ro + la)).toInt.toNat = _; unfold nv; rw [ero, ela]; omega
  have oth : ∀ q k, ¬ q = 94 → ¬ q = 131 → ¬ q = 132 → I9 q k = I q k := by
    intro q k a1 a2 a3
    rw [eI9, up2_ne (fun e => a1 e.1), eI6, up2_ne (fun e => a3 e.1), eI2, up2_ne (fun e => a2 e.1)]
  have o94 : ∀ k, ¬ k = 53 → ¬ k = 200 → I9 94 k = I 94 k := by
    intro k a1 a2
    rw [eI9, up2_ne (fun e => a1 e.2), eI6, up2_ne (fun e => by cases e.1), eI2, up2_ne (fun e => by cases e.1)]
  have v53 : I9 94 53 = la + 1 := by rw [eI9]; exact up2_eq
  have v200 : I9 94 200 = I 94 200 := by rw [eI9, up2_ne (by decide), eI6, up2_ne (fun e => by cases e.1), eI2, up2_ne (fun e => by cases e.1)]
  have r131 : ∀ k, ¬ k = 270 * nv I 94 52 + nv I 94 53 → I9 131 k = I 131 k ∧ I9 132 k = I 132 k := by
    intro k a1
    refine ⟨?_, ?_⟩
    · rw [eI9, up2_ne (fun e => by cases e.1), eI6, up2_ne (fun e => by cases e.1), eI2, up2_ne (fun e => a1 (by rw [e.2, pn]))]
    · rw [eI9, up2_ne (fun e => by cases e.1), eI6, up2_ne (fun e => a1 (by rw [e.2, pn])), eI2, up2_ne (fun e => by cases e.1)]
  have nR : nv I 94 35 ≤ nv I 94 52 := by unfold nv; rw [ero]; omega
  have he := hw.2.2.2.2.2.2
  have hr : ∀ q k, (rg (mkT vV []) q k).1 ≤ (I9 q k).toInt ∧ (I9 q k).toInt ≤ (rg (mkT vV []) q k).2 := by
    rw [eI9]
    refine rgp ?_ (by show (0 : Int) ≤ _; omega) (by show _ ≤ (241 : Int); omega)
    rw [eI6]
    have vb := i32b v
    unfold lo32 hi32 at vb
    refine rgp ?_ (by show (-2147483648 : Int) ≤ _; omega) (by show _ ≤ (2147483647 : Int); omega)
    rw [eI2]
    refine rgp ?_ (by show (0 : Int) ≤ _; omega) (by show _ ≤ (62 : Int); omega)
    exact hw.2.2.1
  have h3 : e3 I9 := e3_far (by unfold nv; rw [o94 35 (by decide) (by decide)]; exact Nat.le_refl _) (fun k hk => o94 k (by omega) (by omega)) (fun k hk => r131 k (by omega)) he.2.2
  have h1 : e1 135 60 I9 := e1_same (o94 60 (by decide) (by decide)) (fun k => oth 135 k (by decide) (by decide) (by decide)) he.1
  have h2 : e2 I9 := e2_off (ro := nv I 94 52) nR (o94 35 (by decide) (by decide)) (fun k _ => oth 125 k (by decide) (by decide) (by decide)) (fun k _ => ⟨oth 128 k (by decide) (by decide) (by decide), oth 129 k (by decide) (by decide) (by decide), oth 130 k (by decide) (by decide) (by decide)⟩) (fun k hk => r131 k (by omega)) (by unfold zv; rw [o94 201 (by decide) (by decide)]; exact hfl) he.2.1
  have hf9 : fresh (sh, I9, L, R) := by rw [eI9, eI6, eI2]; exact fresh_I (fresh_I (fresh_I hf c131) c132) c94
  refine ⟨rfl, hf9, wOK_g hw hr h1 h2 h3, fun q k hq => ?_, by show (I9 94 53).toInt = _; rw [v53]; omega, trivial⟩
  show I9 q k = I q k
  by_cases a : q = 94
  · rw [a] at hq ⊢
    exact o94 k (fun e => by rw [e] at hq; cases hq) (fun e => by rw [e] at hq; cases hq)
  · exact oth q k a (fun e => by rw [e] at hq; cases hq) (fun e => by rw [e] at hq; cases hq)
def mdM : aM := [(94, some 46), (94, some 47), (94, some 48), (94, some 49), (94, some 50), (94, some 51), (94, some 53), (94, some 200), (94, some 201), (131, none), (132, none)]
/-- the text that the model reads: bytes b, length n, the end is token N -/
def mBs (J : Nat → Nat → Int32) (b : Nat → Int) (n N : Nat) : Prop := ((∀ k, (J 122 k).toInt = b k) ∧ (J 94 34).toInt = (n : Int)) ∧ (tK b n N = 302 ∧ N ≤ 240) ∧ (J 94 35).toInt ≤ (J 94 52).toInt ∧ ∀ k, -128 ≤ b k ∧ b k ≤ 127
/-- token i is looked at, nothing is wrong so far; o open, h high -/
def mStt (b : Nat → Int) (n N : Nat) (I : Nat → Nat → Int32) (o h i : Nat) : Prop := mst b n I (tS b n i) ∧ (I 94 50).toInt = -1 ∧ (I 94 51).toInt = (o : Int) ∧ (I 94 201).toInt = 1 ∧ (I 94 200).toInt = (h : Int) ∧ i ≤ N
def rsM (b : Nat → Int) (n N o h : Nat) (c : Int) (I : Nat → Nat → Int32) (g : Bool × Nat) : Prop := ((I 94 53).toInt + c ≤ (g.2 : Int) ∧ g.2 ≤ N) ∧ (g.1 = true → mStt b n N I o h g.2) ∧ (g.1 = false → (I 94 50).toInt = (tS b n g.2 : Int) ∧ ¬ (I 94 201).toInt = 1 ∧ (o : Int) ≤ (I 94 51).toInt)
def QM (sh : List mE) (R : Nat → Nat → Option Nat) (J : Nat → Nat → Int32) (b : Nat → Int) (n N : Nat) (o h : Nat) (c : Int) (g : Bool × Nat) (w' : mW) : Prop := fresh w' ∧ wOK (mkT vV []) (wE sh R) w' ∧ (∀ q k, inm mdM q k = false → w'.2.1 q k = J q k) ∧ rsM b n N o h c w'.2.1 g
def QMT (sh : List mE) (R : Nat → Nat → Option Nat) (J : Nat → Nat → Int32) (b : Nat → Int) (n N : Nat) (o h : Nat) (c : Int) (g : Bool × Nat) (r : Option Value) (w' : mW) : Prop := r = none ∧ QM sh R J b n N o h c g w'
theorem QM_wk {sh : List mE} {J : Nat → Nat → Int32} {R : Nat → Nat → Option Nat} {b : Nat → Int} {n N : Nat} {o h : Nat} {c c2 : Int} {g : Bool × Nat} {w' : mW} (hq : QM sh R J b n N o h c g w') (hc : c2 ≤ c) : QM sh R J b n N o h c2 g w' := ⟨hq.1, hq.2.1, hq.2.2.1, ⟨by have := hq.2.2.2.1.1; omega, hq.2.2.2.1.2⟩, hq.2.2.2.2.1, hq.2.2.2.2.2⟩
theorem QM_fw {sh : List mE} {J : Nat → Nat → Int32} {R : Nat → Nat → Option Nat} {b : Nat → Int} {n N : Nat} {o o2 h h2 : Nat} {c c2 : Int} {g : Bool × Nat} {w' : mW} (hq : QM sh R J b n N o h c g w') (e : g.1 = false) (ho : o2 ≤ o) (hc : c2 ≤ c) : QM sh R J b n N o2 h2 c2 g w' := ⟨hq.1, hq.2.1, hq.2.2.1, ⟨by have := hq.2.2.2.1.1; omega, hq.2.2.2.1.2⟩, fun z => (by rw [e] at z; cases z), fun z => ⟨(hq.2.2.2.2.2 z).1, (hq.2.2.2.2.2 z).2.1, by have := (hq.2.2.2.2.2 z).2.2; omega⟩⟩
theorem QM_t {sh : List mE} {J : Nat → Nat → Int32} {R : Nat → Nat → Option Nat} {b : Nat → Int} {n N : Nat} {o h : Nat} {c : Int} {g : Bool × Nat} {w' : mW} (e : g.1 = true) (hq : QM sh R J b n N o h c g w') : QM sh R J b n N o h c (true, g.2) w' := by
  have eg : g = (true, g.2) := Prod.ext e rfl
  rw [← eg]
  exact hq
theorem mS_same {b : Nat → Int} {n N o h i : Nat} {I I' : Nat → Nat → Int32} (e46 : I' 94 46 = I 94 46) (e47 : I' 94 47 = I 94 47) (e48 : I' 94 48 = I 94 48) (e50 : I' 94 50 = I 94 50) (e51 : I' 94 51 = I 94 51) (e201 : I' 94 201 = I 94 201) (e200 : I' 94 200 = I 94 200) (hs : mStt b n N I o h i) : mStt b n N I' o h i := by
  unfold mStt mst at hs ⊢
  rw [e46, e47, e48, e50, e51, e201, e200]
  exact hs
theorem inm_NM {q k : Nat} (hq : inm mdM q k = false) : inm mdNx q k = false := inm_sub (A := mdNx) (fun e he => by
  rcases List.mem_cons.mp he with rfl | he
  · exact List.mem_of_getElem? (i := 0) rfl
  rcases List.mem_cons.mp he with rfl | he
  · exact List.mem_of_getElem? (i := 1) rfl
  rcases List.mem_cons.mp he with rfl | he
  · exact List.mem_of_getElem? (i := 2) rfl
  rcases List.mem_singleton.mp he with rfl
  exact List.mem_of_getElem? (i := 3) rfl) hq
theorem inm_LM {q k : Nat} (hq : inm mdM q k = false) : inm mdL q k = false := inm_sub (A := mdL) (fun e he => by
  rcases List.mem_cons.mp he with rfl | he
  · exact List.mem_of_getElem? (i := 6) rfl
  rcases List.mem_cons.mp he with rfl | he
  · exact List.mem_of_getElem? (i := 7) rfl
  rcases List.mem_cons.mp he with rfl | he
  · exact List.mem_of_getElem? (i := 9) rfl
  rcases List.mem_singleton.mp he with rfl
  exact List.mem_of_getElem? (i := 10) rfl) hq
theorem tkE_le {b : Nat → Int} {n p : Nat} (h : p ≤ n) : tkE b n p ≤ n := by
  have g := tkE_rng (b := b) (n := n) (p := p)
  by_cases c : p < n
  · exact (g.1 c).2
  · rw [g.2 c]
    exact h
theorem lay_1 : ned (1 : Int32).toInt = 0 ∧ dl (1 : Int32).toInt = 1 := by decide
theorem lay_2 : ned (2 : Int32).toInt = 0 ∧ dl (2 : Int32).toInt = 1 := by decide
theorem lay_3 : ned (3 : Int32).toInt = 1 ∧ dl (3 : Int32).toInt = 0 := by decide
theorem lay_hi {x : Int} (h : 4 ≤ x) : ned x = 2 ∧ dl x = -1 := by
  unfold ned dl
  rw [if_neg (by omega), if_neg (by omega), if_neg (by omega), if_neg (by omega)]
  exact ⟨rfl, rfl⟩
theorem wOK_off {sh : List mE} {I : Nat → Nat → Int32} {L : Nat → Nat → Int64} {R : Nat → Nat → Option Nat} (hw : wOK (mkT vV []) (wE sh R) (sh, I, L, R)) : wOK (mkT vV []) (wE sh R) (sh, up2 I 94 201 0, L, R) := by
  have he := hw.2.2.2.2.2.2
  have h2 : e2 (up2 I 94 201 0) := by
    refine e2_off (ro := nv I 94 35) (Nat.le_refl _) (up2_ne (by decide)) (fun k _ => up2_ne (fun e => by cases e.1)) (fun k _ => ⟨up2_ne (fun e => by cases e.1), up2_ne (fun e => by cases e.1), up2_ne (fun e => by cases e.1)⟩) (fun k _ => ⟨up2_ne (fun e => by cases e.1), up2_ne (fun e => by cases e.1)⟩) ?_ he.2.1
    unfold zv
    rw [up2_eq]
    decide
  exact wOK_g hw (rgp hw.2.2.1 (by show (-2147483648 : Int) ≤ 0; decide) (by show (0 : Int) ≤ 2147483647; decide)) (e1_same (up2_ne (by decide)) (fun k => up2_ne (fun e => by cases e.1)) he.1) h2 (e3_oth (by decide) (by decide) (by decide) he.2.2)
theorem QM_st51 {sh : List mE} {J : Nat → Nat → Int32} {R : Nat → Nat → Option Nat} {b : Nat → Int} {n N : Nat} {I : Nat → Nat → Int32} {L : Nat → Nat → Int64} {o o2 h : Nat} {c : Int} {g : Bool × Nat} {x : Int32} (hq : QM sh R J b n N o h c g (sh, I, L, R)) (hx : 0 ≤ x.toInt ∧ x.toInt ≤ 8) (h1 : g.1 = true → x.toInt = (o2 : Int)) (h2 : g.1 = false → (o2 : Int) ≤ x.toInt) : QM sh R J b n N o2 h c g (sh, up2 I 94 51 x, L, R) := by
  obtain ⟨hf, hw, hk, hs0, hs1, hs2⟩ := hq
  have ne : ∀ k, ¬ k = 51 → up2 I 94 51 x 94 k = I 94 k := fun k a => up2_ne (fun e => a e.2)
  refine ⟨fresh_I hf (hw.1 94 _ rfl), wOK_u2 (q := 94) (k := 51) (x := x) wE_put hw rfl (by show (0 : Int) ≤ _; omega) (by show _ ≤ (8 : Int); omega), fun q k e => ?_, ⟨?_, hs0.2⟩, fun e => ?_, fun e => ?_⟩
  · show up2 I 94 51 x q k = J q k
    rw [up2_ne (fun z => by rw [z.1, z.2] at e; cases e)]
    exact hk q k e
  · show (up2 I 94 51 x 94 53).toInt + c ≤ _
    rw [ne 53 (by decide)]
    exact hs0.1
  · obtain ⟨⟨a1, a2, a3⟩, a4, a5, a6, a7, a8⟩ := hs1 e
    refine ⟨⟨?_, ?_, ?_⟩, ?_, ?_, ?_, ?_, a8⟩
    · show (up2 I 94 51 x 94 46).toInt = _
      rw [ne 46 (by decide)]
      exact a1
    · show (up2 I 94 51 x 94 47).toInt = _
      rw [ne 47 (by decide)]
      exact a2
    · show (up2 I 94 51 x 94 48).toInt = _
      rw [ne 48 (by decide)]
      exact a3
    · show (up2 I 94 51 x 94 50).toInt = _
      rw [ne 50 (by decide)]
      exact a4
    · show (up2 I 94 51 x 94 51).toInt = _
      rw [up2_eq]
      exact h1 e
    · show (up2 I 94 51 x 94 201).toInt = _
      rw [ne 201 (by decide)]
      exact a6
    · show (up2 I 94 51 x 94 200).toInt = _
      rw [ne 200 (by decide)]
      exact a7
  · obtain ⟨a1, a2, a3⟩ := hs2 e
    refine ⟨?_, ?_, ?_⟩
    · show (up2 I 94 51 x 94 50).toInt = _
      rw [ne 50 (by decide)]
      exact a1
    · show ¬ (up2 I 94 51 x 94 201).toInt = 1
      rw [ne 201 (by decide)]
      exact a2
    · show (o2 : Int) ≤ (up2 I 94 51 x 94 51).toInt
      rw [up2_eq]
      exact h2 e
theorem tc_nxtM {d o h i : Nat} {c c2 : Int} {sh : List mE} {J : Nat → Nat → Int32} {R : Nat → Nat → Option Nat} {b : Nat → Int} {n N : Nat} {I : Nat → Nat → Int32} {L : Nat → Nat → Int64} (hB : mBs J b n N) (hq : QM sh R J b n N o h c (true, i) (sh, I, L, R)) (hi : i < N) (hc : c2 = c + 1) : Tc 278 (d + 2) 0 0 [.ref 94] (sh, I, L, R) (QMT sh R J b n N o h c2 (true, i + 1)) := by
  obtain ⟨hf, hw, hk, hs0, hs1, hs2⟩ := id hq
  have hk : ∀ q k, inm mdM q k = false → I q k = J q k := hk
  have hst : mStt b n N I o h i := hs1 rfl
  have hle : i ≤ N := hst.2.2.2.2.2
  have hN := hB.2.1.1
  have hN2 := hB.2.1.2
  have hlt : ¬ tK b n i = 302 → i < N := lt_N hN hle
  have hsl : (I 94 53).toInt + c ≤ (i : Int) := hs0.1
  have eB : (fun k => (I 122 k).toInt) = b := funext (fun k => by rw [hk 122 k rfl]; exact hB.1.1 k)
  have eN : (I 94 34).toInt.toNat = n := by rw [hk 94 34 rfl]; have := hB.1.2; omega
  have q : Tc 278 (d + 2) 0 0 [.ref 94] (sh, I, L, R) (fun r w' => r = none ∧ fresh w' ∧ wOK (mkT vV []) (wE sh R) w' ∧ (∀ q k, inm mdNx q k = false → w'.2.1 q k = I q k) ∧ mst b n w'.2.1 (tE (cS b) n (tkE b n (tS b n i)))) := by
    have t := tc_nxt (d := d) (u := tkE b n (tS b n i)) hw hf hst.1.2.1 (by rw [eN]; exact tkE_le tS_le)
    rw [eB, eN] at t
    exact t
  refine Tc.imp q (fun r w' p => ⟨p.1, p.2.1, p.2.2.1, fun q k e => (p.2.2.2.1 q k (inm_NM e)).trans (hk q k e), ⟨?_, hi⟩, fun _ => ⟨p.2.2.2.2, ?_, ?_, ?_, ?_, hi⟩, fun e => (by cases e)⟩)
  · show (w'.2.1 94 53).toInt + c2 ≤ ((i + 1 : Nat) : Int)
    rw [p.2.2.2.1 94 53 rfl]
    omega
  · rw [p.2.2.2.1 94 50 rfl]
    exact hst.2.1
  · rw [p.2.2.2.1 94 51 rfl]
    exact hst.2.2.1
  · rw [p.2.2.2.1 94 201 rfl]
    exact hst.2.2.2.1
  · rw [p.2.2.2.1 94 200 rfl]
    exact hst.2.2.2.2.1
theorem tc_isM {d o h i t : Nat} {c : Int} {w9 : Int64} {sh : List mE} {J : Nat → Nat → Int32} {R : Nat → Nat → Option Nat} {b : Nat → Int} {n N : Nat} {I : Nat → Nat → Int32} {L : Nat → Nat → Int64} (hB : mBs J b n N) (hq : QM sh R J b n N o h c (true, i) (sh, I, L, R)) (ht : t < 18) (hwt : wL[t]? = some w9.toInt) : Tc 282 d 0 0 [.ref 94, .long w9] (sh, I, L, R) (fun r w' => ((r = some (.int 0) ∧ ¬ tK b n i = 256 + (t : Int)) ∨ (r = some (.int 1) ∧ tK b n i = 256 + (t : Int))) ∧ w' = (sh, I, L, R)) := by
  obtain ⟨hf, hw, hk, hs0, hs1, hs2⟩ := id hq
  have hk : ∀ q k, inm mdM q k = false → I q k = J q k := hk
  have hst : mStt b n N I o h i := hs1 rfl
  have hle : i ≤ N := hst.2.2.2.2.2
  have hN := hB.2.1.1
  have hN2 := hB.2.1.2
  have hlt : ¬ tK b n i = 302 → i < N := lt_N hN hle
  have hsl : (I 94 53).toInt + c ≤ (i : Int) := hs0.1
  have eB : (fun k => (I 122 k).toInt) = b := funext (fun k => by rw [hk 122 k rfl]; exact hB.1.1 k)
  have eN : (I 94 34).toInt.toNat = n := by rw [hk 94 34 rfl]; have := hB.1.2; omega
  have t1 := tc_isK (d := d) (p := tS b n i) (t := t) (w := w9) hw (by rw [eB, eN]; exact hst.1) (by rw [eN]; exact tS_le) ht hwt
  rw [eB, eN] at t1
  exact t1
theorem tc_nmoM {d o h i : Nat} {c : Int} {sh : List mE} {J : Nat → Nat → Int32} {R : Nat → Nat → Option Nat} {b : Nat → Int} {n N : Nat} {I : Nat → Nat → Int32} {L : Nat → Nat → Int64} (hB : mBs J b n N) (hq : QM sh R J b n N o h c (true, i) (sh, I, L, R)) : Tc 290 (d + 1) 0 0 [.ref 94] (sh, I, L, R) (fun r w' => (∃ y : Int32, r = some (.int y) ∧ ((y.toInt = -1 ∧ ¬ (264 ≤ tK b n i ∧ tK b n i ≤ 273)) ∨ (264 ≤ tK b n i ∧ tK b n i ≤ 273 ∧ y.toInt = tK b n i - 264))) ∧ w' = (sh, I, L, R)) := by
  obtain ⟨hf, hw, hk, hs0, hs1, hs2⟩ := id hq
  have hk : ∀ q k, inm mdM q k = false → I q k = J q k := hk
  have hst : mStt b n N I o h i := hs1 rfl
  have hle : i ≤ N := hst.2.2.2.2.2
  have hN := hB.2.1.1
  have hN2 := hB.2.1.2
  have hlt : ¬ tK b n i = 302 → i < N := lt_N hN hle
  have hsl : (I 94 53).toInt + c ≤ (i : Int) := hs0.1
  have eB : (fun k => (I 122 k).toInt) = b := funext (fun k => by rw [hk 122 k rfl]; exact hB.1.1 k)
  have eN : (I 94 34).toInt.toNat = n := by rw [hk 94 34 rfl]; have := hB.1.2; omega
  have t1 := tc_nmo (d := d) (p := tS b n i) hw (by rw [eB, eN]; exact hst.1) (by rw [eN]; exact tS_le)
  rw [eB, eN] at t1
  exact t1
theorem tc_layQ {d o h h2 : Nat} {c c2 : Int} {g : Bool × Nat} {wt v : Int32} {sh : List mE} {J : Nat → Nat → Int32} {R : Nat → Nat → Option Nat} {b : Nat → Int} {n N : Nat} {I : Nat → Nat → Int32} {L : Nat → Nat → Int64} (hB : mBs J b n N) (hq : QM sh R J b n N o h c g (sh, I, L, R)) (hwt : 0 ≤ wt.toInt ∧ wt.toInt ≤ 62) (hned : g.1 = true → ned wt.toInt ≤ (h : Int)) (hh2 : g.1 = true → (h2 : Int) = (h : Int) + dl wt.toInt) (hh : h ≤ 1000) (hv9 : wt.toInt = 2 → 0 ≤ v.toInt ∧ v.toInt ≤ 9) (hc0 : 0 ≤ c) (hc : c2 = c - 1) : Tc 287 d 0 0 [.ref 94, .int wt, .int v] (sh, I, L, R) (QMT sh R J b n N o h2 c2 g) := by
  obtain ⟨hf, hw, hk, hs0, hs1, hs2⟩ := id hq
  have hk : ∀ q k, inm mdM q k = false → I q k = J q k := hk
  have hsl := hs0.1
  have hN2 := hB.2.1.2
  have hg2 := hs0.2
  have hR : (I 94 35).toInt ≤ (I 94 52).toInt := by rw [hk 94 35 rfl, hk 94 52 rfl]; exact hB.2.2.1
  have hl : (I 94 53).toInt ≤ 240 := by
    have z : (I 94 53).toInt + c ≤ (g.2 : Int) := hsl
    omega
  cases e : g.1 with
  | true =>
    have hst := hs1 e
    refine Tc.imp (tc_layT (d := d) (wt := wt) (v := v) hw hf hR hl hwt hst.2.2.2.1 (by rw [hst.2.2.2.2.1]; exact hned e) (by rw [hst.2.2.2.2.1]; omega) hv9) (fun r w' p => ⟨p.1, p.2.1, p.2.2.1, fun q k z => (p.2.2.2.1 q k (inm_LM z)).trans (hk q k z), ⟨?_, hg2⟩, fun _ => ?_, fun z => ?_⟩)
    · have z : (I 94 53).toInt + c ≤ (g.2 : Int) := hsl
      have z2 := p.2.2.2.2.1
      omega
    · have hs2 : mStt b n N I o h g.2 := hst
      obtain ⟨⟨a1, a2, a3⟩, a4, a5, a6, a7, a8⟩ := hs2
      refine ⟨⟨?_, ?_, ?_⟩, ?_, ?_, ?_, ?_, a8⟩
      · rw [p.2.2.2.1 94 46 rfl]
        exact a1
      · rw [p.2.2.2.1 94 47 rfl]
        exact a2
      · rw [p.2.2.2.1 94 48 rfl]
        exact a3
      · rw [p.2.2.2.1 94 50 rfl]
        exact a4
      · rw [p.2.2.2.1 94 51 rfl]
        exact a5
      · rw [p.2.2.2.1 94 201 rfl]
        exact a6
      · rw [p.2.2.2.2.2, a7]
        exact (hh2 e).symm
    · rw [e] at z
      cases z
  | false =>
    have hst := hs2 e
    refine Tc.imp (tc_layF (d := d) (wt := wt) (v := v) hw hf hR hl hwt hst.2.1) (fun r w' p => ⟨p.1, p.2.1, p.2.2.1, fun q k z => (p.2.2.2.1 q k (inm_LM z)).trans (hk q k z), ⟨?_, hg2⟩, fun z => ?_, fun _ => ⟨?_, ?_, ?_⟩⟩)
    · have z : (I 94 53).toInt + c ≤ (g.2 : Int) := hsl
      have z2 := p.2.2.2.2.1
      omega
    · rw [e] at z
      cases z
    · rw [p.2.2.2.1 94 50 rfl]
      exact hst.1
    · rw [p.2.2.2.1 94 201 rfl]
      exact hst.2.1
    · rw [p.2.2.2.1 94 51 rfl]
      exact hst.2.2
theorem tc_wrM {d o h h2 i : Nat} {c : Int} {sh : List mE} {J : Nat → Nat → Int32} {R : Nat → Nat → Option Nat} {b : Nat → Int} {n N : Nat} {I : Nat → Nat → Int32} {L : Nat → Nat → Int64} (hB : mBs J b n N) (hq : QM sh R J b n N o h c (true, i) (sh, I, L, R)) : Tc 283 d 0 0 [.ref 94] (sh, I, L, R) (QMT sh R J b n N o h2 c (false, i)) := by
  obtain ⟨hf, hw, hk, hs0, hs1, hs2⟩ := id hq
  have hk : ∀ q k, inm mdM q k = false → I q k = J q k := hk
  have hst : mStt b n N I o h i := hs1 rfl
  have hle : i ≤ N := hst.2.2.2.2.2
  have hN := hB.2.1.1
  have hN2 := hB.2.1.2
  have hlt : ¬ tK b n i = 302 → i < N := lt_N hN hle
  have hsl : (I 94 53).toInt + c ≤ (i : Int) := hs0.1
  have c94 : sh[94]? = some (.inr 12) := hw.1 94 _ rfl
  have z0 : (0 : Int32).toInt = 0 := rfl
  refine Tc.gh (q := 94) (g := 201) (x := 0) c94 (by decide +kernel) ?_
  have hwg := wOK_off hw
  have hfg := fresh_gh (g := 201) (x := 0) c94 hf
  obtain ⟨Ig, eIg⟩ : ∃ X, X = up2 I 94 201 0 := ⟨_, rfl⟩
  rw [← eIg] at hwg hfg ⊢
  obtain ⟨fl, efl⟩ : ∃ z : Int32, Ig 94 50 = z := ⟨_, rfl⟩
  have hfl : fl.toInt = -1 := by rw [← efl, eIg, up2_ne (by decide)]; exact hst.2.1
  obtain ⟨ps, eps⟩ : ∃ z : Int32, Ig 94 46 = z := ⟨_, rfl⟩
  have hps : ps.toInt = (tS b n i : Int) := by rw [← eps, eIg, up2_ne (by decide)]; exact hst.1.1
  have hSl := tS_le (b := b) (n := n) (i := i)
  have hl0 : 0 ≤ (I 94 34).toInt ∧ (I 94 34).toInt ≤ 240 := hw.2.2.1 94 34
  rw [hk 94 34 rfl, hB.1.2] at hl0
  refine Tc.of mr_283 rfl (show 1 ≤ mr_283.2.2.2.1 by decide) ?_
  refine XW.fam (S' := (1, [(0, .ref 94)], [.ref 94], (sh, Ig, L, R))) (M := mr_283) rfl (show mcode 283 0 = some (0, .aload_n 0, 1, 0, 0, 0, _) from rfl) (Or.inl ⟨.ref 94, rfl, rfl⟩) ?_
  refine XW.fam (S' := (4, [(0, .ref 94)], [.int (Ig 94 50)], (sh, Ig, L, R))) (M := mr_283) rfl (show mcode 283 1 = some (1, .getfield 370, 3, 12, 50, 0, _) from rfl) (Or.inr (Or.inr (Or.inr (Or.inr (Or.inr (Or.inr (Or.inr (Or.inl ⟨_, _, rfl, fl_ldI c94 (by decide) (by decide), rfl⟩)))))))) ?_
  rw [efl]
  have k1 : bcmp .ge fl 0 = false := bcF (c := .ge) (a := (fl).toInt) (b := 0) rfl (by decide) (by show ¬ (0 ≤ (fl).toInt); omega)
  refine XW.fam (S' := (7, [(0, .ref 94)], [], (sh, Ig, L, R))) (M := mr_283) rfl (show mcode 283 4 = some (4, .ifCond .ge 11, 3, 15, 0, 0, _) from rfl) (Or.inr (Or.inl ⟨7, [], by simp [brn, k1], rfl⟩)) ?_
  refine XW.fam (S' := (8, [(0, .ref 94)], [.ref 94], (sh, Ig, L, R))) (M := mr_283) rfl (show mcode 283 7 = some (7, .aload_n 0, 1, 0, 0, 0, _) from rfl) (Or.inl ⟨.ref 94, rfl, rfl⟩) ?_
  refine XW.fam (S' := (9, [(0, .ref 94)], [.ref 94, .ref 94], (sh, Ig, L, R))) (M := mr_283) rfl (show mcode 283 8 = some (8, .aload_n 0, 1, 0, 0, 0, _) from rfl) (Or.inl ⟨.ref 94, rfl, rfl⟩) ?_
  refine XW.fam (S' := (12, [(0, .ref 94)], [.int (Ig 94 46), .ref 94], (sh, Ig, L, R))) (M := mr_283) rfl (show mcode 283 9 = some (9, .getfield 351, 3, 12, 46, 0, _) from rfl) (Or.inr (Or.inr (Or.inr (Or.inr (Or.inr (Or.inr (Or.inr (Or.inl ⟨_, _, rfl, fl_ldI c94 (by decide) (by decide), rfl⟩)))))))) ?_
  rw [eps]
  obtain ⟨I2, eI2⟩ : ∃ X, X = up2 Ig 94 50 ps := ⟨_, rfl⟩
  refine XW.fam (S' := (15, [(0, .ref 94)], [], (sh, I2, L, R))) (M := mr_283) rfl (show mcode 283 12 = some (12, .putfield 370, 3, 12, 50, 0, _) from rfl) (Or.inr (Or.inr (Or.inr (Or.inr (Or.inr (Or.inr (Or.inr (Or.inr (Or.inl ⟨_, _, _, rfl, by rw [eI2]; exact stf_I c94 (by decide) (by decide) (by decide), rfl⟩))))))))) ?_
  have hwI2 : wOK (mkT vV []) (wE sh R) (sh, I2, L, R) := by rw [eI2]; exact wOK_u2 (q := 94) (k := 50) (x := ps) wE_put hwg rfl (by show ((-1) : Int) ≤ _; omega) (by show _ ≤ (240 : Int); omega)
  have hfI2 : fresh (sh, I2, L, R) := by rw [eI2]; exact fresh_I hfg c94
  have v4 : I2 94 46 = ps := by rw [eI2, up2_ne (fun e => by cases e.2)]; exact eps
  have v5 : I2 94 50 = ps := by rw [eI2]; exact up2_eq
  refine XW.ret (r := none) ⟨rfl, by decide +kernel⟩ ?_
  refine ⟨rfl, hfI2, hwI2, fun q k z => ?_, ⟨?_, hle⟩, fun z => (by cases z), fun _ => ⟨?_, ?_, ?_⟩⟩
  · show I2 q k = J q k
    rw [eI2, up2_ne (fun e => by rw [e.1, e.2] at z; cases z), eIg, up2_ne (fun e => by rw [e.1, e.2] at z; cases z)]
    exact hk q k z
  · show (I2 94 53).toInt + c ≤ (i : Int)
    rw [eI2, up2_ne (by decide), eIg, up2_ne (by decide)]
    exact hsl
  · show (I2 94 50).toInt = (tS b n i : Int)
    rw [eI2, up2_eq]
    exact hps
  · show ¬ (I2 94 201).toInt = 1
    rw [eI2, up2_ne (by decide), eIg, up2_eq]
    decide
  · show (o : Int) ≤ (I2 94 51).toInt
    rw [eI2, up2_ne (by decide), eIg, up2_ne (by decide)]
    have := hst.2.2.1
    omega
theorem tc_opN {d o h h2 i : Nat} {c c2 : Int} {sh : List mE} {J : Nat → Nat → Int32} {R : Nat → Nat → Option Nat} {b : Nat → Int} {n N : Nat} {I : Nat → Nat → Int32} {L : Nat → Nat → Int64} (hB : mBs J b n N) (hq : QM sh R J b n N o h c (true, i) (sh, I, L, R)) (ho : o = 8) : Tc 288 (d + 3) 0 0 [.ref 94] (sh, I, L, R) (fun r w' => r = some (.int 0) ∧ QM sh R J b n N o h2 c (false, i) w') := by
  obtain ⟨hf, hw, hk, hs0, hs1, hs2⟩ := id hq
  have hk : ∀ q k, inm mdM q k = false → I q k = J q k := hk
  have hst : mStt b n N I o h i := hs1 rfl
  have hle : i ≤ N := hst.2.2.2.2.2
  have hN := hB.2.1.1
  have hN2 := hB.2.1.2
  have hlt : ¬ tK b n i = 302 → i < N := lt_N hN hle
  have hsl : (I 94 53).toInt + c ≤ (i : Int) := hs0.1
  have c94 : sh[94]? = some (.inr 12) := hw.1 94 _ rfl
  have z0 : (0 : Int32).toInt = 0 := rfl
  have z1 : (1 : Int32).toInt = 1 := rfl
  have z8 : (8 : Int32).toInt = 8 := rfl
  obtain ⟨op, eop⟩ : ∃ z : Int32, I 94 51 = z := ⟨_, rfl⟩
  have hop : op.toInt = (o : Int) := by rw [← eop]; exact hst.2.2.1
  refine Tc.of mr_288 rfl (show 1 ≤ mr_288.2.2.2.1 by decide) ?_
  refine XW.fam (S' := (1, [(0, .ref 94)], [.ref 94], (sh, I, L, R))) (M := mr_288) rfl (show mcode 288 0 = some (0, .aload_n 0, 1, 0, 0, 0, _) from rfl) (Or.inl ⟨.ref 94, rfl, rfl⟩) ?_
  refine XW.fam (S' := (4, [(0, .ref 94)], [.int (I 94 51)], (sh, I, L, R))) (M := mr_288) rfl (show mcode 288 1 = some (1, .getfield 379, 3, 12, 51, 0, _) from rfl) (Or.inr (Or.inr (Or.inr (Or.inr (Or.inr (Or.inr (Or.inr (Or.inl ⟨_, _, rfl, fl_ldI c94 (by decide) (by decide), rfl⟩)))))))) ?_
  rw [eop]
  refine XW.fam (S' := (6, [(0, .ref 94)], [.int 8, .int op], (sh, I, L, R))) (M := mr_288) rfl (show mcode 288 4 = some (4, .bipush 8, 2, 0, 0, 0, _) from rfl) (Or.inl ⟨.int 8, rfl, rfl⟩) ?_
  have k1 : bcmp .ne op 8 = false := bcF (c := .ne) (a := (op).toInt) (b := 8) rfl (by decide) (by show ¬ (¬ (op).toInt = 8); omega)
  refine XW.fam (S' := (9, [(0, .ref 94)], [], (sh, I, L, R))) (M := mr_288) rfl (show mcode 288 6 = some (6, .if_icmp .ne 9, 3, 15, 0, 0, _) from rfl) (Or.inr (Or.inl ⟨9, [], by simp [brn, k1], rfl⟩)) ?_
  refine XW.fam (S' := (10, [(0, .ref 94)], [.ref 94], (sh, I, L, R))) (M := mr_288) rfl (show mcode 288 9 = some (9, .aload_n 0, 1, 0, 0, 0, _) from rfl) (Or.inl ⟨.ref 94, rfl, rfl⟩) ?_
  refine XW.call (d' := d) (mc' := 0) (ms' := 0) (av := [.ref 94]) (rest := []) (M := mr_288) (Ma := mr_283) rfl (show mcode 288 10 = some (10, .invokevirtual 382, 3, 283, 0, 0, _) from rfl) rfl (by decide) (by decide) ⟨rfl, 94, _, rfl, c94⟩ rfl rfl (show 0 ≤ 8 by decide) (tc_wrM (d := d) (h2 := h2) hB hq) (by omega) (Nat.zero_le _) (Nat.zero_le _) (fun rQ2 wQ2 Q2 => ?_)
  obtain ⟨hrQ2, hqQ2⟩ := Q2
  subst hrQ2
  obtain ⟨shQ2, IQ2, LQ2, RQ2⟩ := wQ2
  obtain rfl : sh = shQ2 := hqQ2.2.1.2.2.2.1.symm
  obtain rfl : R = RQ2 := hqQ2.2.1.2.2.2.2.1.symm
  refine XW.fam (S' := (14, [(0, .ref 94)], [.int 0], (sh, IQ2, LQ2, R))) (M := mr_288) rfl (show mcode 288 13 = some (13, .iconst 0, 1, 0, 0, 0, _) from rfl) (Or.inl ⟨.int 0, rfl, rfl⟩) ?_
  refine XW.ret (r := some (.int 0)) ⟨⟨.boolean, rfl, rfl⟩, by decide +kernel⟩ ?_
  exact ⟨rfl, hqQ2⟩
theorem tc_opY {d o h h2 i : Nat} {c c2 : Int} {sh : List mE} {J : Nat → Nat → Int32} {R : Nat → Nat → Option Nat} {b : Nat → Int} {n N : Nat} {I : Nat → Nat → Int32} {L : Nat → Nat → Int64} (hB : mBs J b n N) (hq : QM sh R J b n N o h c (true, i) (sh, I, L, R)) (ho : o < 8) (hi : i < N) (hc : c2 = c + 1) : Tc 288 (d + 3) 0 0 [.ref 94] (sh, I, L, R) (fun r w' => r = some (.int 1) ∧ QM sh R J b n N (o + 1) h c2 (true, i + 1) w') := by
  obtain ⟨hf, hw, hk, hs0, hs1, hs2⟩ := id hq
  have hk : ∀ q k, inm mdM q k = false → I q k = J q k := hk
  have hst : mStt b n N I o h i := hs1 rfl
  have hle : i ≤ N := hst.2.2.2.2.2
  have hN := hB.2.1.1
  have hN2 := hB.2.1.2
  have hlt : ¬ tK b n i = 302 → i < N := lt_N hN hle
  have hsl : (I 94 53).toInt + c ≤ (i : Int) := hs0.1
  have c94 : sh[94]? = some (.inr 12) := hw.1 94 _ rfl
  have z1 : (1 : Int32).toInt = 1 := rfl
  have z8 : (8 : Int32).toInt = 8 := rfl
  obtain ⟨op, eop⟩ : ∃ z : Int32, I 94 51 = z := ⟨_, rfl⟩
  have hop : op.toInt = (o : Int) := by rw [← eop]; exact hst.2.2.1
  refine Tc.of mr_288 rfl (show 1 ≤ mr_288.2.2.2.1 by decide) ?_
  refine XW.fam (S' := (1, [(0, .ref 94)], [.ref 94], (sh, I, L, R))) (M := mr_288) rfl (show mcode 288 0 = some (0, .aload_n 0, 1, 0, 0, 0, _) from rfl) (Or.inl ⟨.ref 94, rfl, rfl⟩) ?_
  refine XW.fam (S' := (4, [(0, .ref 94)], [.int (I 94 51)], (sh, I, L, R))) (M := mr_288) rfl (show mcode 288 1 = some (1, .getfield 379, 3, 12, 51, 0, _) from rfl) (Or.inr (Or.inr (Or.inr (Or.inr (Or.inr (Or.inr (Or.inr (Or.inl ⟨_, _, rfl, fl_ldI c94 (by decide) (by decide), rfl⟩)))))))) ?_
  rw [eop]
  refine XW.fam (S' := (6, [(0, .ref 94)], [.int 8, .int op], (sh, I, L, R))) (M := mr_288) rfl (show mcode 288 4 = some (4, .bipush 8, 2, 0, 0, 0, _) from rfl) (Or.inl ⟨.int 8, rfl, rfl⟩) ?_
  have k1 : bcmp .ne op 8 = true := bcT (c := .ne) (a := (op).toInt) (b := 8) rfl (by decide) (by show ¬ (op).toInt = 8; omega)
  refine XW.fam (S' := (15, [(0, .ref 94)], [], (sh, I, L, R))) (M := mr_288) rfl (show mcode 288 6 = some (6, .if_icmp .ne 9, 3, 15, 0, 0, _) from rfl) (Or.inr (Or.inl ⟨15, [], by simp [brn, k1], rfl⟩)) ?_
  refine XW.fam (S' := (16, [(0, .ref 94)], [.ref 94], (sh, I, L, R))) (M := mr_288) rfl (show mcode 288 15 = some (15, .aload_n 0, 1, 0, 0, 0, _) from rfl) (Or.inl ⟨.ref 94, rfl, rfl⟩) ?_
  refine XW.fam (S' := (17, [(0, .ref 94)], [.ref 94, .ref 94], (sh, I, L, R))) (M := mr_288) rfl (show mcode 288 16 = some (16, .dup, 1, 0, 0, 0, _) from rfl) (Or.inr (Or.inr (Or.inr (Or.inr (Or.inr (Or.inl ⟨_, rfl, rfl⟩)))))) ?_
  refine XW.fam (S' := (20, [(0, .ref 94)], [.int (I 94 51), .ref 94], (sh, I, L, R))) (M := mr_288) rfl (show mcode 288 17 = some (17, .getfield 379, 3, 12, 51, 0, _) from rfl) (Or.inr (Or.inr (Or.inr (Or.inr (Or.inr (Or.inr (Or.inr (Or.inl ⟨_, _, rfl, fl_ldI c94 (by decide) (by decide), rfl⟩)))))))) ?_
  rw [eop]
  refine XW.fam (S' := (21, [(0, .ref 94)], [.int 1, .int op, .ref 94], (sh, I, L, R))) (M := mr_288) rfl (show mcode 288 20 = some (20, .iconst 1, 1, 0, 0, 0, _) from rfl) (Or.inl ⟨.int 1, rfl, rfl⟩) ?_
  refine XW.fam (S' := (22, [(0, .ref 94)], [.int (op + 1), .ref 94], (sh, I, L, R))) (M := mr_288) rfl (show mcode 288 21 = some (21, .iadd, 1, 0, 0, 0, _) from rfl) (Or.inr (Or.inr (Or.inr (Or.inr (Or.inr (Or.inl ⟨_, rfl, rfl⟩)))))) ?_
  obtain ⟨I2, eI2⟩ : ∃ X, X = up2 I 94 51 (op + 1) := ⟨_, rfl⟩
  refine XW.fam (S' := (25, [(0, .ref 94)], [], (sh, I2, L, R))) (M := mr_288) rfl (show mcode 288 22 = some (22, .putfield 379, 3, 12, 51, 0, _) from rfl) (Or.inr (Or.inr (Or.inr (Or.inr (Or.inr (Or.inr (Or.inr (Or.inr (Or.inl ⟨_, _, _, rfl, by rw [eI2]; exact stf_I c94 (by decide) (by decide) (by decide), rfl⟩))))))))) ?_
  have xi := inc32 (m := op) (by omega) (by omega)
  have hqI2 : QM sh R J b n N (o + 1) h c (true, i) (sh, I2, L, R) := by rw [eI2]; exact QM_st51 hq ⟨by omega, by omega⟩ (fun _ => by omega) (fun _ => by omega)
  refine XW.fam (S' := (26, [(0, .ref 94)], [.ref 94], (sh, I2, L, R))) (M := mr_288) rfl (show mcode 288 25 = some (25, .aload_n 0, 1, 0, 0, 0, _) from rfl) (Or.inl ⟨.ref 94, rfl, rfl⟩) ?_
  refine XW.call (d' := d + 2) (mc' := 0) (ms' := 0) (av := [.ref 94]) (rest := []) (M := mr_288) (Ma := mr_278) rfl (show mcode 288 26 = some (26, .invokevirtual 385, 3, 278, 0, 0, _) from rfl) rfl (by decide) (by decide) ⟨rfl, 94, _, rfl, c94⟩ rfl rfl (show 0 ≤ 8 by decide) (tc_nxtM (d := d) (c2 := c2) hB hqI2 hi hc) (by omega) (Nat.zero_le _) (Nat.zero_le _) (fun rQ3 wQ3 Q3 => ?_)
  obtain ⟨hrQ3, hqQ3⟩ := Q3
  subst hrQ3
  obtain ⟨shQ3, IQ3, LQ3, RQ3⟩ := wQ3
  obtain rfl : sh = shQ3 := hqQ3.2.1.2.2.2.1.symm
  obtain rfl : R = RQ3 := hqQ3.2.1.2.2.2.2.1.symm
  refine XW.fam (S' := (30, [(0, .ref 94)], [.int 1], (sh, IQ3, LQ3, R))) (M := mr_288) rfl (show mcode 288 29 = some (29, .iconst 1, 1, 0, 0, 0, _) from rfl) (Or.inl ⟨.int 1, rfl, rfl⟩) ?_
  refine XW.ret (r := some (.int 1)) ⟨⟨.boolean, rfl, rfl⟩, by decide +kernel⟩ ?_
  exact ⟨rfl, hqQ3⟩
theorem tc_clNm {d o h h2 i : Nat} {c c2 : Int} {sg : Int32} {sv : Int} {sh : List mE} {J : Nat → Nat → Int32} {R : Nat → Nat → Option Nat} {b : Nat → Int} {n N : Nat} {I : Nat → Nat → Int32} {L : Nat → Nat → Int64} (hB : mBs J b n N) (ho : o < 8) (hq : QM sh R J b n N (o + 1) h c (true, i) (sh, I, L, R)) (hsv : sg.toInt = sv) (hs3 : 33 ≤ sv ∧ sv ≤ 127) (hs4 : ¬ (97 ≤ sv ∧ sv ≤ 122)) (hs5 : ¬ (48 ≤ sv ∧ sv ≤ 57)) (hm : ¬ tK b n i = sv) : Tc 289 (d + 3) 0 0 [.ref 94, .int sg] (sh, I, L, R) (fun r w' => r = some (.int 0) ∧ QM sh R J b n N o h2 c (false, i) w') := by
  obtain ⟨hf, hw, hk, hs0, hs1, hs2⟩ := id hq
  have hk : ∀ q k, inm mdM q k = false → I q k = J q k := hk
  have hst : mStt b n N I (o + 1) h i := hs1 rfl
  have hle : i ≤ N := hst.2.2.2.2.2
  have hN := hB.2.1.1
  have hN2 := hB.2.1.2
  have hlt : ¬ tK b n i = 302 → i < N := lt_N hN hle
  have hsl : (I 94 53).toInt + c ≤ (i : Int) := hs0.1
  have c94 : sh[94]? = some (.inr 12) := hw.1 94 _ rfl
  have z0 : (0 : Int32).toInt = 0 := rfl
  have z1 : (1 : Int32).toInt = 1 := rfl
  obtain ⟨tk, etk⟩ : ∃ z : Int32, I 94 48 = z := ⟨_, rfl⟩
  have htk : tk.toInt = mtok b n (tS b n i) := by rw [← etk]; exact hst.1.2.2
  obtain ⟨op, eop⟩ : ∃ z : Int32, I 94 51 = z := ⟨_, rfl⟩
  have hop : op.toInt = ((o + 1 : Nat) : Int) := by rw [← eop]; exact hst.2.2.1
  have hms : mtok b n (tS b n i) = sv ↔ tK b n i = sv := mtok_sign hB.2.2.2 hs3 hs4 hs5
  refine Tc.of mr_289 rfl (show 2 ≤ mr_289.2.2.2.1 by decide) ?_
  refine XW.fam (S' := (1, [(0, .ref 94), (1, .int sg)], [.ref 94], (sh, I, L, R))) (M := mr_289) rfl (show mcode 289 0 = some (0, .aload_n 0, 1, 0, 0, 0, _) from rfl) (Or.inl ⟨.ref 94, rfl, rfl⟩) ?_
  refine XW.fam (S' := (4, [(0, .ref 94), (1, .int sg)], [.int (I 94 48)], (sh, I, L, R))) (M := mr_289) rfl (show mcode 289 1 = some (1, .getfield 354, 3, 12, 48, 0, _) from rfl) (Or.inr (Or.inr (Or.inr (Or.inr (Or.inr (Or.inr (Or.inr (Or.inl ⟨_, _, rfl, fl_ldI c94 (by decide) (by decide), rfl⟩)))))))) ?_
  rw [etk]
  refine XW.fam (S' := (5, [(0, .ref 94), (1, .int sg)], [.int sg, .int tk], (sh, I, L, R))) (M := mr_289) rfl (show mcode 289 4 = some (4, .iload_n 1, 1, 0, 0, 0, _) from rfl) (Or.inl ⟨.int sg, rfl, rfl⟩) ?_
  have k1 : bcmp .eq tk sg = false := bcF (c := .eq) (a := (tk).toInt) (b := (sg).toInt) rfl rfl (by show ¬ ((tk).toInt = (sg).toInt); omega)
  refine XW.fam (S' := (8, [(0, .ref 94), (1, .int sg)], [], (sh, I, L, R))) (M := mr_289) rfl (show mcode 289 5 = some (5, .if_icmp .eq 9, 3, 14, 0, 0, _) from rfl) (Or.inr (Or.inl ⟨8, [], by simp [brn, k1], rfl⟩)) ?_
  refine XW.fam (S' := (9, [(0, .ref 94), (1, .int sg)], [.ref 94], (sh, I, L, R))) (M := mr_289) rfl (show mcode 289 8 = some (8, .aload_n 0, 1, 0, 0, 0, _) from rfl) (Or.inl ⟨.ref 94, rfl, rfl⟩) ?_
  refine XW.call (d' := d) (mc' := 0) (ms' := 0) (av := [.ref 94]) (rest := []) (M := mr_289) (Ma := mr_283) rfl (show mcode 289 9 = some (9, .invokevirtual 382, 3, 283, 0, 0, _) from rfl) rfl (by decide) (by decide) ⟨rfl, 94, _, rfl, c94⟩ rfl rfl (show 0 ≤ 8 by decide) (tc_wrM (d := d) (h2 := h2) hB hq) (by omega) (Nat.zero_le _) (Nat.zero_le _) (fun rQ2 wQ2 Q2 => ?_)
  obtain ⟨hrQ2, hqQ2⟩ := Q2
  subst hrQ2
  obtain ⟨shQ2, IQ2, LQ2, RQ2⟩ := wQ2
  obtain rfl : sh = shQ2 := hqQ2.2.1.2.2.2.1.symm
  obtain rfl : R = RQ2 := hqQ2.2.1.2.2.2.2.1.symm
  refine XW.fam (S' := (13, [(0, .ref 94), (1, .int sg)], [.int 0], (sh, IQ2, LQ2, R))) (M := mr_289) rfl (show mcode 289 12 = some (12, .iconst 0, 1, 0, 0, 0, _) from rfl) (Or.inl ⟨.int 0, rfl, rfl⟩) ?_
  refine XW.ret (r := some (.int 0)) ⟨⟨.boolean, rfl, rfl⟩, by decide +kernel⟩ ?_
  exact ⟨rfl, QM_fw hqQ2 rfl (by omega) (Int.le_refl _)⟩
theorem tc_clYm {d o h h2 i : Nat} {c c2 : Int} {sg : Int32} {sv : Int} {sh : List mE} {J : Nat → Nat → Int32} {R : Nat → Nat → Option Nat} {b : Nat → Int} {n N : Nat} {I : Nat → Nat → Int32} {L : Nat → Nat → Int64} (hB : mBs J b n N) (ho : o < 8) (hq : QM sh R J b n N (o + 1) h c (true, i) (sh, I, L, R)) (hsv : sg.toInt = sv) (hs3 : 33 ≤ sv ∧ sv ≤ 127) (hs4 : ¬ (97 ≤ sv ∧ sv ≤ 122)) (hs5 : ¬ (48 ≤ sv ∧ sv ≤ 57)) (hm : tK b n i = sv) (hi : i < N) (hc : c2 = c + 1) : Tc 289 (d + 3) 0 0 [.ref 94, .int sg] (sh, I, L, R) (fun r w' => r = some (.int 1) ∧ QM sh R J b n N o h c2 (true, i + 1) w') := by
  obtain ⟨hf, hw, hk, hs0, hs1, hs2⟩ := id hq
  have hk : ∀ q k, inm mdM q k = false → I q k = J q k := hk
  have hst : mStt b n N I (o + 1) h i := hs1 rfl
  have hle : i ≤ N := hst.2.2.2.2.2
  have hN := hB.2.1.1
  have hN2 := hB.2.1.2
  have hlt : ¬ tK b n i = 302 → i < N := lt_N hN hle
  have hsl : (I 94 53).toInt + c ≤ (i : Int) := hs0.1
  have c94 : sh[94]? = some (.inr 12) := hw.1 94 _ rfl
  have z1 : (1 : Int32).toInt = 1 := rfl
  obtain ⟨tk, etk⟩ : ∃ z : Int32, I 94 48 = z := ⟨_, rfl⟩
  have htk : tk.toInt = mtok b n (tS b n i) := by rw [← etk]; exact hst.1.2.2
  obtain ⟨op, eop⟩ : ∃ z : Int32, I 94 51 = z := ⟨_, rfl⟩
  have hop : op.toInt = ((o + 1 : Nat) : Int) := by rw [← eop]; exact hst.2.2.1
  have hms : mtok b n (tS b n i) = sv ↔ tK b n i = sv := mtok_sign hB.2.2.2 hs3 hs4 hs5
  refine Tc.of mr_289 rfl (show 2 ≤ mr_289.2.2.2.1 by decide) ?_
  refine XW.fam (S' := (1, [(0, .ref 94), (1, .int sg)], [.ref 94], (sh, I, L, R))) (M := mr_289) rfl (show mcode 289 0 = some (0, .aload_n 0, 1, 0, 0, 0, _) from rfl) (Or.inl ⟨.ref 94, rfl, rfl⟩) ?_
  refine XW.fam (S' := (4, [(0, .ref 94), (1, .int sg)], [.int (I 94 48)], (sh, I, L, R))) (M := mr_289) rfl (show mcode 289 1 = some (1, .getfield 354, 3, 12, 48, 0, _) from rfl) (Or.inr (Or.inr (Or.inr (Or.inr (Or.inr (Or.inr (Or.inr (Or.inl ⟨_, _, rfl, fl_ldI c94 (by decide) (by decide), rfl⟩)))))))) ?_
  rw [etk]
  refine XW.fam (S' := (5, [(0, .ref 94), (1, .int sg)], [.int sg, .int tk], (sh, I, L, R))) (M := mr_289) rfl (show mcode 289 4 = some (4, .iload_n 1, 1, 0, 0, 0, _) from rfl) (Or.inl ⟨.int sg, rfl, rfl⟩) ?_
  have k1 : bcmp .eq tk sg = true := bcT (c := .eq) (a := (tk).toInt) (b := (sg).toInt) rfl rfl (by show (tk).toInt = (sg).toInt; omega)
  refine XW.fam (S' := (14, [(0, .ref 94), (1, .int sg)], [], (sh, I, L, R))) (M := mr_289) rfl (show mcode 289 5 = some (5, .if_icmp .eq 9, 3, 14, 0, 0, _) from rfl) (Or.inr (Or.inl ⟨14, [], by simp [brn, k1], rfl⟩)) ?_
  refine XW.fam (S' := (15, [(0, .ref 94), (1, .int sg)], [.ref 94], (sh, I, L, R))) (M := mr_289) rfl (show mcode 289 14 = some (14, .aload_n 0, 1, 0, 0, 0, _) from rfl) (Or.inl ⟨.ref 94, rfl, rfl⟩) ?_
  refine XW.fam (S' := (16, [(0, .ref 94), (1, .int sg)], [.ref 94, .ref 94], (sh, I, L, R))) (M := mr_289) rfl (show mcode 289 15 = some (15, .dup, 1, 0, 0, 0, _) from rfl) (Or.inr (Or.inr (Or.inr (Or.inr (Or.inr (Or.inl ⟨_, rfl, rfl⟩)))))) ?_
  refine XW.fam (S' := (19, [(0, .ref 94), (1, .int sg)], [.int (I 94 51), .ref 94], (sh, I, L, R))) (M := mr_289) rfl (show mcode 289 16 = some (16, .getfield 379, 3, 12, 51, 0, _) from rfl) (Or.inr (Or.inr (Or.inr (Or.inr (Or.inr (Or.inr (Or.inr (Or.inl ⟨_, _, rfl, fl_ldI c94 (by decide) (by decide), rfl⟩)))))))) ?_
  rw [eop]
  refine XW.fam (S' := (20, [(0, .ref 94), (1, .int sg)], [.int 1, .int op, .ref 94], (sh, I, L, R))) (M := mr_289) rfl (show mcode 289 19 = some (19, .iconst 1, 1, 0, 0, 0, _) from rfl) (Or.inl ⟨.int 1, rfl, rfl⟩) ?_
  refine XW.fam (S' := (21, [(0, .ref 94), (1, .int sg)], [.int (op - 1), .ref 94], (sh, I, L, R))) (M := mr_289) rfl (show mcode 289 20 = some (20, .isub, 1, 0, 0, 0, _) from rfl) (Or.inr (Or.inr (Or.inr (Or.inr (Or.inr (Or.inl ⟨_, rfl, rfl⟩)))))) ?_
  obtain ⟨I2, eI2⟩ : ∃ X, X = up2 I 94 51 (op - 1) := ⟨_, rfl⟩
  refine XW.fam (S' := (24, [(0, .ref 94), (1, .int sg)], [], (sh, I2, L, R))) (M := mr_289) rfl (show mcode 289 21 = some (21, .putfield 379, 3, 12, 51, 0, _) from rfl) (Or.inr (Or.inr (Or.inr (Or.inr (Or.inr (Or.inr (Or.inr (Or.inr (Or.inl ⟨_, _, _, rfl, by rw [eI2]; exact stf_I c94 (by decide) (by decide) (by decide), rfl⟩))))))))) ?_
  have xi := difS (a := op) (b := 1) (by omega) (by omega)
  have hqI2 : QM sh R J b n N o h c (true, i) (sh, I2, L, R) := by rw [eI2]; exact QM_st51 hq ⟨by omega, by omega⟩ (fun _ => by omega) (fun _ => by omega)
  refine XW.fam (S' := (25, [(0, .ref 94), (1, .int sg)], [.ref 94], (sh, I2, L, R))) (M := mr_289) rfl (show mcode 289 24 = some (24, .aload_n 0, 1, 0, 0, 0, _) from rfl) (Or.inl ⟨.ref 94, rfl, rfl⟩) ?_
  refine XW.call (d' := d + 2) (mc' := 0) (ms' := 0) (av := [.ref 94]) (rest := []) (M := mr_289) (Ma := mr_278) rfl (show mcode 289 25 = some (25, .invokevirtual 385, 3, 278, 0, 0, _) from rfl) rfl (by decide) (by decide) ⟨rfl, 94, _, rfl, c94⟩ rfl rfl (show 0 ≤ 8 by decide) (tc_nxtM (d := d) (c2 := c2) hB hqI2 hi hc) (by omega) (Nat.zero_le _) (Nat.zero_le _) (fun rQ3 wQ3 Q3 => ?_)
  obtain ⟨hrQ3, hqQ3⟩ := Q3
  subst hrQ3
  obtain ⟨shQ3, IQ3, LQ3, RQ3⟩ := wQ3
  obtain rfl : sh = shQ3 := hqQ3.2.1.2.2.2.1.symm
  obtain rfl : R = RQ3 := hqQ3.2.1.2.2.2.2.1.symm
  refine XW.fam (S' := (29, [(0, .ref 94), (1, .int sg)], [.int 1], (sh, IQ3, LQ3, R))) (M := mr_289) rfl (show mcode 289 28 = some (28, .iconst 1, 1, 0, 0, 0, _) from rfl) (Or.inl ⟨.int 1, rfl, rfl⟩) ?_
  refine XW.ret (r := some (.int 1)) ⟨⟨.boolean, rfl, rfl⟩, by decide +kernel⟩ ?_
  exact ⟨rfl, hqQ3⟩
/-- the contract of a method of the model's grammar, by fuel -/
def CTm (sh : List mE) (R : Nat → Nat → Option Nat) (J : Nat → Nat → Int32) (b : Nat → Int) (n N : Nat) (d j rk m f : Nat) : Prop := ∀ (o i h : Nat) (c : Int) {I : Nat → Nat → Int32} {L : Nat → Nat → Int64}, o ≤ 8 → QM sh R J b n N o h c (true, i) (sh, I, L, R) → 0 ≤ c → h ≤ i → 10 * (N - i) + (m + 1) ≤ f → Tc j (d + 4 + (6 * (8 - o) + rk)) 0 0 [.ref 94] (sh, I, L, R) (QMT sh R J b n N o (h + 1) c (gPx (tK b n) f m o i))
theorem one_ofM {d f : Nat} {sh : List mE} {J : Nat → Nat → Int32} {R : Nat → Nat → Option Nat} {b : Nat → Int} {n N : Nat} (hB : mBs J b n N) (Hs : CTm sh R J b n N d 284 3 4 f) : CTm sh R J b n N d 286 1 0 (f + 1) := by
  intro o i h c I L ho hq hc0 hhi hmu
  obtain ⟨hf, hw, hk, hs0, hs1, hs2⟩ := id hq
  have hk : ∀ q k, inm mdM q k = false → I q k = J q k := hk
  have hst : mStt b n N I o h i := hs1 rfl
  have hle : i ≤ N := hst.2.2.2.2.2
  have hN := hB.2.1.1
  have hN2 := hB.2.1.2
  have hlt : ¬ tK b n i = 302 → i < N := lt_N hN hle
  have hsl : (I 94 53).toInt + c ≤ (i : Int) := hs0.1
  have c94 : sh[94]? = some (.inr 12) := hw.1 94 _ rfl
  have z0 : (0 : Int32).toInt = 0 := rfl
  have z1 : (1 : Int32).toInt = 1 := rfl
  have z2 : (2 : Int32).toInt = 2 := rfl
  have z40 : (40 : Int32).toInt = 40 := rfl
  have z41 : (41 : Int32).toInt = 41 := rfl
  obtain ⟨tk, etk⟩ : ∃ z : Int32, I 94 48 = z := ⟨_, rfl⟩
  have htk : tk.toInt = mtok b n (tS b n i) := by rw [← etk]; exact hst.1.2.2
  obtain ⟨vl, evl⟩ : ∃ z : Int32, I 94 49 = z := ⟨_, rfl⟩
  have m40 : mtok b n (tS b n i) = 40 ↔ tK b n i = 40 := mtok_sign hB.2.2.2 (by decide) (by decide) (by decide)
  have mnm : mtok b n (tS b n i) = 2 ↔ tK b n i = 300 := mtok_num hB.2.2.2
  refine Tc.of mr_286 rfl (show 1 ≤ mr_286.2.2.2.1 by decide) ?_
  refine XW.fam (S' := (1, [(0, .ref 94)], [.ref 94], (sh, I, L, R))) (M := mr_286) rfl (show mcode 286 0 = some (0, .aload_n 0, 1, 0, 0, 0, _) from rfl) (Or.inl ⟨.ref 94, rfl, rfl⟩) ?_
  refine XW.fam (S' := (4, [(0, .ref 94)], [.int (I 94 48)], (sh, I, L, R))) (M := mr_286) rfl (show mcode 286 1 = some (1, .getfield 354, 3, 12, 48, 0, _) from rfl) (Or.inr (Or.inr (Or.inr (Or.inr (Or.inr (Or.inr (Or.inr (Or.inl ⟨_, _, rfl, fl_ldI c94 (by decide) (by decide), rfl⟩)))))))) ?_
  rw [etk]
  refine XW.fam (S' := (5, [(0, .ref 94)], [.int 2, .int tk], (sh, I, L, R))) (M := mr_286) rfl (show mcode 286 4 = some (4, .iconst 2, 1, 0, 0, 0, _) from rfl) (Or.inl ⟨.int 2, rfl, rfl⟩) ?_
  cases k1 : bcmp .ne tk 2 with
  | true =>
    have gk1 : ¬ (tk).toInt = 2 := icT (c := .ne) (a := (tk).toInt) (b := 2) rfl (by decide) k1
    refine XW.fam (S' := (24, [(0, .ref 94)], [], (sh, I, L, R))) (M := mr_286) rfl (show mcode 286 5 = some (5, .if_icmp .ne 19, 3, 24, 0, 0, _) from rfl) (Or.inr (Or.inl ⟨24, [], by simp [brn, k1], rfl⟩)) ?_
    refine XW.fam (S' := (25, [(0, .ref 94)], [.ref 94], (sh, I, L, R))) (M := mr_286) rfl (show mcode 286 24 = some (24, .aload_n 0, 1, 0, 0, 0, _) from rfl) (Or.inl ⟨.ref 94, rfl, rfl⟩) ?_
    refine XW.fam (S' := (28, [(0, .ref 94)], [.int (I 94 48)], (sh, I, L, R))) (M := mr_286) rfl (show mcode 286 25 = some (25, .getfield 354, 3, 12, 48, 0, _) from rfl) (Or.inr (Or.inr (Or.inr (Or.inr (Or.inr (Or.inr (Or.inr (Or.inl ⟨_, _, rfl, fl_ldI c94 (by decide) (by decide), rfl⟩)))))))) ?_
    rw [etk]
    refine XW.fam (S' := (30, [(0, .ref 94)], [.int 40, .int tk], (sh, I, L, R))) (M := mr_286) rfl (show mcode 286 28 = some (28, .bipush 40, 2, 0, 0, 0, _) from rfl) (Or.inl ⟨.int 40, rfl, rfl⟩) ?_
    cases k2 : bcmp .ne tk 40 with
    | true =>
      have gk2 : ¬ (tk).toInt = 40 := icT (c := .ne) (a := (tk).toInt) (b := 40) rfl (by decide) k2
      refine XW.fam (S' := (62, [(0, .ref 94)], [], (sh, I, L, R))) (M := mr_286) rfl (show mcode 286 30 = some (30, .if_icmp .ne 32, 3, 62, 0, 0, _) from rfl) (Or.inr (Or.inl ⟨62, [], by simp [brn, k2], rfl⟩)) ?_
      refine XW.fam (S' := (63, [(0, .ref 94)], [.ref 94], (sh, I, L, R))) (M := mr_286) rfl (show mcode 286 62 = some (62, .aload_n 0, 1, 0, 0, 0, _) from rfl) (Or.inl ⟨.ref 94, rfl, rfl⟩) ?_
      refine XW.call (d' := d + 1) (mc' := 0) (ms' := 0) (av := [.ref 94]) (rest := []) (M := mr_286) (Ma := mr_290) rfl (show mcode 286 63 = some (63, .invokevirtual 409, 3, 290, 0, 0, _) from rfl) rfl (by decide) (by decide) ⟨rfl, 94, _, rfl, c94⟩ rfl rfl (show 0 ≤ 8 by decide) (tc_nmoM (d := d) hB hq) (by omega) (Nat.zero_le _) (Nat.zero_le _) (fun rQ3 wQ3 Q3 => ?_)
      obtain ⟨⟨yQ3, hrQ3, hyQ3⟩, hwQ3⟩ := Q3
      subst hrQ3
      subst hwQ3
      cases k4 : bcmp .lt yQ3 0 with
      | true =>
        have gk4 : (yQ3).toInt < 0 := icT (c := .lt) (a := (yQ3).toInt) (b := 0) rfl (by decide) k4
        refine XW.fam (S' := (85, [(0, .ref 94)], [], (sh, I, L, R))) (M := mr_286) rfl (show mcode 286 66 = some (66, .ifCond .lt 19, 3, 85, 0, 0, _) from rfl) (Or.inr (Or.inl ⟨85, [], by simp [brn, k4], rfl⟩)) ?_
        refine XW.fam (S' := (86, [(0, .ref 94)], [.ref 94], (sh, I, L, R))) (M := mr_286) rfl (show mcode 286 85 = some (85, .aload_n 0, 1, 0, 0, 0, _) from rfl) (Or.inl ⟨.ref 94, rfl, rfl⟩) ?_
        refine XW.call (d' := d) (mc' := 0) (ms' := 0) (av := [.ref 94]) (rest := []) (M := mr_286) (Ma := mr_283) rfl (show mcode 286 86 = some (86, .invokevirtual 382, 3, 283, 0, 0, _) from rfl) rfl (by decide) (by decide) ⟨rfl, 94, _, rfl, c94⟩ rfl rfl (show 0 ≤ 8 by decide) (tc_wrM (d := d) (h2 := h + 1) hB hq) (by omega) (Nat.zero_le _) (Nat.zero_le _) (fun rQ5 wQ5 Q5 => ?_)
        obtain ⟨hrQ5, hqQ5⟩ := Q5
        subst hrQ5
        obtain ⟨shQ5, IQ5, LQ5, RQ5⟩ := wQ5
        obtain rfl : sh = shQ5 := hqQ5.2.1.2.2.2.1.symm
        obtain rfl : R = RQ5 := hqQ5.2.1.2.2.2.2.1.symm
        refine XW.ret (r := none) ⟨rfl, by decide +kernel⟩ ?_
        rw [gPx_0]
        unfold g0
        rw [if_neg (by omega), if_neg (by omega)]
        exact ⟨rfl, QM_wk hqQ5 (by omega)⟩
      | false =>
        have gk4 : ¬ ((yQ3).toInt < 0) := icF (c := .lt) (a := (yQ3).toInt) (b := 0) rfl (by decide) k4
        refine XW.fam (S' := (69, [(0, .ref 94)], [], (sh, I, L, R))) (M := mr_286) rfl (show mcode 286 66 = some (66, .ifCond .lt 19, 3, 85, 0, 0, _) from rfl) (Or.inr (Or.inl ⟨69, [], by simp [brn, k4], rfl⟩)) ?_
        refine XW.fam (S' := (70, [(0, .ref 94)], [.ref 94], (sh, I, L, R))) (M := mr_286) rfl (show mcode 286 69 = some (69, .aload_n 0, 1, 0, 0, 0, _) from rfl) (Or.inl ⟨.ref 94, rfl, rfl⟩) ?_
        refine XW.fam (S' := (71, [(0, .ref 94)], [.int 2, .ref 94], (sh, I, L, R))) (M := mr_286) rfl (show mcode 286 70 = some (70, .iconst 2, 1, 0, 0, 0, _) from rfl) (Or.inl ⟨.int 2, rfl, rfl⟩) ?_
        refine XW.fam (S' := (72, [(0, .ref 94)], [.ref 94, .int 2, .ref 94], (sh, I, L, R))) (M := mr_286) rfl (show mcode 286 71 = some (71, .aload_n 0, 1, 0, 0, 0, _) from rfl) (Or.inl ⟨.ref 94, rfl, rfl⟩) ?_
        refine XW.call (d' := d + 1) (mc' := 0) (ms' := 0) (av := [.ref 94]) (rest := [.int 2, .ref 94]) (M := mr_286) (Ma := mr_290) rfl (show mcode 286 72 = some (72, .invokevirtual 409, 3, 290, 0, 0, _) from rfl) rfl (by decide) (by decide) ⟨rfl, 94, _, rfl, c94⟩ rfl rfl (show 2 ≤ 8 by decide) (tc_nmoM (d := d) hB hq) (by omega) (Nat.zero_le _) (Nat.zero_le _) (fun rQ6 wQ6 Q6 => ?_)
        obtain ⟨⟨yQ6, hrQ6, hyQ6⟩, hwQ6⟩ := Q6
        subst hrQ6
        subst hwQ6
        refine XW.call (d' := d) (mc' := 0) (ms' := 0) (av := [.ref 94, .int 2, .int yQ6]) (rest := []) (M := mr_286) (Ma := mr_287) rfl (show mcode 286 75 = some (75, .invokevirtual 395, 3, 287, 0, 0, _) from rfl) rfl (by decide) (by decide) ⟨rfl, 94, _, rfl, c94⟩ rfl rfl (show 0 ≤ 8 by decide) (tc_layQ (d := d) (h2 := (h + 1)) (c2 := (c - 1)) hB hq (by decide) (fun _ => by have := lay_2; omega) (fun _ => by have := lay_2; omega) (by omega) (fun _ => by omega) (by omega) (by omega)) (by omega) (Nat.zero_le _) (Nat.zero_le _) (fun rQ7 wQ7 Q7 => ?_)
        obtain ⟨hrQ7, hqQ7⟩ := Q7
        subst hrQ7
        obtain ⟨shQ7, IQ7, LQ7, RQ7⟩ := wQ7
        obtain rfl : sh = shQ7 := hqQ7.2.1.2.2.2.1.symm
        obtain rfl : R = RQ7 := hqQ7.2.1.2.2.2.2.1.symm
        refine XW.fam (S' := (79, [(0, .ref 94)], [.ref 94], (sh, IQ7, LQ7, R))) (M := mr_286) rfl (show mcode 286 78 = some (78, .aload_n 0, 1, 0, 0, 0, _) from rfl) (Or.inl ⟨.ref 94, rfl, rfl⟩) ?_
        refine XW.call (d' := d + 2) (mc' := 0) (ms' := 0) (av := [.ref 94]) (rest := []) (M := mr_286) (Ma := mr_278) rfl (show mcode 286 79 = some (79, .invokevirtual 385, 3, 278, 0, 0, _) from rfl) rfl (by decide) (by decide) ⟨rfl, 94, _, rfl, c94⟩ rfl rfl (show 0 ≤ 8 by decide) (tc_nxtM (d := d) (c2 := c) hB hqQ7 (lt_N hN hle (by omega)) (by omega)) (by omega) (Nat.zero_le _) (Nat.zero_le _) (fun rQ8 wQ8 Q8 => ?_)
        obtain ⟨hrQ8, hqQ8⟩ := Q8
        subst hrQ8
        obtain ⟨shQ8, IQ8, LQ8, RQ8⟩ := wQ8
        obtain rfl : sh = shQ8 := hqQ8.2.1.2.2.2.1.symm
        obtain rfl : R = RQ8 := hqQ8.2.1.2.2.2.2.1.symm
        refine XW.fam (S' := (89, [(0, .ref 94)], [], (sh, IQ8, LQ8, R))) (M := mr_286) rfl (show mcode 286 82 = some (82, .goto 7, 3, 89, 0, 0, _) from rfl) (Or.inr (Or.inl ⟨89, [], rfl, rfl⟩)) ?_
        refine XW.ret (r := none) ⟨rfl, by decide +kernel⟩ ?_
        rw [gPx_0]
        unfold g0
        rw [if_pos (Or.inr ⟨by omega, by omega⟩)]
        exact ⟨rfl, QM_wk hqQ8 (by omega)⟩
    | false =>
      have gk2 : ¬ (¬ (tk).toInt = 40) := icF (c := .ne) (a := (tk).toInt) (b := 40) rfl (by decide) k2
      refine XW.fam (S' := (33, [(0, .ref 94)], [], (sh, I, L, R))) (M := mr_286) rfl (show mcode 286 30 = some (30, .if_icmp .ne 32, 3, 62, 0, 0, _) from rfl) (Or.inr (Or.inl ⟨33, [], by simp [brn, k2], rfl⟩)) ?_
      by_cases h8 : 8 ≤ o
      · skip
        refine XW.fam (S' := (34, [(0, .ref 94)], [.ref 94], (sh, I, L, R))) (M := mr_286) rfl (show mcode 286 33 = some (33, .aload_n 0, 1, 0, 0, 0, _) from rfl) (Or.inl ⟨.ref 94, rfl, rfl⟩) ?_
        refine XW.call (d' := d + 3) (mc' := 0) (ms' := 0) (av := [.ref 94]) (rest := []) (M := mr_286) (Ma := mr_288) rfl (show mcode 286 34 = some (34, .invokevirtual 399, 3, 288, 0, 0, _) from rfl) rfl (by decide) (by decide) ⟨rfl, 94, _, rfl, c94⟩ rfl rfl (show 0 ≤ 8 by decide) (tc_opN (d := d) (h2 := h + 1) (c2 := 0) hB hq (by omega)) (by omega) (Nat.zero_le _) (Nat.zero_le _) (fun rQ9 wQ9 Q9 => ?_)
        obtain ⟨hrQ9, hqQ9⟩ := Q9
        subst hrQ9
        obtain ⟨shQ9, IQ9, LQ9, RQ9⟩ := wQ9
        obtain rfl : sh = shQ9 := hqQ9.2.1.2.2.2.1.symm
        obtain rfl : R = RQ9 := hqQ9.2.1.2.2.2.2.1.symm
        refine XW.fam (S' := (40, [(0, .ref 94)], [], (sh, IQ9, LQ9, R))) (M := mr_286) rfl (show mcode 286 37 = some (37, .ifCond .ne 4, 3, 41, 0, 0, _) from rfl) (Or.inr (Or.inl ⟨40, [], rfl, rfl⟩)) ?_
        refine XW.ret (r := none) ⟨rfl, by decide +kernel⟩ ?_
        rw [gPx_0]
        unfold g0
        rw [if_neg (by omega), if_pos (by omega), if_pos (by omega)]
        exact ⟨rfl, QM_wk hqQ9 (by omega)⟩
      · skip
        refine XW.fam (S' := (34, [(0, .ref 94)], [.ref 94], (sh, I, L, R))) (M := mr_286) rfl (show mcode 286 33 = some (33, .aload_n 0, 1, 0, 0, 0, _) from rfl) (Or.inl ⟨.ref 94, rfl, rfl⟩) ?_
        refine XW.call (d' := d + 3) (mc' := 0) (ms' := 0) (av := [.ref 94]) (rest := []) (M := mr_286) (Ma := mr_288) rfl (show mcode 286 34 = some (34, .invokevirtual 399, 3, 288, 0, 0, _) from rfl) rfl (by decide) (by decide) ⟨rfl, 94, _, rfl, c94⟩ rfl rfl (show 0 ≤ 8 by decide) (tc_opY (d := d) (h2 := 0) (c2 := c + 1) hB hq (by omega) (lt_N hN hle (by omega)) rfl) (by omega) (Nat.zero_le _) (Nat.zero_le _) (fun rQ10 wQ10 Q10 => ?_)
        obtain ⟨hrQ10, hqQ10⟩ := Q10
        subst hrQ10
        obtain ⟨shQ10, IQ10, LQ10, RQ10⟩ := wQ10
        obtain rfl : sh = shQ10 := hqQ10.2.1.2.2.2.1.symm
        obtain rfl : R = RQ10 := hqQ10.2.1.2.2.2.2.1.symm
        refine XW.fam (S' := (41, [(0, .ref 94)], [], (sh, IQ10, LQ10, R))) (M := mr_286) rfl (show mcode 286 37 = some (37, .ifCond .ne 4, 3, 41, 0, 0, _) from rfl) (Or.inr (Or.inl ⟨41, [], rfl, rfl⟩)) ?_
        refine XW.fam (S' := (42, [(0, .ref 94)], [.ref 94], (sh, IQ10, LQ10, R))) (M := mr_286) rfl (show mcode 286 41 = some (41, .aload_n 0, 1, 0, 0, 0, _) from rfl) (Or.inl ⟨.ref 94, rfl, rfl⟩) ?_
        refine XW.call (d' := (d + 4 + (6 * (8 - (o + 1)) + 3))) (mc' := 0) (ms' := 0) (av := [.ref 94]) (rest := []) (M := mr_286) (Ma := mr_284) rfl (show mcode 286 42 = some (42, .invokevirtual 403, 3, 284, 0, 0, _) from rfl) rfl (by decide) (by decide) ⟨rfl, 94, _, rfl, c94⟩ rfl rfl (show 0 ≤ 8 by decide) (Hs (o + 1) (i + 1) h c (by omega) (QM_wk hqQ10 (by omega)) (by omega) (by omega) (by omega)) (by omega) (Nat.zero_le _) (Nat.zero_le _) (fun rQ11 wQ11 Q11 => ?_)
        obtain ⟨hrQ11, hqQ11⟩ := Q11
        subst hrQ11
        obtain ⟨shQ11, IQ11, LQ11, RQ11⟩ := wQ11
        obtain rfl : sh = shQ11 := hqQ11.2.1.2.2.2.1.symm
        obtain rfl : R = RQ11 := hqQ11.2.1.2.2.2.2.1.symm
        have hgo := (gPx_ok hN f (o + 1) (i + 1) (lt_N hN hle (by omega))).1 4 (by omega)
        cases e : (gPx (tK b n) f 4 (o + 1) (i + 1)).1 with
        | true =>
          have hst2 : mStt b n N IQ11 (o + 1) (h + 1) (gPx (tK b n) f 4 (o + 1) (i + 1)).2 := hqQ11.2.2.2.2.1 e
          have hle2 := hgo.2.1
          have hqt := QM_t e hqQ11
          obtain ⟨fl2, efl2⟩ : ∃ z : Int32, IQ11 94 50 = z := ⟨_, rfl⟩
          have hfl2 : fl2.toInt = -1 := by rw [← efl2]; exact hst2.2.1
          by_cases hcl : tK b n (gPx (tK b n) f 4 (o + 1) (i + 1)).2 = 41
          · skip
            refine XW.fam (S' := (46, [(0, .ref 94)], [.ref 94], (sh, IQ11, LQ11, R))) (M := mr_286) rfl (show mcode 286 45 = some (45, .aload_n 0, 1, 0, 0, 0, _) from rfl) (Or.inl ⟨.ref 94, rfl, rfl⟩) ?_
            refine XW.fam (S' := (49, [(0, .ref 94)], [.int (IQ11 94 50)], (sh, IQ11, LQ11, R))) (M := mr_286) rfl (show mcode 286 46 = some (46, .getfield 370, 3, 12, 50, 0, _) from rfl) (Or.inr (Or.inr (Or.inr (Or.inr (Or.inr (Or.inr (Or.inr (Or.inl ⟨_, _, rfl, fl_ldI c94 (by decide) (by decide), rfl⟩)))))))) ?_
            rw [efl2]
            have k12 : bcmp .ge fl2 0 = false := bcF (c := .ge) (a := (fl2).toInt) (b := 0) rfl (by decide) (by show ¬ (0 ≤ (fl2).toInt); omega)
            refine XW.fam (S' := (52, [(0, .ref 94)], [], (sh, IQ11, LQ11, R))) (M := mr_286) rfl (show mcode 286 49 = some (49, .ifCond .ge 12, 3, 61, 0, 0, _) from rfl) (Or.inr (Or.inl ⟨52, [], by simp [brn, k12], rfl⟩)) ?_
            refine XW.fam (S' := (53, [(0, .ref 94)], [.ref 94], (sh, IQ11, LQ11, R))) (M := mr_286) rfl (show mcode 286 52 = some (52, .aload_n 0, 1, 0, 0, 0, _) from rfl) (Or.inl ⟨.ref 94, rfl, rfl⟩) ?_
            refine XW.fam (S' := (55, [(0, .ref 94)], [.int 41, .ref 94], (sh, IQ11, LQ11, R))) (M := mr_286) rfl (show mcode 286 53 = some (53, .bipush 41, 2, 0, 0, 0, _) from rfl) (Or.inl ⟨.int 41, rfl, rfl⟩) ?_
            refine XW.call (d' := d + 3) (mc' := 0) (ms' := 0) (av := [.ref 94, .int 41]) (rest := []) (M := mr_286) (Ma := mr_289) rfl (show mcode 286 55 = some (55, .invokevirtual 406, 3, 289, 0, 0, _) from rfl) rfl (by decide) (by decide) ⟨rfl, 94, _, rfl, c94⟩ rfl rfl (show 0 ≤ 8 by decide) (tc_clYm (d := d) (h2 := 0) (c2 := c + 1) (sv := 41) hB (by omega) hqt rfl (by decide) (by decide) (by decide) hcl (lt_N hN hle2 (by omega)) rfl) (by omega) (Nat.zero_le _) (Nat.zero_le _) (fun rQ13 wQ13 Q13 => ?_)
            obtain ⟨hrQ13, hqQ13⟩ := Q13
            subst hrQ13
            obtain ⟨shQ13, IQ13, LQ13, RQ13⟩ := wQ13
            obtain rfl : sh = shQ13 := hqQ13.2.1.2.2.2.1.symm
            obtain rfl : R = RQ13 := hqQ13.2.1.2.2.2.2.1.symm
            refine XW.fam (S' := (61, [(0, .ref 94)], [], (sh, IQ13, LQ13, R))) (M := mr_286) rfl (show mcode 286 58 = some (58, .ifCond .eq 31, 3, 89, 0, 0, _) from rfl) (Or.inr (Or.inl ⟨61, [], rfl, rfl⟩)) ?_
            refine XW.ret (r := none) ⟨rfl, by decide +kernel⟩ ?_
            rw [gPx_0]
            unfold g0
            rw [if_neg (by omega), if_pos (by omega), if_neg (by omega)]
            rw [gB_t e, if_pos hcl]
            exact ⟨rfl, QM_wk hqQ13 (by omega)⟩
          · skip
            refine XW.fam (S' := (46, [(0, .ref 94)], [.ref 94], (sh, IQ11, LQ11, R))) (M := mr_286) rfl (show mcode 286 45 = some (45, .aload_n 0, 1, 0, 0, 0, _) from rfl) (Or.inl ⟨.ref 94, rfl, rfl⟩) ?_
            refine XW.fam (S' := (49, [(0, .ref 94)], [.int (IQ11 94 50)], (sh, IQ11, LQ11, R))) (M := mr_286) rfl (show mcode 286 46 = some (46, .getfield 370, 3, 12, 50, 0, _) from rfl) (Or.inr (Or.inr (Or.inr (Or.inr (Or.inr (Or.inr (Or.inr (Or.inl ⟨_, _, rfl, fl_ldI c94 (by decide) (by decide), rfl⟩)))))))) ?_
            rw [efl2]
            have k14 : bcmp .ge fl2 0 = false := bcF (c := .ge) (a := (fl2).toInt) (b := 0) rfl (by decide) (by show ¬ (0 ≤ (fl2).toInt); omega)
            refine XW.fam (S' := (52, [(0, .ref 94)], [], (sh, IQ11, LQ11, R))) (M := mr_286) rfl (show mcode 286 49 = some (49, .ifCond .ge 12, 3, 61, 0, 0, _) from rfl) (Or.inr (Or.inl ⟨52, [], by simp [brn, k14], rfl⟩)) ?_
            refine XW.fam (S' := (53, [(0, .ref 94)], [.ref 94], (sh, IQ11, LQ11, R))) (M := mr_286) rfl (show mcode 286 52 = some (52, .aload_n 0, 1, 0, 0, 0, _) from rfl) (Or.inl ⟨.ref 94, rfl, rfl⟩) ?_
            refine XW.fam (S' := (55, [(0, .ref 94)], [.int 41, .ref 94], (sh, IQ11, LQ11, R))) (M := mr_286) rfl (show mcode 286 53 = some (53, .bipush 41, 2, 0, 0, 0, _) from rfl) (Or.inl ⟨.int 41, rfl, rfl⟩) ?_
            refine XW.call (d' := d + 3) (mc' := 0) (ms' := 0) (av := [.ref 94, .int 41]) (rest := []) (M := mr_286) (Ma := mr_289) rfl (show mcode 286 55 = some (55, .invokevirtual 406, 3, 289, 0, 0, _) from rfl) rfl (by decide) (by decide) ⟨rfl, 94, _, rfl, c94⟩ rfl rfl (show 0 ≤ 8 by decide) (tc_clNm (d := d) (h2 := h + 1) (c2 := 0) (sv := 41) hB (by omega) hqt rfl (by decide) (by decide) (by decide) hcl) (by omega) (Nat.zero_le _) (Nat.zero_le _) (fun rQ15 wQ15 Q15 => ?_)
            obtain ⟨hrQ15, hqQ15⟩ := Q15
            subst hrQ15
            obtain ⟨shQ15, IQ15, LQ15, RQ15⟩ := wQ15
            obtain rfl : sh = shQ15 := hqQ15.2.1.2.2.2.1.symm
            obtain rfl : R = RQ15 := hqQ15.2.1.2.2.2.2.1.symm
            refine XW.fam (S' := (89, [(0, .ref 94)], [], (sh, IQ15, LQ15, R))) (M := mr_286) rfl (show mcode 286 58 = some (58, .ifCond .eq 31, 3, 89, 0, 0, _) from rfl) (Or.inr (Or.inl ⟨89, [], rfl, rfl⟩)) ?_
            refine XW.ret (r := none) ⟨rfl, by decide +kernel⟩ ?_
            rw [gPx_0]
            unfold g0
            rw [if_neg (by omega), if_pos (by omega), if_neg (by omega)]
            rw [gB_t e, if_neg hcl]
            exact ⟨rfl, QM_wk hqQ15 (by omega)⟩
        | false =>
          obtain ⟨fl3, efl3⟩ : ∃ z : Int32, IQ11 94 50 = z := ⟨_, rfl⟩
          have hfl3 : fl3.toInt = (tS b n (gPx (tK b n) f 4 (o + 1) (i + 1)).2 : Int) := by rw [← efl3]; exact (hqQ11.2.2.2.2.2 e).1
          have hqf : QM sh R J b n N o (h + 1) c (gPx (tK b n) f 4 (o + 1) (i + 1)) (sh, IQ11, LQ11, R) := QM_fw hqQ11 e (by omega) (by omega)
          refine XW.fam (S' := (46, [(0, .ref 94)], [.ref 94], (sh, IQ11, LQ11, R))) (M := mr_286) rfl (show mcode 286 45 = some (45, .aload_n 0, 1, 0, 0, 0, _) from rfl) (Or.inl ⟨.ref 94, rfl, rfl⟩) ?_
          refine XW.fam (S' := (49, [(0, .ref 94)], [.int (IQ11 94 50)], (sh, IQ11, LQ11, R))) (M := mr_286) rfl (show mcode 286 46 = some (46, .getfield 370, 3, 12, 50, 0, _) from rfl) (Or.inr (Or.inr (Or.inr (Or.inr (Or.inr (Or.inr (Or.inr (Or.inl ⟨_, _, rfl, fl_ldI c94 (by decide) (by decide), rfl⟩)))))))) ?_
          rw [efl3]
          have k16 : bcmp .ge fl3 0 = true := bcT (c := .ge) (a := (fl3).toInt) (b := 0) rfl (by decide) (by show 0 ≤ (fl3).toInt; omega)
          refine XW.fam (S' := (61, [(0, .ref 94)], [], (sh, IQ11, LQ11, R))) (M := mr_286) rfl (show mcode 286 49 = some (49, .ifCond .ge 12, 3, 61, 0, 0, _) from rfl) (Or.inr (Or.inl ⟨61, [], by simp [brn, k16], rfl⟩)) ?_
          refine XW.ret (r := none) ⟨rfl, by decide +kernel⟩ ?_
          rw [gPx_0]
          unfold g0
          rw [if_neg (by omega), if_pos (by omega), if_neg (by omega)]
          rw [gB_f e]
          exact ⟨rfl, QM_wk hqf (by omega)⟩
  | false =>
    have gk1 : ¬ (¬ (tk).toInt = 2) := icF (c := .ne) (a := (tk).toInt) (b := 2) rfl (by decide) k1
    refine XW.fam (S' := (8, [(0, .ref 94)], [], (sh, I, L, R))) (M := mr_286) rfl (show mcode 286 5 = some (5, .if_icmp .ne 19, 3, 24, 0, 0, _) from rfl) (Or.inr (Or.inl ⟨8, [], by simp [brn, k1], rfl⟩)) ?_
    refine XW.fam (S' := (9, [(0, .ref 94)], [.ref 94], (sh, I, L, R))) (M := mr_286) rfl (show mcode 286 8 = some (8, .aload_n 0, 1, 0, 0, 0, _) from rfl) (Or.inl ⟨.ref 94, rfl, rfl⟩) ?_
    refine XW.fam (S' := (10, [(0, .ref 94)], [.int 1, .ref 94], (sh, I, L, R))) (M := mr_286) rfl (show mcode 286 9 = some (9, .iconst 1, 1, 0, 0, 0, _) from rfl) (Or.inl ⟨.int 1, rfl, rfl⟩) ?_
    refine XW.fam (S' := (11, [(0, .ref 94)], [.ref 94, .int 1, .ref 94], (sh, I, L, R))) (M := mr_286) rfl (show mcode 286 10 = some (10, .aload_n 0, 1, 0, 0, 0, _) from rfl) (Or.inl ⟨.ref 94, rfl, rfl⟩) ?_
    refine XW.fam (S' := (14, [(0, .ref 94)], [.int (I 94 49), .int 1, .ref 94], (sh, I, L, R))) (M := mr_286) rfl (show mcode 286 11 = some (11, .getfield 363, 3, 12, 49, 0, _) from rfl) (Or.inr (Or.inr (Or.inr (Or.inr (Or.inr (Or.inr (Or.inr (Or.inl ⟨_, _, rfl, fl_ldI c94 (by decide) (by decide), rfl⟩)))))))) ?_
    rw [evl]
    refine XW.call (d' := d) (mc' := 0) (ms' := 0) (av := [.ref 94, .int 1, .int vl]) (rest := []) (M := mr_286) (Ma := mr_287) rfl (show mcode 286 14 = some (14, .invokevirtual 395, 3, 287, 0, 0, _) from rfl) rfl (by decide) (by decide) ⟨rfl, 94, _, rfl, c94⟩ rfl rfl (show 0 ≤ 8 by decide) (tc_layQ (d := d) (h2 := (h + 1)) (c2 := (c - 1)) hB hq (by decide) (fun _ => by have := lay_1; omega) (fun _ => by have := lay_1; omega) (by omega) (fun z => absurd z (by decide)) (by omega) (by omega)) (by omega) (Nat.zero_le _) (Nat.zero_le _) (fun rQ17 wQ17 Q17 => ?_)
    obtain ⟨hrQ17, hqQ17⟩ := Q17
    subst hrQ17
    obtain ⟨shQ17, IQ17, LQ17, RQ17⟩ := wQ17
    obtain rfl : sh = shQ17 := hqQ17.2.1.2.2.2.1.symm
    obtain rfl : R = RQ17 := hqQ17.2.1.2.2.2.2.1.symm
    refine XW.fam (S' := (18, [(0, .ref 94)], [.ref 94], (sh, IQ17, LQ17, R))) (M := mr_286) rfl (show mcode 286 17 = some (17, .aload_n 0, 1, 0, 0, 0, _) from rfl) (Or.inl ⟨.ref 94, rfl, rfl⟩) ?_
    refine XW.call (d' := d + 2) (mc' := 0) (ms' := 0) (av := [.ref 94]) (rest := []) (M := mr_286) (Ma := mr_278) rfl (show mcode 286 18 = some (18, .invokevirtual 385, 3, 278, 0, 0, _) from rfl) rfl (by decide) (by decide) ⟨rfl, 94, _, rfl, c94⟩ rfl rfl (show 0 ≤ 8 by decide) (tc_nxtM (d := d) (c2 := c) hB hqQ17 (lt_N hN hle (by omega)) (by omega)) (by omega) (Nat.zero_le _) (Nat.zero_le _) (fun rQ18 wQ18 Q18 => ?_)
    obtain ⟨hrQ18, hqQ18⟩ := Q18
    subst hrQ18
    obtain ⟨shQ18, IQ18, LQ18, RQ18⟩ := wQ18
    obtain rfl : sh = shQ18 := hqQ18.2.1.2.2.2.1.symm
    obtain rfl : R = RQ18 := hqQ18.2.1.2.2.2.2.1.symm
    refine XW.fam (S' := (89, [(0, .ref 94)], [], (sh, IQ18, LQ18, R))) (M := mr_286) rfl (show mcode 286 21 = some (21, .goto 68, 3, 89, 0, 0, _) from rfl) (Or.inr (Or.inl ⟨89, [], rfl, rfl⟩)) ?_
    refine XW.ret (r := none) ⟨rfl, by decide +kernel⟩ ?_
    rw [gPx_0]
    unfold g0
    rw [if_pos (Or.inl (by omega))]
    exact ⟨rfl, QM_wk hqQ18 (by omega)⟩
theorem prd_outM {d : Nat} {sh : List mE} {I : Nat → Nat → Int32} {L : Nat → Nat → Int64} {R : Nat → Nat → Option Nat} {Q : Option Value → mW → Prop} (hw : wOK (mkT vV []) (wE sh R) (sh, I, L, R)) (h8 : 0 ≤ (I 94 50).toInt) (hQ : Q none (sh, I, L, R)) : XW 285 mr_285 none d 0 0 Q (4, [(0, .ref 94)], [], (sh, I, L, R)) := by
  have c94 : sh[94]? = some (.inr 12) := hw.1 94 _ rfl
  have z0 : (0 : Int32).toInt = 0 := rfl
  refine XW.fam (S' := (5, [(0, .ref 94)], [.ref 94], (sh, I, L, R))) (M := mr_285) rfl (show mcode 285 4 = some (4, .aload_n 0, 1, 0, 0, 0, _) from rfl) (Or.inl ⟨.ref 94, rfl, rfl⟩) ?_
  refine XW.fam (S' := (8, [(0, .ref 94)], [.int (I 94 50)], (sh, I, L, R))) (M := mr_285) rfl (show mcode 285 5 = some (5, .getfield 370, 3, 12, 50, 0, _) from rfl) (Or.inr (Or.inr (Or.inr (Or.inr (Or.inr (Or.inr (Or.inr (Or.inl ⟨_, _, rfl, fl_ldI c94 (by decide) (by decide), rfl⟩)))))))) ?_
  have k1 : bcmp .ge (I 94 50) 0 = true := bcT (c := .ge) (a := ((I 94 50)).toInt) (b := 0) rfl (by decide) (by show 0 ≤ ((I 94 50)).toInt; omega)
  refine XW.fam (S' := (51, [(0, .ref 94)], [], (sh, I, L, R))) (M := mr_285) rfl (show mcode 285 8 = some (8, .ifCond .ge 43, 3, 51, 0, 0, _) from rfl) (Or.inr (Or.inl ⟨51, [], by simp [brn, k1], rfl⟩)) ?_
  refine XW.ret (r := none) ⟨rfl, by decide +kernel⟩ ?_
  exact hQ
theorem prd_lpM {d o : Nat} {sh : List mE} {J : Nat → Nat → Int32} {R : Nat → Nat → Option Nat} {b : Nat → Int} {n N : Nat} (hB : mBs J b n N) (ho : o ≤ 8) : ∀ (f : Nat) {I : Nat → Nat → Int32} {L : Nat → Nat → Int64} (i h : Nat) (c : Int), (∀ f2, f2 < f → CTm sh R J b n N d 286 1 0 f2) → QM sh R J b n N o (h + 1) c (true, i) (sh, I, L, R) → 0 ≤ c → h + 1 ≤ i → 10 * (N - i) + (1 + 1) ≤ f → XW 285 mr_285 none (d + 4 + (6 * (8 - o) + 2)) 0 0 (QMT sh R J b n N o (h + 1) c (gPx (tK b n) f 1 o i)) (4, [(0, .ref 94)], [], (sh, I, L, R)) := by
  have z0 : (0 : Int32).toInt = 0 := rfl
  have z42 : (42 : Int32).toInt = 42 := rfl
  have z47 : (47 : Int32).toInt = 47 := rfl
  intro f
  induction f with
  | zero =>
    intro I L i h c H0 hq hc0 hhi hmu
    exfalso
    omega
  | succ f ih =>
    intro I L i h c H0 hq hc0 hhi hmu
    obtain ⟨hf, hw, hk, hs0, hs1, hs2⟩ := id hq
    have hk : ∀ q k, inm mdM q k = false → I q k = J q k := hk
    have hst : mStt b n N I o (h + 1) i := hs1 rfl
    have hle : i ≤ N := hst.2.2.2.2.2
    have hN := hB.2.1.1
    have hN2 := hB.2.1.2
    have hlt : ¬ tK b n i = 302 → i < N := lt_N hN hle
    have hsl : (I 94 53).toInt + c ≤ (i : Int) := hs0.1
    have c94 : sh[94]? = some (.inr 12) := hw.1 94 _ rfl
    obtain ⟨fl, efl⟩ : ∃ z : Int32, I 94 50 = z := ⟨_, rfl⟩
    have hfl : fl.toInt = -1 := by rw [← efl]; exact hst.2.1
    obtain ⟨tk, etk⟩ : ∃ z : Int32, I 94 48 = z := ⟨_, rfl⟩
    have htk : tk.toInt = mtok b n (tS b n i) := by rw [← etk]; exact hst.1.2.2
    have m42 : mtok b n (tS b n i) = 42 ↔ tK b n i = 42 := mtok_sign hB.2.2.2 (by decide) (by decide) (by decide)
    have m47 : mtok b n (tS b n i) = 47 ↔ tK b n i = 47 := mtok_sign hB.2.2.2 (by decide) (by decide) (by decide)
    refine XW.fam (S' := (5, [(0, .ref 94)], [.ref 94], (sh, I, L, R))) (M := mr_285) rfl (show mcode 285 4 = some (4, .aload_n 0, 1, 0, 0, 0, _) from rfl) (Or.inl ⟨.ref 94, rfl, rfl⟩) ?_
    refine XW.fam (S' := (8, [(0, .ref 94)], [.int (I 94 50)], (sh, I, L, R))) (M := mr_285) rfl (show mcode 285 5 = some (5, .getfield 370, 3, 12, 50, 0, _) from rfl) (Or.inr (Or.inr (Or.inr (Or.inr (Or.inr (Or.inr (Or.inr (Or.inl ⟨_, _, rfl, fl_ldI c94 (by decide) (by decide), rfl⟩)))))))) ?_
    rw [efl]
    have k1 : bcmp .ge fl 0 = false := bcF (c := .ge) (a := (fl).toInt) (b := 0) rfl (by decide) (by show ¬ (0 ≤ (fl).toInt); omega)
    refine XW.fam (S' := (11, [(0, .ref 94)], [], (sh, I, L, R))) (M := mr_285) rfl (show mcode 285 8 = some (8, .ifCond .ge 43, 3, 51, 0, 0, _) from rfl) (Or.inr (Or.inl ⟨11, [], by simp [brn, k1], rfl⟩)) ?_
    refine XW.fam (S' := (12, [(0, .ref 94)], [.ref 94], (sh, I, L, R))) (M := mr_285) rfl (show mcode 285 11 = some (11, .aload_n 0, 1, 0, 0, 0, _) from rfl) (Or.inl ⟨.ref 94, rfl, rfl⟩) ?_
    refine XW.fam (S' := (15, [(0, .ref 94)], [.int (I 94 48)], (sh, I, L, R))) (M := mr_285) rfl (show mcode 285 12 = some (12, .getfield 354, 3, 12, 48, 0, _) from rfl) (Or.inr (Or.inr (Or.inr (Or.inr (Or.inr (Or.inr (Or.inr (Or.inl ⟨_, _, rfl, fl_ldI c94 (by decide) (by decide), rfl⟩)))))))) ?_
    rw [etk]
    refine XW.fam (S' := (17, [(0, .ref 94)], [.int 42, .int tk], (sh, I, L, R))) (M := mr_285) rfl (show mcode 285 15 = some (15, .bipush 42, 2, 0, 0, 0, _) from rfl) (Or.inl ⟨.int 42, rfl, rfl⟩) ?_
    cases k2 : bcmp .eq tk 42 with
    | true =>
      have gk2 : (tk).toInt = 42 := icT (c := .eq) (a := (tk).toInt) (b := 42) rfl (by decide) k2
      refine XW.fam (S' := (29, [(0, .ref 94)], [], (sh, I, L, R))) (M := mr_285) rfl (show mcode 285 17 = some (17, .if_icmp .eq 12, 3, 29, 0, 0, _) from rfl) (Or.inr (Or.inl ⟨29, [], by simp [brn, k2], rfl⟩)) ?_
      refine XW.fam (S' := (30, [(0, .ref 94)], [.ref 94], (sh, I, L, R))) (M := mr_285) rfl (show mcode 285 29 = some (29, .aload_n 0, 1, 0, 0, 0, _) from rfl) (Or.inl ⟨.ref 94, rfl, rfl⟩) ?_
      refine XW.fam (S' := (33, [(0, .ref 94)], [.int (I 94 48)], (sh, I, L, R))) (M := mr_285) rfl (show mcode 285 30 = some (30, .getfield 354, 3, 12, 48, 0, _) from rfl) (Or.inr (Or.inr (Or.inr (Or.inr (Or.inr (Or.inr (Or.inr (Or.inl ⟨_, _, rfl, fl_ldI c94 (by decide) (by decide), rfl⟩)))))))) ?_
      rw [etk]
      refine XW.fam (S' := (34, [(1, .int tk), (0, .ref 94)], [], (sh, I, L, R))) (M := mr_285) rfl (show mcode 285 33 = some (33, .istore_n 1, 1, 0, 0, 0, _) from rfl) (Or.inr (Or.inr (Or.inr (Or.inr (Or.inr (Or.inr (Or.inl ⟨_, [], _, rfl, rfl, rfl⟩))))))) ?_
      refine XW.fam (S' := (35, [(1, .int tk), (0, .ref 94)], [.ref 94], (sh, I, L, R))) (M := mr_285) rfl (show mcode 285 34 = some (34, .aload_n 0, 1, 0, 0, 0, _) from rfl) (Or.inl ⟨.ref 94, rfl, rfl⟩) ?_
      refine XW.call (d' := d + 2) (mc' := 0) (ms' := 0) (av := [.ref 94]) (rest := []) (M := mr_285) (Ma := mr_278) rfl (show mcode 285 35 = some (35, .invokevirtual 385, 3, 278, 0, 0, _) from rfl) rfl (by decide) (by decide) ⟨rfl, 94, _, rfl, c94⟩ rfl rfl (show 0 ≤ 8 by decide) (tc_nxtM (d := d) (c2 := (c + 1)) hB hq (lt_N hN hle (by omega)) (by omega)) (by omega) (Nat.zero_le _) (Nat.zero_le _) (fun rQ3 wQ3 Q3 => ?_)
      obtain ⟨hrQ3, hqQ3⟩ := Q3
      subst hrQ3
      obtain ⟨shQ3, IQ3, LQ3, RQ3⟩ := wQ3
      obtain rfl : sh = shQ3 := hqQ3.2.1.2.2.2.1.symm
      obtain rfl : R = RQ3 := hqQ3.2.1.2.2.2.2.1.symm
      refine XW.fam (S' := (39, [(1, .int tk), (0, .ref 94)], [.ref 94], (sh, IQ3, LQ3, R))) (M := mr_285) rfl (show mcode 285 38 = some (38, .aload_n 0, 1, 0, 0, 0, _) from rfl) (Or.inl ⟨.ref 94, rfl, rfl⟩) ?_
      refine XW.call (d' := (d + 4 + (6 * (8 - o) + 1))) (mc' := 0) (ms' := 0) (av := [.ref 94]) (rest := []) (M := mr_285) (Ma := mr_286) rfl (show mcode 285 39 = some (39, .invokevirtual 413, 3, 286, 0, 0, _) from rfl) rfl (by decide) (by decide) ⟨rfl, 94, _, rfl, c94⟩ rfl rfl (show 0 ≤ 8 by decide) (H0 f (by omega) o (i + 1) (h + 1) (c + 1) ho hqQ3 (by omega) (by omega) (by have := lt_N hN hle (by omega); omega)) (by omega) (Nat.zero_le _) (Nat.zero_le _) (fun rQ4 wQ4 Q4 => ?_)
      obtain ⟨hrQ4, hqQ4⟩ := Q4
      subst hrQ4
      obtain ⟨shQ4, IQ4, LQ4, RQ4⟩ := wQ4
      obtain rfl : sh = shQ4 := hqQ4.2.1.2.2.2.1.symm
      obtain rfl : R = RQ4 := hqQ4.2.1.2.2.2.2.1.symm
      refine XW.fam (S' := (43, [(1, .int tk), (0, .ref 94)], [.ref 94], (sh, IQ4, LQ4, R))) (M := mr_285) rfl (show mcode 285 42 = some (42, .aload_n 0, 1, 0, 0, 0, _) from rfl) (Or.inl ⟨.ref 94, rfl, rfl⟩) ?_
      refine XW.fam (S' := (44, [(1, .int tk), (0, .ref 94)], [.int tk, .ref 94], (sh, IQ4, LQ4, R))) (M := mr_285) rfl (show mcode 285 43 = some (43, .iload_n 1, 1, 0, 0, 0, _) from rfl) (Or.inl ⟨.int tk, rfl, rfl⟩) ?_
      refine XW.fam (S' := (45, [(1, .int tk), (0, .ref 94)], [.int 0, .int tk, .ref 94], (sh, IQ4, LQ4, R))) (M := mr_285) rfl (show mcode 285 44 = some (44, .iconst 0, 1, 0, 0, 0, _) from rfl) (Or.inl ⟨.int 0, rfl, rfl⟩) ?_
      refine XW.call (d' := d) (mc' := 0) (ms' := 0) (av := [.ref 94, .int tk, .int 0]) (rest := []) (M := mr_285) (Ma := mr_287) rfl (show mcode 285 45 = some (45, .invokevirtual 395, 3, 287, 0, 0, _) from rfl) rfl (by decide) (by decide) ⟨rfl, 94, _, rfl, c94⟩ rfl rfl (show 0 ≤ 8 by decide) (tc_layQ (d := d) (h2 := (h + 1)) (c2 := c) hB hqQ4 ⟨by omega, by omega⟩ (fun _ => by have := lay_hi (x := (tk : Int32).toInt) (by omega); omega) (fun _ => by have := lay_hi (x := (tk : Int32).toInt) (by omega); omega) (by omega) (fun z => by omega) (by omega) (by omega)) (by omega) (Nat.zero_le _) (Nat.zero_le _) (fun rQ5 wQ5 Q5 => ?_)
      obtain ⟨hrQ5, hqQ5⟩ := Q5
      subst hrQ5
      obtain ⟨shQ5, IQ5, LQ5, RQ5⟩ := wQ5
      obtain rfl : sh = shQ5 := hqQ5.2.1.2.2.2.1.symm
      obtain rfl : R = RQ5 := hqQ5.2.1.2.2.2.2.1.symm
      refine XW.fam (S' := (4, [(1, .int tk), (0, .ref 94)], [], (sh, IQ5, LQ5, R))) (M := mr_285) rfl (show mcode 285 48 = some (48, .goto (-44), 3, 4, 0, 0, _) from rfl) (Or.inr (Or.inl ⟨4, [], rfl, rfl⟩)) ?_
      refine XW.sub (ls' := [(0, .ref 94)]) (List.forall_mem_cons.mpr ⟨List.mem_of_getElem? (i := 1) rfl, (fun _ h => absurd h List.not_mem_nil)⟩) ?_
      have hgo := (gPx_ok hN f o (i + 1) (by have := lt_N hN hle (by omega); omega)).1 0 (by omega)
      have eg : (gPx (tK b n) (f + 1) 1 o i) = gB (gPx (tK b n) f 0 o (i + 1)) (gPx (tK b n) f 1 o) := by
        rw [gPx_1]
        unfold gLp
        exact if_pos (decide_eq_true (show tK b n i = 42 ∨ tK b n i = 47 by omega))
      rw [eg]
      cases e : (gPx (tK b n) f 0 o (i + 1)).1 with
      | true =>
        rw [gB_t e]
        have g1 := hgo.1
        have g2 := hgo.2.2 e rfl
        have g3 := hgo.2.1
        exact ih (gPx (tK b n) f 0 o (i + 1)).2 h c (fun f2 h2 => H0 f2 (by omega)) (QM_t e hqQ5) hc0 (by omega) (by omega)
      | false =>
        rw [gB_f e]
        exact prd_outM hqQ5.2.1 (by have h8 := (hqQ5.2.2.2.2.2 e).1; have h9 : (IQ5 94 50).toInt = _ := h8; omega) ⟨rfl, hqQ5⟩
    | false =>
      have gk2 : ¬ ((tk).toInt = 42) := icF (c := .eq) (a := (tk).toInt) (b := 42) rfl (by decide) k2
      refine XW.fam (S' := (20, [(0, .ref 94)], [], (sh, I, L, R))) (M := mr_285) rfl (show mcode 285 17 = some (17, .if_icmp .eq 12, 3, 29, 0, 0, _) from rfl) (Or.inr (Or.inl ⟨20, [], by simp [brn, k2], rfl⟩)) ?_
      refine XW.fam (S' := (21, [(0, .ref 94)], [.ref 94], (sh, I, L, R))) (M := mr_285) rfl (show mcode 285 20 = some (20, .aload_n 0, 1, 0, 0, 0, _) from rfl) (Or.inl ⟨.ref 94, rfl, rfl⟩) ?_
      refine XW.fam (S' := (24, [(0, .ref 94)], [.int (I 94 48)], (sh, I, L, R))) (M := mr_285) rfl (show mcode 285 21 = some (21, .getfield 354, 3, 12, 48, 0, _) from rfl) (Or.inr (Or.inr (Or.inr (Or.inr (Or.inr (Or.inr (Or.inr (Or.inl ⟨_, _, rfl, fl_ldI c94 (by decide) (by decide), rfl⟩)))))))) ?_
      rw [etk]
      refine XW.fam (S' := (26, [(0, .ref 94)], [.int 47, .int tk], (sh, I, L, R))) (M := mr_285) rfl (show mcode 285 24 = some (24, .bipush 47, 2, 0, 0, 0, _) from rfl) (Or.inl ⟨.int 47, rfl, rfl⟩) ?_
      cases k6 : bcmp .ne tk 47 with
      | true =>
        have gk6 : ¬ (tk).toInt = 47 := icT (c := .ne) (a := (tk).toInt) (b := 47) rfl (by decide) k6
        refine XW.fam (S' := (51, [(0, .ref 94)], [], (sh, I, L, R))) (M := mr_285) rfl (show mcode 285 26 = some (26, .if_icmp .ne 25, 3, 51, 0, 0, _) from rfl) (Or.inr (Or.inl ⟨51, [], by simp [brn, k6], rfl⟩)) ?_
        refine XW.ret (r := none) ⟨rfl, by decide +kernel⟩ ?_
        rw [gPx_1]
        unfold gLp
        rw [if_neg (fun q => by have q1 := of_decide_eq_true q; have q2 : tK b n i = 42 ∨ tK b n i = 47 := q1; omega)]
        exact ⟨rfl, QM_wk hq (by omega)⟩
      | false =>
        have gk6 : ¬ (¬ (tk).toInt = 47) := icF (c := .ne) (a := (tk).toInt) (b := 47) rfl (by decide) k6
        refine XW.fam (S' := (29, [(0, .ref 94)], [], (sh, I, L, R))) (M := mr_285) rfl (show mcode 285 26 = some (26, .if_icmp .ne 25, 3, 51, 0, 0, _) from rfl) (Or.inr (Or.inl ⟨29, [], by simp [brn, k6], rfl⟩)) ?_
        refine XW.fam (S' := (30, [(0, .ref 94)], [.ref 94], (sh, I, L, R))) (M := mr_285) rfl (show mcode 285 29 = some (29, .aload_n 0, 1, 0, 0, 0, _) from rfl) (Or.inl ⟨.ref 94, rfl, rfl⟩) ?_
        refine XW.fam (S' := (33, [(0, .ref 94)], [.int (I 94 48)], (sh, I, L, R))) (M := mr_285) rfl (show mcode 285 30 = some (30, .getfield 354, 3, 12, 48, 0, _) from rfl) (Or.inr (Or.inr (Or.inr (Or.inr (Or.inr (Or.inr (Or.inr (Or.inl ⟨_, _, rfl, fl_ldI c94 (by decide) (by decide), rfl⟩)))))))) ?_
        rw [etk]
        refine XW.fam (S' := (34, [(1, .int tk), (0, .ref 94)], [], (sh, I, L, R))) (M := mr_285) rfl (show mcode 285 33 = some (33, .istore_n 1, 1, 0, 0, 0, _) from rfl) (Or.inr (Or.inr (Or.inr (Or.inr (Or.inr (Or.inr (Or.inl ⟨_, [], _, rfl, rfl, rfl⟩))))))) ?_
        refine XW.fam (S' := (35, [(1, .int tk), (0, .ref 94)], [.ref 94], (sh, I, L, R))) (M := mr_285) rfl (show mcode 285 34 = some (34, .aload_n 0, 1, 0, 0, 0, _) from rfl) (Or.inl ⟨.ref 94, rfl, rfl⟩) ?_
        refine XW.call (d' := d + 2) (mc' := 0) (ms' := 0) (av := [.ref 94]) (rest := []) (M := mr_285) (Ma := mr_278) rfl (show mcode 285 35 = some (35, .invokevirtual 385, 3, 278, 0, 0, _) from rfl) rfl (by decide) (by decide) ⟨rfl, 94, _, rfl, c94⟩ rfl rfl (show 0 ≤ 8 by decide) (tc_nxtM (d := d) (c2 := (c + 1)) hB hq (lt_N hN hle (by omega)) (by omega)) (by omega) (Nat.zero_le _) (Nat.zero_le _) (fun rQ7 wQ7 Q7 => ?_)
        obtain ⟨hrQ7, hqQ7⟩ := Q7
        subst hrQ7
        obtain ⟨shQ7, IQ7, LQ7, RQ7⟩ := wQ7
        obtain rfl : sh = shQ7 := hqQ7.2.1.2.2.2.1.symm
        obtain rfl : R = RQ7 := hqQ7.2.1.2.2.2.2.1.symm
        refine XW.fam (S' := (39, [(1, .int tk), (0, .ref 94)], [.ref 94], (sh, IQ7, LQ7, R))) (M := mr_285) rfl (show mcode 285 38 = some (38, .aload_n 0, 1, 0, 0, 0, _) from rfl) (Or.inl ⟨.ref 94, rfl, rfl⟩) ?_
        refine XW.call (d' := (d + 4 + (6 * (8 - o) + 1))) (mc' := 0) (ms' := 0) (av := [.ref 94]) (rest := []) (M := mr_285) (Ma := mr_286) rfl (show mcode 285 39 = some (39, .invokevirtual 413, 3, 286, 0, 0, _) from rfl) rfl (by decide) (by decide) ⟨rfl, 94, _, rfl, c94⟩ rfl rfl (show 0 ≤ 8 by decide) (H0 f (by omega) o (i + 1) (h + 1) (c + 1) ho hqQ7 (by omega) (by omega) (by have := lt_N hN hle (by omega); omega)) (by omega) (Nat.zero_le _) (Nat.zero_le _) (fun rQ8 wQ8 Q8 => ?_)
        obtain ⟨hrQ8, hqQ8⟩ := Q8
        subst hrQ8
        obtain ⟨shQ8, IQ8, LQ8, RQ8⟩ := wQ8
        obtain rfl : sh = shQ8 := hqQ8.2.1.2.2.2.1.symm
        obtain rfl : R = RQ8 := hqQ8.2.1.2.2.2.2.1.symm
        refine XW.fam (S' := (43, [(1, .int tk), (0, .ref 94)], [.ref 94], (sh, IQ8, LQ8, R))) (M := mr_285) rfl (show mcode 285 42 = some (42, .aload_n 0, 1, 0, 0, 0, _) from rfl) (Or.inl ⟨.ref 94, rfl, rfl⟩) ?_
        refine XW.fam (S' := (44, [(1, .int tk), (0, .ref 94)], [.int tk, .ref 94], (sh, IQ8, LQ8, R))) (M := mr_285) rfl (show mcode 285 43 = some (43, .iload_n 1, 1, 0, 0, 0, _) from rfl) (Or.inl ⟨.int tk, rfl, rfl⟩) ?_
        refine XW.fam (S' := (45, [(1, .int tk), (0, .ref 94)], [.int 0, .int tk, .ref 94], (sh, IQ8, LQ8, R))) (M := mr_285) rfl (show mcode 285 44 = some (44, .iconst 0, 1, 0, 0, 0, _) from rfl) (Or.inl ⟨.int 0, rfl, rfl⟩) ?_
        refine XW.call (d' := d) (mc' := 0) (ms' := 0) (av := [.ref 94, .int tk, .int 0]) (rest := []) (M := mr_285) (Ma := mr_287) rfl (show mcode 285 45 = some (45, .invokevirtual 395, 3, 287, 0, 0, _) from rfl) rfl (by decide) (by decide) ⟨rfl, 94, _, rfl, c94⟩ rfl rfl (show 0 ≤ 8 by decide) (tc_layQ (d := d) (h2 := (h + 1)) (c2 := c) hB hqQ8 ⟨by omega, by omega⟩ (fun _ => by have := lay_hi (x := (tk : Int32).toInt) (by omega); omega) (fun _ => by have := lay_hi (x := (tk : Int32).toInt) (by omega); omega) (by omega) (fun z => by omega) (by omega) (by omega)) (by omega) (Nat.zero_le _) (Nat.zero_le _) (fun rQ9 wQ9 Q9 => ?_)
        obtain ⟨hrQ9, hqQ9⟩ := Q9
        subst hrQ9
        obtain ⟨shQ9, IQ9, LQ9, RQ9⟩ := wQ9
        obtain rfl : sh = shQ9 := hqQ9.2.1.2.2.2.1.symm
        obtain rfl : R = RQ9 := hqQ9.2.1.2.2.2.2.1.symm
        refine XW.fam (S' := (4, [(1, .int tk), (0, .ref 94)], [], (sh, IQ9, LQ9, R))) (M := mr_285) rfl (show mcode 285 48 = some (48, .goto (-44), 3, 4, 0, 0, _) from rfl) (Or.inr (Or.inl ⟨4, [], rfl, rfl⟩)) ?_
        refine XW.sub (ls' := [(0, .ref 94)]) (List.forall_mem_cons.mpr ⟨List.mem_of_getElem? (i := 1) rfl, (fun _ h => absurd h List.not_mem_nil)⟩) ?_
        have hgo := (gPx_ok hN f o (i + 1) (by have := lt_N hN hle (by omega); omega)).1 0 (by omega)
        have eg : (gPx (tK b n) (f + 1) 1 o i) = gB (gPx (tK b n) f 0 o (i + 1)) (gPx (tK b n) f 1 o) := by
          rw [gPx_1]
          unfold gLp
          exact if_pos (decide_eq_true (show tK b n i = 42 ∨ tK b n i = 47 by omega))
        rw [eg]
        cases e : (gPx (tK b n) f 0 o (i + 1)).1 with
        | true =>
          rw [gB_t e]
          have g1 := hgo.1
          have g2 := hgo.2.2 e rfl
          have g3 := hgo.2.1
          exact ih (gPx (tK b n) f 0 o (i + 1)).2 h c (fun f2 h2 => H0 f2 (by omega)) (QM_t e hqQ9) hc0 (by omega) (by omega)
        | false =>
          rw [gB_f e]
          exact prd_outM hqQ9.2.1 (by have h8 := (hqQ9.2.2.2.2.2 e).1; have h9 : (IQ9 94 50).toInt = _ := h8; omega) ⟨rfl, hqQ9⟩
theorem prd_ofM {d f : Nat} {sh : List mE} {J : Nat → Nat → Int32} {R : Nat → Nat → Option Nat} {b : Nat → Int} {n N : Nat} (hB : mBs J b n N) (H0 : ∀ f2, f2 < f + 1 → CTm sh R J b n N d 286 1 0 f2) : CTm sh R J b n N d 285 2 2 (f + 1) := by
  intro o i h c I L ho hq hc0 hhi hmu
  obtain ⟨hf, hw, hk, hs0, hs1, hs2⟩ := id hq
  have hk : ∀ q k, inm mdM q k = false → I q k = J q k := hk
  have hst : mStt b n N I o h i := hs1 rfl
  have hle : i ≤ N := hst.2.2.2.2.2
  have hN := hB.2.1.1
  have hN2 := hB.2.1.2
  have hlt : ¬ tK b n i = 302 → i < N := lt_N hN hle
  have hsl : (I 94 53).toInt + c ≤ (i : Int) := hs0.1
  have c94 : sh[94]? = some (.inr 12) := hw.1 94 _ rfl
  refine Tc.of mr_285 rfl (show 1 ≤ mr_285.2.2.2.1 by decide) ?_
  refine XW.fam (S' := (1, [(0, .ref 94)], [.ref 94], (sh, I, L, R))) (M := mr_285) rfl (show mcode 285 0 = some (0, .aload_n 0, 1, 0, 0, 0, _) from rfl) (Or.inl ⟨.ref 94, rfl, rfl⟩) ?_
  refine XW.call (d' := (d + 4 + (6 * (8 - o) + 1))) (mc' := 0) (ms' := 0) (av := [.ref 94]) (rest := []) (M := mr_285) (Ma := mr_286) rfl (show mcode 285 1 = some (1, .invokevirtual 413, 3, 286, 0, 0, _) from rfl) rfl (by decide) (by decide) ⟨rfl, 94, _, rfl, c94⟩ rfl rfl (show 0 ≤ 8 by decide) (H0 f (by omega) o i h c ho hq hc0 hhi (by omega)) (by omega) (Nat.zero_le _) (Nat.zero_le _) (fun rQ1 wQ1 Q1 => ?_)
  obtain ⟨hrQ1, hqQ1⟩ := Q1
  subst hrQ1
  obtain ⟨shQ1, IQ1, LQ1, RQ1⟩ := wQ1
  obtain rfl : sh = shQ1 := hqQ1.2.1.2.2.2.1.symm
  obtain rfl : R = RQ1 := hqQ1.2.1.2.2.2.2.1.symm
  refine XW.sub (ls' := [(0, .ref 94)]) (List.forall_mem_cons.mpr ⟨List.mem_of_getElem? (i := 0) rfl, (fun _ h => absurd h List.not_mem_nil)⟩) ?_
  have hgo := (gPx_ok hN f o i hle).1 0 (by omega)
  rw [gPx_2]
  cases e : (gPx (tK b n) f 0 o i).1 with
  | true =>
    rw [gB_t e]
    have g2 := hgo.2.2 e rfl
    have g3 := hgo.2.1
    exact prd_lpM hB ho f (gPx (tK b n) f 0 o i).2 h c (fun f2 h2 => H0 f2 (by omega)) (QM_t e hqQ1) hc0 (by omega) (by omega)
  | false =>
    rw [gB_f e]
    exact prd_outM hqQ1.2.1 (by have h8 := (hqQ1.2.2.2.2.2 e).1; have h9 : (IQ1 94 50).toInt = _ := h8; omega) ⟨rfl, hqQ1⟩
theorem sum_outM {d : Nat} {sh : List mE} {I : Nat → Nat → Int32} {L : Nat → Nat → Int64} {R : Nat → Nat → Option Nat} {Q : Option Value → mW → Prop} (hw : wOK (mkT vV []) (wE sh R) (sh, I, L, R)) (h8 : 0 ≤ (I 94 50).toInt) (hQ : Q none (sh, I, L, R)) : XW 284 mr_284 none d 0 0 Q (4, [(0, .ref 94)], [], (sh, I, L, R)) := by
  have c94 : sh[94]? = some (.inr 12) := hw.1 94 _ rfl
  have z0 : (0 : Int32).toInt = 0 := rfl
  refine XW.fam (S' := (5, [(0, .ref 94)], [.ref 94], (sh, I, L, R))) (M := mr_284) rfl (show mcode 284 4 = some (4, .aload_n 0, 1, 0, 0, 0, _) from rfl) (Or.inl ⟨.ref 94, rfl, rfl⟩) ?_
  refine XW.fam (S' := (8, [(0, .ref 94)], [.int (I 94 50)], (sh, I, L, R))) (M := mr_284) rfl (show mcode 284 5 = some (5, .getfield 370, 3, 12, 50, 0, _) from rfl) (Or.inr (Or.inr (Or.inr (Or.inr (Or.inr (Or.inr (Or.inr (Or.inl ⟨_, _, rfl, fl_ldI c94 (by decide) (by decide), rfl⟩)))))))) ?_
  have k1 : bcmp .ge (I 94 50) 0 = true := bcT (c := .ge) (a := ((I 94 50)).toInt) (b := 0) rfl (by decide) (by show 0 ≤ ((I 94 50)).toInt; omega)
  refine XW.fam (S' := (51, [(0, .ref 94)], [], (sh, I, L, R))) (M := mr_284) rfl (show mcode 284 8 = some (8, .ifCond .ge 43, 3, 51, 0, 0, _) from rfl) (Or.inr (Or.inl ⟨51, [], by simp [brn, k1], rfl⟩)) ?_
  refine XW.ret (r := none) ⟨rfl, by decide +kernel⟩ ?_
  exact hQ
theorem sum_lpM {d o : Nat} {sh : List mE} {J : Nat → Nat → Int32} {R : Nat → Nat → Option Nat} {b : Nat → Int} {n N : Nat} (hB : mBs J b n N) (ho : o ≤ 8) : ∀ (f : Nat) {I : Nat → Nat → Int32} {L : Nat → Nat → Int64} (i h : Nat) (c : Int), (∀ f2, f2 < f → CTm sh R J b n N d 285 2 2 f2) → QM sh R J b n N o (h + 1) c (true, i) (sh, I, L, R) → 0 ≤ c → h + 1 ≤ i → 10 * (N - i) + (3 + 1) ≤ f → XW 284 mr_284 none (d + 4 + (6 * (8 - o) + 3)) 0 0 (QMT sh R J b n N o (h + 1) c (gPx (tK b n) f 3 o i)) (4, [(0, .ref 94)], [], (sh, I, L, R)) := by
  have z0 : (0 : Int32).toInt = 0 := rfl
  have z43 : (43 : Int32).toInt = 43 := rfl
  have z45 : (45 : Int32).toInt = 45 := rfl
  intro f
  induction f with
  | zero =>
    intro I L i h c H0 hq hc0 hhi hmu
    exfalso
    omega
  | succ f ih =>
    intro I L i h c H0 hq hc0 hhi hmu
    obtain ⟨hf, hw, hk, hs0, hs1, hs2⟩ := id hq
    have hk : ∀ q k, inm mdM q k = false → I q k = J q k := hk
    have hst : mStt b n N I o (h + 1) i := hs1 rfl
    have hle : i ≤ N := hst.2.2.2.2.2
    have hN := hB.2.1.1
    have hN2 := hB.2.1.2
    have hlt : ¬ tK b n i = 302 → i < N := lt_N hN hle
    have hsl : (I 94 53).toInt + c ≤ (i : Int) := hs0.1
    have c94 : sh[94]? = some (.inr 12) := hw.1 94 _ rfl
    obtain ⟨fl, efl⟩ : ∃ z : Int32, I 94 50 = z := ⟨_, rfl⟩
    have hfl : fl.toInt = -1 := by rw [← efl]; exact hst.2.1
    obtain ⟨tk, etk⟩ : ∃ z : Int32, I 94 48 = z := ⟨_, rfl⟩
    have htk : tk.toInt = mtok b n (tS b n i) := by rw [← etk]; exact hst.1.2.2
    have m43 : mtok b n (tS b n i) = 43 ↔ tK b n i = 43 := mtok_sign hB.2.2.2 (by decide) (by decide) (by decide)
    have m45 : mtok b n (tS b n i) = 45 ↔ tK b n i = 45 := mtok_sign hB.2.2.2 (by decide) (by decide) (by decide)
    refine XW.fam (S' := (5, [(0, .ref 94)], [.ref 94], (sh, I, L, R))) (M := mr_284) rfl (show mcode 284 4 = some (4, .aload_n 0, 1, 0, 0, 0, _) from rfl) (Or.inl ⟨.ref 94, rfl, rfl⟩) ?_
    refine XW.fam (S' := (8, [(0, .ref 94)], [.int (I 94 50)], (sh, I, L, R))) (M := mr_284) rfl (show mcode 284 5 = some (5, .getfield 370, 3, 12, 50, 0, _) from rfl) (Or.inr (Or.inr (Or.inr (Or.inr (Or.inr (Or.inr (Or.inr (Or.inl ⟨_, _, rfl, fl_ldI c94 (by decide) (by decide), rfl⟩)))))))) ?_
    rw [efl]
    have k1 : bcmp .ge fl 0 = false := bcF (c := .ge) (a := (fl).toInt) (b := 0) rfl (by decide) (by show ¬ (0 ≤ (fl).toInt); omega)
    refine XW.fam (S' := (11, [(0, .ref 94)], [], (sh, I, L, R))) (M := mr_284) rfl (show mcode 284 8 = some (8, .ifCond .ge 43, 3, 51, 0, 0, _) from rfl) (Or.inr (Or.inl ⟨11, [], by simp [brn, k1], rfl⟩)) ?_
    refine XW.fam (S' := (12, [(0, .ref 94)], [.ref 94], (sh, I, L, R))) (M := mr_284) rfl (show mcode 284 11 = some (11, .aload_n 0, 1, 0, 0, 0, _) from rfl) (Or.inl ⟨.ref 94, rfl, rfl⟩) ?_
    refine XW.fam (S' := (15, [(0, .ref 94)], [.int (I 94 48)], (sh, I, L, R))) (M := mr_284) rfl (show mcode 284 12 = some (12, .getfield 354, 3, 12, 48, 0, _) from rfl) (Or.inr (Or.inr (Or.inr (Or.inr (Or.inr (Or.inr (Or.inr (Or.inl ⟨_, _, rfl, fl_ldI c94 (by decide) (by decide), rfl⟩)))))))) ?_
    rw [etk]
    refine XW.fam (S' := (17, [(0, .ref 94)], [.int 43, .int tk], (sh, I, L, R))) (M := mr_284) rfl (show mcode 284 15 = some (15, .bipush 43, 2, 0, 0, 0, _) from rfl) (Or.inl ⟨.int 43, rfl, rfl⟩) ?_
    cases k2 : bcmp .eq tk 43 with
    | true =>
      have gk2 : (tk).toInt = 43 := icT (c := .eq) (a := (tk).toInt) (b := 43) rfl (by decide) k2
      refine XW.fam (S' := (29, [(0, .ref 94)], [], (sh, I, L, R))) (M := mr_284) rfl (show mcode 284 17 = some (17, .if_icmp .eq 12, 3, 29, 0, 0, _) from rfl) (Or.inr (Or.inl ⟨29, [], by simp [brn, k2], rfl⟩)) ?_
      refine XW.fam (S' := (30, [(0, .ref 94)], [.ref 94], (sh, I, L, R))) (M := mr_284) rfl (show mcode 284 29 = some (29, .aload_n 0, 1, 0, 0, 0, _) from rfl) (Or.inl ⟨.ref 94, rfl, rfl⟩) ?_
      refine XW.fam (S' := (33, [(0, .ref 94)], [.int (I 94 48)], (sh, I, L, R))) (M := mr_284) rfl (show mcode 284 30 = some (30, .getfield 354, 3, 12, 48, 0, _) from rfl) (Or.inr (Or.inr (Or.inr (Or.inr (Or.inr (Or.inr (Or.inr (Or.inl ⟨_, _, rfl, fl_ldI c94 (by decide) (by decide), rfl⟩)))))))) ?_
      rw [etk]
      refine XW.fam (S' := (34, [(1, .int tk), (0, .ref 94)], [], (sh, I, L, R))) (M := mr_284) rfl (show mcode 284 33 = some (33, .istore_n 1, 1, 0, 0, 0, _) from rfl) (Or.inr (Or.inr (Or.inr (Or.inr (Or.inr (Or.inr (Or.inl ⟨_, [], _, rfl, rfl, rfl⟩))))))) ?_
      refine XW.fam (S' := (35, [(1, .int tk), (0, .ref 94)], [.ref 94], (sh, I, L, R))) (M := mr_284) rfl (show mcode 284 34 = some (34, .aload_n 0, 1, 0, 0, 0, _) from rfl) (Or.inl ⟨.ref 94, rfl, rfl⟩) ?_
      refine XW.call (d' := d + 2) (mc' := 0) (ms' := 0) (av := [.ref 94]) (rest := []) (M := mr_284) (Ma := mr_278) rfl (show mcode 284 35 = some (35, .invokevirtual 385, 3, 278, 0, 0, _) from rfl) rfl (by decide) (by decide) ⟨rfl, 94, _, rfl, c94⟩ rfl rfl (show 0 ≤ 8 by decide) (tc_nxtM (d := d) (c2 := (c + 1)) hB hq (lt_N hN hle (by omega)) (by omega)) (by omega) (Nat.zero_le _) (Nat.zero_le _) (fun rQ3 wQ3 Q3 => ?_)
      obtain ⟨hrQ3, hqQ3⟩ := Q3
      subst hrQ3
      obtain ⟨shQ3, IQ3, LQ3, RQ3⟩ := wQ3
      obtain rfl : sh = shQ3 := hqQ3.2.1.2.2.2.1.symm
      obtain rfl : R = RQ3 := hqQ3.2.1.2.2.2.2.1.symm
      refine XW.fam (S' := (39, [(1, .int tk), (0, .ref 94)], [.ref 94], (sh, IQ3, LQ3, R))) (M := mr_284) rfl (show mcode 284 38 = some (38, .aload_n 0, 1, 0, 0, 0, _) from rfl) (Or.inl ⟨.ref 94, rfl, rfl⟩) ?_
      refine XW.call (d' := (d + 4 + (6 * (8 - o) + 2))) (mc' := 0) (ms' := 0) (av := [.ref 94]) (rest := []) (M := mr_284) (Ma := mr_285) rfl (show mcode 284 39 = some (39, .invokevirtual 416, 3, 285, 0, 0, _) from rfl) rfl (by decide) (by decide) ⟨rfl, 94, _, rfl, c94⟩ rfl rfl (show 0 ≤ 8 by decide) (H0 f (by omega) o (i + 1) (h + 1) (c + 1) ho hqQ3 (by omega) (by omega) (by have := lt_N hN hle (by omega); omega)) (by omega) (Nat.zero_le _) (Nat.zero_le _) (fun rQ4 wQ4 Q4 => ?_)
      obtain ⟨hrQ4, hqQ4⟩ := Q4
      subst hrQ4
      obtain ⟨shQ4, IQ4, LQ4, RQ4⟩ := wQ4
      obtain rfl : sh = shQ4 := hqQ4.2.1.2.2.2.1.symm
      obtain rfl : R = RQ4 := hqQ4.2.1.2.2.2.2.1.symm
      refine XW.fam (S' := (43, [(1, .int tk), (0, .ref 94)], [.ref 94], (sh, IQ4, LQ4, R))) (M := mr_284) rfl (show mcode 284 42 = some (42, .aload_n 0, 1, 0, 0, 0, _) from rfl) (Or.inl ⟨.ref 94, rfl, rfl⟩) ?_
      refine XW.fam (S' := (44, [(1, .int tk), (0, .ref 94)], [.int tk, .ref 94], (sh, IQ4, LQ4, R))) (M := mr_284) rfl (show mcode 284 43 = some (43, .iload_n 1, 1, 0, 0, 0, _) from rfl) (Or.inl ⟨.int tk, rfl, rfl⟩) ?_
      refine XW.fam (S' := (45, [(1, .int tk), (0, .ref 94)], [.int 0, .int tk, .ref 94], (sh, IQ4, LQ4, R))) (M := mr_284) rfl (show mcode 284 44 = some (44, .iconst 0, 1, 0, 0, 0, _) from rfl) (Or.inl ⟨.int 0, rfl, rfl⟩) ?_
      refine XW.call (d' := d) (mc' := 0) (ms' := 0) (av := [.ref 94, .int tk, .int 0]) (rest := []) (M := mr_284) (Ma := mr_287) rfl (show mcode 284 45 = some (45, .invokevirtual 395, 3, 287, 0, 0, _) from rfl) rfl (by decide) (by decide) ⟨rfl, 94, _, rfl, c94⟩ rfl rfl (show 0 ≤ 8 by decide) (tc_layQ (d := d) (h2 := (h + 1)) (c2 := c) hB hqQ4 ⟨by omega, by omega⟩ (fun _ => by have := lay_hi (x := (tk : Int32).toInt) (by omega); omega) (fun _ => by have := lay_hi (x := (tk : Int32).toInt) (by omega); omega) (by omega) (fun z => by omega) (by omega) (by omega)) (by omega) (Nat.zero_le _) (Nat.zero_le _) (fun rQ5 wQ5 Q5 => ?_)
      obtain ⟨hrQ5, hqQ5⟩ := Q5
      subst hrQ5
      obtain ⟨shQ5, IQ5, LQ5, RQ5⟩ := wQ5
      obtain rfl : sh = shQ5 := hqQ5.2.1.2.2.2.1.symm
      obtain rfl : R = RQ5 := hqQ5.2.1.2.2.2.2.1.symm
      refine XW.fam (S' := (4, [(1, .int tk), (0, .ref 94)], [], (sh, IQ5, LQ5, R))) (M := mr_284) rfl (show mcode 284 48 = some (48, .goto (-44), 3, 4, 0, 0, _) from rfl) (Or.inr (Or.inl ⟨4, [], rfl, rfl⟩)) ?_
      refine XW.sub (ls' := [(0, .ref 94)]) (List.forall_mem_cons.mpr ⟨List.mem_of_getElem? (i := 1) rfl, (fun _ h => absurd h List.not_mem_nil)⟩) ?_
      have hgo := (gPx_ok hN f o (i + 1) (by have := lt_N hN hle (by omega); omega)).1 2 (by omega)
      have eg : (gPx (tK b n) (f + 1) 3 o i) = gB (gPx (tK b n) f 2 o (i + 1)) (gPx (tK b n) f 3 o) := by
        rw [gPx_3]
        unfold gLp
        exact if_pos (decide_eq_true (show tK b n i = 43 ∨ tK b n i = 45 by omega))
      rw [eg]
      cases e : (gPx (tK b n) f 2 o (i + 1)).1 with
      | true =>
        rw [gB_t e]
        have g1 := hgo.1
        have g2 := hgo.2.2 e rfl
        have g3 := hgo.2.1
        exact ih (gPx (tK b n) f 2 o (i + 1)).2 h c (fun f2 h2 => H0 f2 (by omega)) (QM_t e hqQ5) hc0 (by omega) (by omega)
      | false =>
        rw [gB_f e]
        exact sum_outM hqQ5.2.1 (by have h8 := (hqQ5.2.2.2.2.2 e).1; have h9 : (IQ5 94 50).toInt = _ := h8; omega) ⟨rfl, hqQ5⟩
    | false =>
      have gk2 : ¬ ((tk).toInt = 43) := icF (c := .eq) (a := (tk).toInt) (b := 43) rfl (by decide) k2
      refine XW.fam (S' := (20, [(0, .ref 94)], [], (sh, I, L, R))) (M := mr_284) rfl (show mcode 284 17 = some (17, .if_icmp .eq 12, 3, 29, 0, 0, _) from rfl) (Or.inr (Or.inl ⟨20, [], by simp [brn, k2], rfl⟩)) ?_
      refine XW.fam (S' := (21, [(0, .ref 94)], [.ref 94], (sh, I, L, R))) (M := mr_284) rfl (show mcode 284 20 = some (20, .aload_n 0, 1, 0, 0, 0, _) from rfl) (Or.inl ⟨.ref 94, rfl, rfl⟩) ?_
      refine XW.fam (S' := (24, [(0, .ref 94)], [.int (I 94 48)], (sh, I, L, R))) (M := mr_284) rfl (show mcode 284 21 = some (21, .getfield 354, 3, 12, 48, 0, _) from rfl) (Or.inr (Or.inr (Or.inr (Or.inr (Or.inr (Or.inr (Or.inr (Or.inl ⟨_, _, rfl, fl_ldI c94 (by decide) (by decide), rfl⟩)))))))) ?_
      rw [etk]
      refine XW.fam (S' := (26, [(0, .ref 94)], [.int 45, .int tk], (sh, I, L, R))) (M := mr_284) rfl (show mcode 284 24 = some (24, .bipush 45, 2, 0, 0, 0, _) from rfl) (Or.inl ⟨.int 45, rfl, rfl⟩) ?_
      cases k6 : bcmp .ne tk 45 with
      | true =>
        have gk6 : ¬ (tk).toInt = 45 := icT (c := .ne) (a := (tk).toInt) (b := 45) rfl (by decide) k6
        refine XW.fam (S' := (51, [(0, .ref 94)], [], (sh, I, L, R))) (M := mr_284) rfl (show mcode 284 26 = some (26, .if_icmp .ne 25, 3, 51, 0, 0, _) from rfl) (Or.inr (Or.inl ⟨51, [], by simp [brn, k6], rfl⟩)) ?_
        refine XW.ret (r := none) ⟨rfl, by decide +kernel⟩ ?_
        rw [gPx_3]
        unfold gLp
        rw [if_neg (fun q => by have q1 := of_decide_eq_true q; have q2 : tK b n i = 43 ∨ tK b n i = 45 := q1; omega)]
        exact ⟨rfl, QM_wk hq (by omega)⟩
      | false =>
        have gk6 : ¬ (¬ (tk).toInt = 45) := icF (c := .ne) (a := (tk).toInt) (b := 45) rfl (by decide) k6
        refine XW.fam (S' := (29, [(0, .ref 94)], [], (sh, I, L, R))) (M := mr_284) rfl (show mcode 284 26 = some (26, .if_icmp .ne 25, 3, 51, 0, 0, _) from rfl) (Or.inr (Or.inl ⟨29, [], by simp [brn, k6], rfl⟩)) ?_
        refine XW.fam (S' := (30, [(0, .ref 94)], [.ref 94], (sh, I, L, R))) (M := mr_284) rfl (show mcode 284 29 = some (29, .aload_n 0, 1, 0, 0, 0, _) from rfl) (Or.inl ⟨.ref 94, rfl, rfl⟩) ?_
        refine XW.fam (S' := (33, [(0, .ref 94)], [.int (I 94 48)], (sh, I, L, R))) (M := mr_284) rfl (show mcode 284 30 = some (30, .getfield 354, 3, 12, 48, 0, _) from rfl) (Or.inr (Or.inr (Or.inr (Or.inr (Or.inr (Or.inr (Or.inr (Or.inl ⟨_, _, rfl, fl_ldI c94 (by decide) (by decide), rfl⟩)))))))) ?_
        rw [etk]
        refine XW.fam (S' := (34, [(1, .int tk), (0, .ref 94)], [], (sh, I, L, R))) (M := mr_284) rfl (show mcode 284 33 = some (33, .istore_n 1, 1, 0, 0, 0, _) from rfl) (Or.inr (Or.inr (Or.inr (Or.inr (Or.inr (Or.inr (Or.inl ⟨_, [], _, rfl, rfl, rfl⟩))))))) ?_
        refine XW.fam (S' := (35, [(1, .int tk), (0, .ref 94)], [.ref 94], (sh, I, L, R))) (M := mr_284) rfl (show mcode 284 34 = some (34, .aload_n 0, 1, 0, 0, 0, _) from rfl) (Or.inl ⟨.ref 94, rfl, rfl⟩) ?_
        refine XW.call (d' := d + 2) (mc' := 0) (ms' := 0) (av := [.ref 94]) (rest := []) (M := mr_284) (Ma := mr_278) rfl (show mcode 284 35 = some (35, .invokevirtual 385, 3, 278, 0, 0, _) from rfl) rfl (by decide) (by decide) ⟨rfl, 94, _, rfl, c94⟩ rfl rfl (show 0 ≤ 8 by decide) (tc_nxtM (d := d) (c2 := (c + 1)) hB hq (lt_N hN hle (by omega)) (by omega)) (by omega) (Nat.zero_le _) (Nat.zero_le _) (fun rQ7 wQ7 Q7 => ?_)
        obtain ⟨hrQ7, hqQ7⟩ := Q7
        subst hrQ7
        obtain ⟨shQ7, IQ7, LQ7, RQ7⟩ := wQ7
        obtain rfl : sh = shQ7 := hqQ7.2.1.2.2.2.1.symm
        obtain rfl : R = RQ7 := hqQ7.2.1.2.2.2.2.1.symm
        refine XW.fam (S' := (39, [(1, .int tk), (0, .ref 94)], [.ref 94], (sh, IQ7, LQ7, R))) (M := mr_284) rfl (show mcode 284 38 = some (38, .aload_n 0, 1, 0, 0, 0, _) from rfl) (Or.inl ⟨.ref 94, rfl, rfl⟩) ?_
        refine XW.call (d' := (d + 4 + (6 * (8 - o) + 2))) (mc' := 0) (ms' := 0) (av := [.ref 94]) (rest := []) (M := mr_284) (Ma := mr_285) rfl (show mcode 284 39 = some (39, .invokevirtual 416, 3, 285, 0, 0, _) from rfl) rfl (by decide) (by decide) ⟨rfl, 94, _, rfl, c94⟩ rfl rfl (show 0 ≤ 8 by decide) (H0 f (by omega) o (i + 1) (h + 1) (c + 1) ho hqQ7 (by omega) (by omega) (by have := lt_N hN hle (by omega); omega)) (by omega) (Nat.zero_le _) (Nat.zero_le _) (fun rQ8 wQ8 Q8 => ?_)
        obtain ⟨hrQ8, hqQ8⟩ := Q8
        subst hrQ8
        obtain ⟨shQ8, IQ8, LQ8, RQ8⟩ := wQ8
        obtain rfl : sh = shQ8 := hqQ8.2.1.2.2.2.1.symm
        obtain rfl : R = RQ8 := hqQ8.2.1.2.2.2.2.1.symm
        refine XW.fam (S' := (43, [(1, .int tk), (0, .ref 94)], [.ref 94], (sh, IQ8, LQ8, R))) (M := mr_284) rfl (show mcode 284 42 = some (42, .aload_n 0, 1, 0, 0, 0, _) from rfl) (Or.inl ⟨.ref 94, rfl, rfl⟩) ?_
        refine XW.fam (S' := (44, [(1, .int tk), (0, .ref 94)], [.int tk, .ref 94], (sh, IQ8, LQ8, R))) (M := mr_284) rfl (show mcode 284 43 = some (43, .iload_n 1, 1, 0, 0, 0, _) from rfl) (Or.inl ⟨.int tk, rfl, rfl⟩) ?_
        refine XW.fam (S' := (45, [(1, .int tk), (0, .ref 94)], [.int 0, .int tk, .ref 94], (sh, IQ8, LQ8, R))) (M := mr_284) rfl (show mcode 284 44 = some (44, .iconst 0, 1, 0, 0, 0, _) from rfl) (Or.inl ⟨.int 0, rfl, rfl⟩) ?_
        refine XW.call (d' := d) (mc' := 0) (ms' := 0) (av := [.ref 94, .int tk, .int 0]) (rest := []) (M := mr_284) (Ma := mr_287) rfl (show mcode 284 45 = some (45, .invokevirtual 395, 3, 287, 0, 0, _) from rfl) rfl (by decide) (by decide) ⟨rfl, 94, _, rfl, c94⟩ rfl rfl (show 0 ≤ 8 by decide) (tc_layQ (d := d) (h2 := (h + 1)) (c2 := c) hB hqQ8 ⟨by omega, by omega⟩ (fun _ => by have := lay_hi (x := (tk : Int32).toInt) (by omega); omega) (fun _ => by have := lay_hi (x := (tk : Int32).toInt) (by omega); omega) (by omega) (fun z => by omega) (by omega) (by omega)) (by omega) (Nat.zero_le _) (Nat.zero_le _) (fun rQ9 wQ9 Q9 => ?_)
        obtain ⟨hrQ9, hqQ9⟩ := Q9
        subst hrQ9
        obtain ⟨shQ9, IQ9, LQ9, RQ9⟩ := wQ9
        obtain rfl : sh = shQ9 := hqQ9.2.1.2.2.2.1.symm
        obtain rfl : R = RQ9 := hqQ9.2.1.2.2.2.2.1.symm
        refine XW.fam (S' := (4, [(1, .int tk), (0, .ref 94)], [], (sh, IQ9, LQ9, R))) (M := mr_284) rfl (show mcode 284 48 = some (48, .goto (-44), 3, 4, 0, 0, _) from rfl) (Or.inr (Or.inl ⟨4, [], rfl, rfl⟩)) ?_
        refine XW.sub (ls' := [(0, .ref 94)]) (List.forall_mem_cons.mpr ⟨List.mem_of_getElem? (i := 1) rfl, (fun _ h => absurd h List.not_mem_nil)⟩) ?_
        have hgo := (gPx_ok hN f o (i + 1) (by have := lt_N hN hle (by omega); omega)).1 2 (by omega)
        have eg : (gPx (tK b n) (f + 1) 3 o i) = gB (gPx (tK b n) f 2 o (i + 1)) (gPx (tK b n) f 3 o) := by
          rw [gPx_3]
          unfold gLp
          exact if_pos (decide_eq_true (show tK b n i = 43 ∨ tK b n i = 45 by omega))
        rw [eg]
        cases e : (gPx (tK b n) f 2 o (i + 1)).1 with
        | true =>
          rw [gB_t e]
          have g1 := hgo.1
          have g2 := hgo.2.2 e rfl
          have g3 := hgo.2.1
          exact ih (gPx (tK b n) f 2 o (i + 1)).2 h c (fun f2 h2 => H0 f2 (by omega)) (QM_t e hqQ9) hc0 (by omega) (by omega)
        | false =>
          rw [gB_f e]
          exact sum_outM hqQ9.2.1 (by have h8 := (hqQ9.2.2.2.2.2 e).1; have h9 : (IQ9 94 50).toInt = _ := h8; omega) ⟨rfl, hqQ9⟩
theorem sum_ofM {d f : Nat} {sh : List mE} {J : Nat → Nat → Int32} {R : Nat → Nat → Option Nat} {b : Nat → Int} {n N : Nat} (hB : mBs J b n N) (H0 : ∀ f2, f2 < f + 1 → CTm sh R J b n N d 285 2 2 f2) : CTm sh R J b n N d 284 3 4 (f + 1) := by
  intro o i h c I L ho hq hc0 hhi hmu
  obtain ⟨hf, hw, hk, hs0, hs1, hs2⟩ := id hq
  have hk : ∀ q k, inm mdM q k = false → I q k = J q k := hk
  have hst : mStt b n N I o h i := hs1 rfl
  have hle : i ≤ N := hst.2.2.2.2.2
  have hN := hB.2.1.1
  have hN2 := hB.2.1.2
  have hlt : ¬ tK b n i = 302 → i < N := lt_N hN hle
  have hsl : (I 94 53).toInt + c ≤ (i : Int) := hs0.1
  have c94 : sh[94]? = some (.inr 12) := hw.1 94 _ rfl
  refine Tc.of mr_284 rfl (show 1 ≤ mr_284.2.2.2.1 by decide) ?_
  refine XW.fam (S' := (1, [(0, .ref 94)], [.ref 94], (sh, I, L, R))) (M := mr_284) rfl (show mcode 284 0 = some (0, .aload_n 0, 1, 0, 0, 0, _) from rfl) (Or.inl ⟨.ref 94, rfl, rfl⟩) ?_
  refine XW.call (d' := (d + 4 + (6 * (8 - o) + 2))) (mc' := 0) (ms' := 0) (av := [.ref 94]) (rest := []) (M := mr_284) (Ma := mr_285) rfl (show mcode 284 1 = some (1, .invokevirtual 416, 3, 285, 0, 0, _) from rfl) rfl (by decide) (by decide) ⟨rfl, 94, _, rfl, c94⟩ rfl rfl (show 0 ≤ 8 by decide) (H0 f (by omega) o i h c ho hq hc0 hhi (by omega)) (by omega) (Nat.zero_le _) (Nat.zero_le _) (fun rQ1 wQ1 Q1 => ?_)
  obtain ⟨hrQ1, hqQ1⟩ := Q1
  subst hrQ1
  obtain ⟨shQ1, IQ1, LQ1, RQ1⟩ := wQ1
  obtain rfl : sh = shQ1 := hqQ1.2.1.2.2.2.1.symm
  obtain rfl : R = RQ1 := hqQ1.2.1.2.2.2.2.1.symm
  refine XW.sub (ls' := [(0, .ref 94)]) (List.forall_mem_cons.mpr ⟨List.mem_of_getElem? (i := 0) rfl, (fun _ h => absurd h List.not_mem_nil)⟩) ?_
  have hgo := (gPx_ok hN f o i hle).1 2 (by omega)
  rw [gPx_4]
  cases e : (gPx (tK b n) f 2 o i).1 with
  | true =>
    rw [gB_t e]
    have g2 := hgo.2.2 e rfl
    have g3 := hgo.2.1
    exact sum_lpM hB ho f (gPx (tK b n) f 2 o i).2 h c (fun f2 h2 => H0 f2 (by omega)) (QM_t e hqQ1) hc0 (by omega) (by omega)
  | false =>
    rw [gB_f e]
    exact sum_outM hqQ1.2.1 (by have h8 := (hqQ1.2.2.2.2.2 e).1; have h9 : (IQ1 94 50).toInt = _ := h8; omega) ⟨rfl, hqQ1⟩
theorem all_outM {d : Nat} {sh : List mE} {I : Nat → Nat → Int32} {L : Nat → Nat → Int64} {R : Nat → Nat → Option Nat} {Q : Option Value → mW → Prop} (hw : wOK (mkT vV []) (wE sh R) (sh, I, L, R)) (h8 : 0 ≤ (I 94 50).toInt) (hQ : Q none (sh, I, L, R)) : XW 292 mr_292 none d 0 0 Q (4, [(0, .ref 94)], [], (sh, I, L, R)) := by
  have c94 : sh[94]? = some (.inr 12) := hw.1 94 _ rfl
  have z0 : (0 : Int32).toInt = 0 := rfl
  refine XW.fam (S' := (5, [(0, .ref 94)], [.ref 94], (sh, I, L, R))) (M := mr_292) rfl (show mcode 292 4 = some (4, .aload_n 0, 1, 0, 0, 0, _) from rfl) (Or.inl ⟨.ref 94, rfl, rfl⟩) ?_
  refine XW.fam (S' := (8, [(0, .ref 94)], [.int (I 94 50)], (sh, I, L, R))) (M := mr_292) rfl (show mcode 292 5 = some (5, .getfield 370, 3, 12, 50, 0, _) from rfl) (Or.inr (Or.inr (Or.inr (Or.inr (Or.inr (Or.inr (Or.inr (Or.inl ⟨_, _, rfl, fl_ldI c94 (by decide) (by decide), rfl⟩)))))))) ?_
  have k1 : bcmp .ge (I 94 50) 0 = true := bcT (c := .ge) (a := ((I 94 50)).toInt) (b := 0) rfl (by decide) (by show 0 ≤ ((I 94 50)).toInt; omega)
  refine XW.fam (S' := (38, [(0, .ref 94)], [], (sh, I, L, R))) (M := mr_292) rfl (show mcode 292 8 = some (8, .ifCond .ge 30, 3, 38, 0, 0, _) from rfl) (Or.inr (Or.inl ⟨38, [], by simp [brn, k1], rfl⟩)) ?_
  refine XW.ret (r := none) ⟨rfl, by decide +kernel⟩ ?_
  exact hQ
theorem all_lpM {d o : Nat} {sh : List mE} {J : Nat → Nat → Int32} {R : Nat → Nat → Option Nat} {b : Nat → Int} {n N : Nat} (hB : mBs J b n N) (ho : o ≤ 8) : ∀ (f : Nat) {I : Nat → Nat → Int32} {L : Nat → Nat → Int64} (i h : Nat) (c : Int), (∀ f2, f2 < f → CTm sh R J b n N d 293 4 5 f2) → QM sh R J b n N o (h + 1) c (true, i) (sh, I, L, R) → 0 ≤ c → h + 1 ≤ i → 10 * (N - i) + (6 + 1) ≤ f → XW 292 mr_292 none (d + 4 + (6 * (8 - o) + 5)) 0 0 (QMT sh R J b n N o (h + 1) c (gPx (tK b n) f 6 o i)) (4, [(0, .ref 94)], [], (sh, I, L, R)) := by
  have z0 : (0 : Int32).toInt = 0 := rfl
  have z4 : (4 : Int32).toInt = 4 := rfl
  intro f
  induction f with
  | zero =>
    intro I L i h c H0 hq hc0 hhi hmu
    exfalso
    omega
  | succ f ih =>
    intro I L i h c H0 hq hc0 hhi hmu
    obtain ⟨hf, hw, hk, hs0, hs1, hs2⟩ := id hq
    have hk : ∀ q k, inm mdM q k = false → I q k = J q k := hk
    have hst : mStt b n N I o (h + 1) i := hs1 rfl
    have hle : i ≤ N := hst.2.2.2.2.2
    have hN := hB.2.1.1
    have hN2 := hB.2.1.2
    have hlt : ¬ tK b n i = 302 → i < N := lt_N hN hle
    have hsl : (I 94 53).toInt + c ≤ (i : Int) := hs0.1
    have c94 : sh[94]? = some (.inr 12) := hw.1 94 _ rfl
    obtain ⟨fl, efl⟩ : ∃ z : Int32, I 94 50 = z := ⟨_, rfl⟩
    have hfl : fl.toInt = -1 := by rw [← efl]; exact hst.2.1
    refine XW.fam (S' := (5, [(0, .ref 94)], [.ref 94], (sh, I, L, R))) (M := mr_292) rfl (show mcode 292 4 = some (4, .aload_n 0, 1, 0, 0, 0, _) from rfl) (Or.inl ⟨.ref 94, rfl, rfl⟩) ?_
    refine XW.fam (S' := (8, [(0, .ref 94)], [.int (I 94 50)], (sh, I, L, R))) (M := mr_292) rfl (show mcode 292 5 = some (5, .getfield 370, 3, 12, 50, 0, _) from rfl) (Or.inr (Or.inr (Or.inr (Or.inr (Or.inr (Or.inr (Or.inr (Or.inl ⟨_, _, rfl, fl_ldI c94 (by decide) (by decide), rfl⟩)))))))) ?_
    rw [efl]
    have k1 : bcmp .ge fl 0 = false := bcF (c := .ge) (a := (fl).toInt) (b := 0) rfl (by decide) (by show ¬ (0 ≤ (fl).toInt); omega)
    refine XW.fam (S' := (11, [(0, .ref 94)], [], (sh, I, L, R))) (M := mr_292) rfl (show mcode 292 8 = some (8, .ifCond .ge 30, 3, 38, 0, 0, _) from rfl) (Or.inr (Or.inl ⟨11, [], by simp [brn, k1], rfl⟩)) ?_
    refine XW.fam (S' := (12, [(0, .ref 94)], [.ref 94], (sh, I, L, R))) (M := mr_292) rfl (show mcode 292 11 = some (11, .aload_n 0, 1, 0, 0, 0, _) from rfl) (Or.inl ⟨.ref 94, rfl, rfl⟩) ?_
    refine XW.fam (S' := (15, [(0, .ref 94)], [.long 1111, .ref 94], (sh, I, L, R))) (M := mr_292) rfl (show mcode 292 12 = some (12, .ldc2_w 427, 3, 0, 0, 1111, _) from rfl) (Or.inr (Or.inr (Or.inr (Or.inr (Or.inl ⟨.long 1111, rfl, rfl⟩))))) ?_
    refine XW.call (d' := d) (mc' := 0) (ms' := 0) (av := [.ref 94, .long 1111]) (rest := []) (M := mr_292) (Ma := mr_282) rfl (show mcode 292 15 = some (15, .invokevirtual 391, 3, 282, 0, 0, _) from rfl) rfl (by decide) (by decide) ⟨rfl, 94, _, rfl, c94⟩ rfl rfl (show 0 ≤ 8 by decide) (tc_isM (d := d) (t := 6) hB hq (by decide) (by decide)) (by omega) (Nat.zero_le _) (Nat.zero_le _) (fun rQ2 wQ2 Q2 => ?_)
    obtain ⟨hQ2, hwQ2⟩ := Q2
    subst hwQ2
    rcases hQ2 with ⟨rfl, gQ2⟩ | ⟨rfl, gQ2⟩
    · skip
      refine XW.fam (S' := (38, [(0, .ref 94)], [], (sh, I, L, R))) (M := mr_292) rfl (show mcode 292 18 = some (18, .ifCond .eq 20, 3, 38, 0, 0, _) from rfl) (Or.inr (Or.inl ⟨38, [], rfl, rfl⟩)) ?_
      refine XW.ret (r := none) ⟨rfl, by decide +kernel⟩ ?_
      rw [gPx_6]
      unfold gLp
      rw [if_neg (fun q => by have q1 := of_decide_eq_true q; have q2 : tK b n i = 262 := q1; omega)]
      exact ⟨rfl, QM_wk hq (by omega)⟩
    · skip
      refine XW.fam (S' := (21, [(0, .ref 94)], [], (sh, I, L, R))) (M := mr_292) rfl (show mcode 292 18 = some (18, .ifCond .eq 20, 3, 38, 0, 0, _) from rfl) (Or.inr (Or.inl ⟨21, [], rfl, rfl⟩)) ?_
      refine XW.fam (S' := (22, [(0, .ref 94)], [.ref 94], (sh, I, L, R))) (M := mr_292) rfl (show mcode 292 21 = some (21, .aload_n 0, 1, 0, 0, 0, _) from rfl) (Or.inl ⟨.ref 94, rfl, rfl⟩) ?_
      refine XW.call (d' := d + 2) (mc' := 0) (ms' := 0) (av := [.ref 94]) (rest := []) (M := mr_292) (Ma := mr_278) rfl (show mcode 292 22 = some (22, .invokevirtual 385, 3, 278, 0, 0, _) from rfl) rfl (by decide) (by decide) ⟨rfl, 94, _, rfl, c94⟩ rfl rfl (show 0 ≤ 8 by decide) (tc_nxtM (d := d) (c2 := (c + 1)) hB hq (lt_N hN hle (by omega)) (by omega)) (by omega) (Nat.zero_le _) (Nat.zero_le _) (fun rQ3 wQ3 Q3 => ?_)
      obtain ⟨hrQ3, hqQ3⟩ := Q3
      subst hrQ3
      obtain ⟨shQ3, IQ3, LQ3, RQ3⟩ := wQ3
      obtain rfl : sh = shQ3 := hqQ3.2.1.2.2.2.1.symm
      obtain rfl : R = RQ3 := hqQ3.2.1.2.2.2.2.1.symm
      refine XW.fam (S' := (26, [(0, .ref 94)], [.ref 94], (sh, IQ3, LQ3, R))) (M := mr_292) rfl (show mcode 292 25 = some (25, .aload_n 0, 1, 0, 0, 0, _) from rfl) (Or.inl ⟨.ref 94, rfl, rfl⟩) ?_
      refine XW.call (d' := (d + 4 + (6 * (8 - o) + 4))) (mc' := 0) (ms' := 0) (av := [.ref 94]) (rest := []) (M := mr_292) (Ma := mr_293) rfl (show mcode 292 26 = some (26, .invokevirtual 421, 3, 293, 0, 0, _) from rfl) rfl (by decide) (by decide) ⟨rfl, 94, _, rfl, c94⟩ rfl rfl (show 0 ≤ 8 by decide) (H0 f (by omega) o (i + 1) (h + 1) (c + 1) ho hqQ3 (by omega) (by omega) (by have := lt_N hN hle (by omega); omega)) (by omega) (Nat.zero_le _) (Nat.zero_le _) (fun rQ4 wQ4 Q4 => ?_)
      obtain ⟨hrQ4, hqQ4⟩ := Q4
      subst hrQ4
      obtain ⟨shQ4, IQ4, LQ4, RQ4⟩ := wQ4
      obtain rfl : sh = shQ4 := hqQ4.2.1.2.2.2.1.symm
      obtain rfl : R = RQ4 := hqQ4.2.1.2.2.2.2.1.symm
      refine XW.fam (S' := (30, [(0, .ref 94)], [.ref 94], (sh, IQ4, LQ4, R))) (M := mr_292) rfl (show mcode 292 29 = some (29, .aload_n 0, 1, 0, 0, 0, _) from rfl) (Or.inl ⟨.ref 94, rfl, rfl⟩) ?_
      refine XW.fam (S' := (31, [(0, .ref 94)], [.int 4, .ref 94], (sh, IQ4, LQ4, R))) (M := mr_292) rfl (show mcode 292 30 = some (30, .iconst 4, 1, 0, 0, 0, _) from rfl) (Or.inl ⟨.int 4, rfl, rfl⟩) ?_
      refine XW.fam (S' := (32, [(0, .ref 94)], [.int 0, .int 4, .ref 94], (sh, IQ4, LQ4, R))) (M := mr_292) rfl (show mcode 292 31 = some (31, .iconst 0, 1, 0, 0, 0, _) from rfl) (Or.inl ⟨.int 0, rfl, rfl⟩) ?_
      refine XW.call (d' := d) (mc' := 0) (ms' := 0) (av := [.ref 94, .int 4, .int 0]) (rest := []) (M := mr_292) (Ma := mr_287) rfl (show mcode 292 32 = some (32, .invokevirtual 395, 3, 287, 0, 0, _) from rfl) rfl (by decide) (by decide) ⟨rfl, 94, _, rfl, c94⟩ rfl rfl (show 0 ≤ 8 by decide) (tc_layQ (d := d) (h2 := (h + 1)) (c2 := c) hB hqQ4 (by decide) (fun _ => by have := lay_hi (x := (4 : Int32).toInt) (by decide); omega) (fun _ => by have := lay_hi (x := (4 : Int32).toInt) (by decide); omega) (by omega) (fun z => absurd z (by decide)) (by omega) (by omega)) (by omega) (Nat.zero_le _) (Nat.zero_le _) (fun rQ5 wQ5 Q5 => ?_)
      obtain ⟨hrQ5, hqQ5⟩ := Q5
      subst hrQ5
      obtain ⟨shQ5, IQ5, LQ5, RQ5⟩ := wQ5
      obtain rfl : sh = shQ5 := hqQ5.2.1.2.2.2.1.symm
      obtain rfl : R = RQ5 := hqQ5.2.1.2.2.2.2.1.symm
      refine XW.fam (S' := (4, [(0, .ref 94)], [], (sh, IQ5, LQ5, R))) (M := mr_292) rfl (show mcode 292 35 = some (35, .goto (-31), 3, 4, 0, 0, _) from rfl) (Or.inr (Or.inl ⟨4, [], rfl, rfl⟩)) ?_
      refine XW.sub (ls' := [(0, .ref 94)]) (List.forall_mem_cons.mpr ⟨List.mem_of_getElem? (i := 0) rfl, (fun _ h => absurd h List.not_mem_nil)⟩) ?_
      have hgo := (gPx_ok hN f o (i + 1) (by have := lt_N hN hle (by omega); omega)).1 5 (by omega)
      have eg : (gPx (tK b n) (f + 1) 6 o i) = gB (gPx (tK b n) f 5 o (i + 1)) (gPx (tK b n) f 6 o) := by
        rw [gPx_6]
        unfold gLp
        exact if_pos (decide_eq_true (show tK b n i = 262 by omega))
      rw [eg]
      cases e : (gPx (tK b n) f 5 o (i + 1)).1 with
      | true =>
        rw [gB_t e]
        have g1 := hgo.1
        have g2 := hgo.2.2 e rfl
        have g3 := hgo.2.1
        exact ih (gPx (tK b n) f 5 o (i + 1)).2 h c (fun f2 h2 => H0 f2 (by omega)) (QM_t e hqQ5) hc0 (by omega) (by omega)
      | false =>
        rw [gB_f e]
        exact all_outM hqQ5.2.1 (by have h8 := (hqQ5.2.2.2.2.2 e).1; have h9 : (IQ5 94 50).toInt = _ := h8; omega) ⟨rfl, hqQ5⟩
theorem all_ofM {d f : Nat} {sh : List mE} {J : Nat → Nat → Int32} {R : Nat → Nat → Option Nat} {b : Nat → Int} {n N : Nat} (hB : mBs J b n N) (H0 : ∀ f2, f2 < f + 1 → CTm sh R J b n N d 293 4 5 f2) : CTm sh R J b n N d 292 5 7 (f + 1) := by
  intro o i h c I L ho hq hc0 hhi hmu
  obtain ⟨hf, hw, hk, hs0, hs1, hs2⟩ := id hq
  have hk : ∀ q k, inm mdM q k = false → I q k = J q k := hk
  have hst : mStt b n N I o h i := hs1 rfl
  have hle : i ≤ N := hst.2.2.2.2.2
  have hN := hB.2.1.1
  have hN2 := hB.2.1.2
  have hlt : ¬ tK b n i = 302 → i < N := lt_N hN hle
  have hsl : (I 94 53).toInt + c ≤ (i : Int) := hs0.1
  have c94 : sh[94]? = some (.inr 12) := hw.1 94 _ rfl
  refine Tc.of mr_292 rfl (show 1 ≤ mr_292.2.2.2.1 by decide) ?_
  refine XW.fam (S' := (1, [(0, .ref 94)], [.ref 94], (sh, I, L, R))) (M := mr_292) rfl (show mcode 292 0 = some (0, .aload_n 0, 1, 0, 0, 0, _) from rfl) (Or.inl ⟨.ref 94, rfl, rfl⟩) ?_
  refine XW.call (d' := (d + 4 + (6 * (8 - o) + 4))) (mc' := 0) (ms' := 0) (av := [.ref 94]) (rest := []) (M := mr_292) (Ma := mr_293) rfl (show mcode 292 1 = some (1, .invokevirtual 421, 3, 293, 0, 0, _) from rfl) rfl (by decide) (by decide) ⟨rfl, 94, _, rfl, c94⟩ rfl rfl (show 0 ≤ 8 by decide) (H0 f (by omega) o i h c ho hq hc0 hhi (by omega)) (by omega) (Nat.zero_le _) (Nat.zero_le _) (fun rQ1 wQ1 Q1 => ?_)
  obtain ⟨hrQ1, hqQ1⟩ := Q1
  subst hrQ1
  obtain ⟨shQ1, IQ1, LQ1, RQ1⟩ := wQ1
  obtain rfl : sh = shQ1 := hqQ1.2.1.2.2.2.1.symm
  obtain rfl : R = RQ1 := hqQ1.2.1.2.2.2.2.1.symm
  refine XW.sub (ls' := [(0, .ref 94)]) (List.forall_mem_cons.mpr ⟨List.mem_of_getElem? (i := 0) rfl, (fun _ h => absurd h List.not_mem_nil)⟩) ?_
  have hgo := (gPx_ok hN f o i hle).1 5 (by omega)
  rw [gPx_7]
  cases e : (gPx (tK b n) f 5 o i).1 with
  | true =>
    rw [gB_t e]
    have g2 := hgo.2.2 e rfl
    have g3 := hgo.2.1
    exact all_lpM hB ho f (gPx (tK b n) f 5 o i).2 h c (fun f2 h2 => H0 f2 (by omega)) (QM_t e hqQ1) hc0 (by omega) (by omega)
  | false =>
    rw [gB_f e]
    exact all_outM hqQ1.2.1 (by have h8 := (hqQ1.2.2.2.2.2 e).1; have h9 : (IQ1 94 50).toInt = _ := h8; omega) ⟨rfl, hqQ1⟩
theorem any_outM {d : Nat} {sh : List mE} {I : Nat → Nat → Int32} {L : Nat → Nat → Int64} {R : Nat → Nat → Option Nat} {Q : Option Value → mW → Prop} (hw : wOK (mkT vV []) (wE sh R) (sh, I, L, R)) (h8 : 0 ≤ (I 94 50).toInt) (hQ : Q none (sh, I, L, R)) : XW 291 mr_291 none d 0 0 Q (4, [(0, .ref 94)], [], (sh, I, L, R)) := by
  have c94 : sh[94]? = some (.inr 12) := hw.1 94 _ rfl
  have z0 : (0 : Int32).toInt = 0 := rfl
  refine XW.fam (S' := (5, [(0, .ref 94)], [.ref 94], (sh, I, L, R))) (M := mr_291) rfl (show mcode 291 4 = some (4, .aload_n 0, 1, 0, 0, 0, _) from rfl) (Or.inl ⟨.ref 94, rfl, rfl⟩) ?_
  refine XW.fam (S' := (8, [(0, .ref 94)], [.int (I 94 50)], (sh, I, L, R))) (M := mr_291) rfl (show mcode 291 5 = some (5, .getfield 370, 3, 12, 50, 0, _) from rfl) (Or.inr (Or.inr (Or.inr (Or.inr (Or.inr (Or.inr (Or.inr (Or.inl ⟨_, _, rfl, fl_ldI c94 (by decide) (by decide), rfl⟩)))))))) ?_
  have k1 : bcmp .ge (I 94 50) 0 = true := bcT (c := .ge) (a := ((I 94 50)).toInt) (b := 0) rfl (by decide) (by show 0 ≤ ((I 94 50)).toInt; omega)
  refine XW.fam (S' := (38, [(0, .ref 94)], [], (sh, I, L, R))) (M := mr_291) rfl (show mcode 291 8 = some (8, .ifCond .ge 30, 3, 38, 0, 0, _) from rfl) (Or.inr (Or.inl ⟨38, [], by simp [brn, k1], rfl⟩)) ?_
  refine XW.ret (r := none) ⟨rfl, by decide +kernel⟩ ?_
  exact hQ
theorem any_lpM {d o : Nat} {sh : List mE} {J : Nat → Nat → Int32} {R : Nat → Nat → Option Nat} {b : Nat → Int} {n N : Nat} (hB : mBs J b n N) (ho : o ≤ 8) : ∀ (f : Nat) {I : Nat → Nat → Int32} {L : Nat → Nat → Int64} (i h : Nat) (c : Int), (∀ f2, f2 < f → CTm sh R J b n N d 292 5 7 f2) → QM sh R J b n N o (h + 1) c (true, i) (sh, I, L, R) → 0 ≤ c → h + 1 ≤ i → 10 * (N - i) + (8 + 1) ≤ f → XW 291 mr_291 none (d + 4 + (6 * (8 - o) + 6)) 0 0 (QMT sh R J b n N o (h + 1) c (gPx (tK b n) f 8 o i)) (4, [(0, .ref 94)], [], (sh, I, L, R)) := by
  have z0 : (0 : Int32).toInt = 0 := rfl
  have z5 : (5 : Int32).toInt = 5 := rfl
  intro f
  induction f with
  | zero =>
    intro I L i h c H0 hq hc0 hhi hmu
    exfalso
    omega
  | succ f ih =>
    intro I L i h c H0 hq hc0 hhi hmu
    obtain ⟨hf, hw, hk, hs0, hs1, hs2⟩ := id hq
    have hk : ∀ q k, inm mdM q k = false → I q k = J q k := hk
    have hst : mStt b n N I o (h + 1) i := hs1 rfl
    have hle : i ≤ N := hst.2.2.2.2.2
    have hN := hB.2.1.1
    have hN2 := hB.2.1.2
    have hlt : ¬ tK b n i = 302 → i < N := lt_N hN hle
    have hsl : (I 94 53).toInt + c ≤ (i : Int) := hs0.1
    have c94 : sh[94]? = some (.inr 12) := hw.1 94 _ rfl
    obtain ⟨fl, efl⟩ : ∃ z : Int32, I 94 50 = z := ⟨_, rfl⟩
    have hfl : fl.toInt = -1 := by rw [← efl]; exact hst.2.1
    refine XW.fam (S' := (5, [(0, .ref 94)], [.ref 94], (sh, I, L, R))) (M := mr_291) rfl (show mcode 291 4 = some (4, .aload_n 0, 1, 0, 0, 0, _) from rfl) (Or.inl ⟨.ref 94, rfl, rfl⟩) ?_
    refine XW.fam (S' := (8, [(0, .ref 94)], [.int (I 94 50)], (sh, I, L, R))) (M := mr_291) rfl (show mcode 291 5 = some (5, .getfield 370, 3, 12, 50, 0, _) from rfl) (Or.inr (Or.inr (Or.inr (Or.inr (Or.inr (Or.inr (Or.inr (Or.inl ⟨_, _, rfl, fl_ldI c94 (by decide) (by decide), rfl⟩)))))))) ?_
    rw [efl]
    have k1 : bcmp .ge fl 0 = false := bcF (c := .ge) (a := (fl).toInt) (b := 0) rfl (by decide) (by show ¬ (0 ≤ (fl).toInt); omega)
    refine XW.fam (S' := (11, [(0, .ref 94)], [], (sh, I, L, R))) (M := mr_291) rfl (show mcode 291 8 = some (8, .ifCond .ge 30, 3, 38, 0, 0, _) from rfl) (Or.inr (Or.inl ⟨11, [], by simp [brn, k1], rfl⟩)) ?_
    refine XW.fam (S' := (12, [(0, .ref 94)], [.ref 94], (sh, I, L, R))) (M := mr_291) rfl (show mcode 291 11 = some (11, .aload_n 0, 1, 0, 0, 0, _) from rfl) (Or.inl ⟨.ref 94, rfl, rfl⟩) ?_
    refine XW.fam (S' := (15, [(0, .ref 94)], [.long 423, .ref 94], (sh, I, L, R))) (M := mr_291) rfl (show mcode 291 12 = some (12, .ldc2_w 432, 3, 0, 0, 423, _) from rfl) (Or.inr (Or.inr (Or.inr (Or.inr (Or.inl ⟨.long 423, rfl, rfl⟩))))) ?_
    refine XW.call (d' := d) (mc' := 0) (ms' := 0) (av := [.ref 94, .long 423]) (rest := []) (M := mr_291) (Ma := mr_282) rfl (show mcode 291 15 = some (15, .invokevirtual 391, 3, 282, 0, 0, _) from rfl) rfl (by decide) (by decide) ⟨rfl, 94, _, rfl, c94⟩ rfl rfl (show 0 ≤ 8 by decide) (tc_isM (d := d) (t := 5) hB hq (by decide) (by decide)) (by omega) (Nat.zero_le _) (Nat.zero_le _) (fun rQ2 wQ2 Q2 => ?_)
    obtain ⟨hQ2, hwQ2⟩ := Q2
    subst hwQ2
    rcases hQ2 with ⟨rfl, gQ2⟩ | ⟨rfl, gQ2⟩
    · skip
      refine XW.fam (S' := (38, [(0, .ref 94)], [], (sh, I, L, R))) (M := mr_291) rfl (show mcode 291 18 = some (18, .ifCond .eq 20, 3, 38, 0, 0, _) from rfl) (Or.inr (Or.inl ⟨38, [], rfl, rfl⟩)) ?_
      refine XW.ret (r := none) ⟨rfl, by decide +kernel⟩ ?_
      rw [gPx_8]
      unfold gLp
      rw [if_neg (fun q => by have q1 := of_decide_eq_true q; have q2 : tK b n i = 261 := q1; omega)]
      exact ⟨rfl, QM_wk hq (by omega)⟩
    · skip
      refine XW.fam (S' := (21, [(0, .ref 94)], [], (sh, I, L, R))) (M := mr_291) rfl (show mcode 291 18 = some (18, .ifCond .eq 20, 3, 38, 0, 0, _) from rfl) (Or.inr (Or.inl ⟨21, [], rfl, rfl⟩)) ?_
      refine XW.fam (S' := (22, [(0, .ref 94)], [.ref 94], (sh, I, L, R))) (M := mr_291) rfl (show mcode 291 21 = some (21, .aload_n 0, 1, 0, 0, 0, _) from rfl) (Or.inl ⟨.ref 94, rfl, rfl⟩) ?_
      refine XW.call (d' := d + 2) (mc' := 0) (ms' := 0) (av := [.ref 94]) (rest := []) (M := mr_291) (Ma := mr_278) rfl (show mcode 291 22 = some (22, .invokevirtual 385, 3, 278, 0, 0, _) from rfl) rfl (by decide) (by decide) ⟨rfl, 94, _, rfl, c94⟩ rfl rfl (show 0 ≤ 8 by decide) (tc_nxtM (d := d) (c2 := (c + 1)) hB hq (lt_N hN hle (by omega)) (by omega)) (by omega) (Nat.zero_le _) (Nat.zero_le _) (fun rQ3 wQ3 Q3 => ?_)
      obtain ⟨hrQ3, hqQ3⟩ := Q3
      subst hrQ3
      obtain ⟨shQ3, IQ3, LQ3, RQ3⟩ := wQ3
      obtain rfl : sh = shQ3 := hqQ3.2.1.2.2.2.1.symm
      obtain rfl : R = RQ3 := hqQ3.2.1.2.2.2.2.1.symm
      refine XW.fam (S' := (26, [(0, .ref 94)], [.ref 94], (sh, IQ3, LQ3, R))) (M := mr_291) rfl (show mcode 291 25 = some (25, .aload_n 0, 1, 0, 0, 0, _) from rfl) (Or.inl ⟨.ref 94, rfl, rfl⟩) ?_
      refine XW.call (d' := (d + 4 + (6 * (8 - o) + 5))) (mc' := 0) (ms' := 0) (av := [.ref 94]) (rest := []) (M := mr_291) (Ma := mr_292) rfl (show mcode 291 26 = some (26, .invokevirtual 429, 3, 292, 0, 0, _) from rfl) rfl (by decide) (by decide) ⟨rfl, 94, _, rfl, c94⟩ rfl rfl (show 0 ≤ 8 by decide) (H0 f (by omega) o (i + 1) (h + 1) (c + 1) ho hqQ3 (by omega) (by omega) (by have := lt_N hN hle (by omega); omega)) (by omega) (Nat.zero_le _) (Nat.zero_le _) (fun rQ4 wQ4 Q4 => ?_)
      obtain ⟨hrQ4, hqQ4⟩ := Q4
      subst hrQ4
      obtain ⟨shQ4, IQ4, LQ4, RQ4⟩ := wQ4
      obtain rfl : sh = shQ4 := hqQ4.2.1.2.2.2.1.symm
      obtain rfl : R = RQ4 := hqQ4.2.1.2.2.2.2.1.symm
      refine XW.fam (S' := (30, [(0, .ref 94)], [.ref 94], (sh, IQ4, LQ4, R))) (M := mr_291) rfl (show mcode 291 29 = some (29, .aload_n 0, 1, 0, 0, 0, _) from rfl) (Or.inl ⟨.ref 94, rfl, rfl⟩) ?_
      refine XW.fam (S' := (31, [(0, .ref 94)], [.int 5, .ref 94], (sh, IQ4, LQ4, R))) (M := mr_291) rfl (show mcode 291 30 = some (30, .iconst 5, 1, 0, 0, 0, _) from rfl) (Or.inl ⟨.int 5, rfl, rfl⟩) ?_
      refine XW.fam (S' := (32, [(0, .ref 94)], [.int 0, .int 5, .ref 94], (sh, IQ4, LQ4, R))) (M := mr_291) rfl (show mcode 291 31 = some (31, .iconst 0, 1, 0, 0, 0, _) from rfl) (Or.inl ⟨.int 0, rfl, rfl⟩) ?_
      refine XW.call (d' := d) (mc' := 0) (ms' := 0) (av := [.ref 94, .int 5, .int 0]) (rest := []) (M := mr_291) (Ma := mr_287) rfl (show mcode 291 32 = some (32, .invokevirtual 395, 3, 287, 0, 0, _) from rfl) rfl (by decide) (by decide) ⟨rfl, 94, _, rfl, c94⟩ rfl rfl (show 0 ≤ 8 by decide) (tc_layQ (d := d) (h2 := (h + 1)) (c2 := c) hB hqQ4 (by decide) (fun _ => by have := lay_hi (x := (5 : Int32).toInt) (by decide); omega) (fun _ => by have := lay_hi (x := (5 : Int32).toInt) (by decide); omega) (by omega) (fun z => absurd z (by decide)) (by omega) (by omega)) (by omega) (Nat.zero_le _) (Nat.zero_le _) (fun rQ5 wQ5 Q5 => ?_)
      obtain ⟨hrQ5, hqQ5⟩ := Q5
      subst hrQ5
      obtain ⟨shQ5, IQ5, LQ5, RQ5⟩ := wQ5
      obtain rfl : sh = shQ5 := hqQ5.2.1.2.2.2.1.symm
      obtain rfl : R = RQ5 := hqQ5.2.1.2.2.2.2.1.symm
      refine XW.fam (S' := (4, [(0, .ref 94)], [], (sh, IQ5, LQ5, R))) (M := mr_291) rfl (show mcode 291 35 = some (35, .goto (-31), 3, 4, 0, 0, _) from rfl) (Or.inr (Or.inl ⟨4, [], rfl, rfl⟩)) ?_
      refine XW.sub (ls' := [(0, .ref 94)]) (List.forall_mem_cons.mpr ⟨List.mem_of_getElem? (i := 0) rfl, (fun _ h => absurd h List.not_mem_nil)⟩) ?_
      have hgo := (gPx_ok hN f o (i + 1) (by have := lt_N hN hle (by omega); omega)).1 7 (by omega)
      have eg : (gPx (tK b n) (f + 1) 8 o i) = gB (gPx (tK b n) f 7 o (i + 1)) (gPx (tK b n) f 8 o) := by
        rw [gPx_8]
        unfold gLp
        exact if_pos (decide_eq_true (show tK b n i = 261 by omega))
      rw [eg]
      cases e : (gPx (tK b n) f 7 o (i + 1)).1 with
      | true =>
        rw [gB_t e]
        have g1 := hgo.1
        have g2 := hgo.2.2 e rfl
        have g3 := hgo.2.1
        exact ih (gPx (tK b n) f 7 o (i + 1)).2 h c (fun f2 h2 => H0 f2 (by omega)) (QM_t e hqQ5) hc0 (by omega) (by omega)
      | false =>
        rw [gB_f e]
        exact any_outM hqQ5.2.1 (by have h8 := (hqQ5.2.2.2.2.2 e).1; have h9 : (IQ5 94 50).toInt = _ := h8; omega) ⟨rfl, hqQ5⟩
theorem any_ofM {d f : Nat} {sh : List mE} {J : Nat → Nat → Int32} {R : Nat → Nat → Option Nat} {b : Nat → Int} {n N : Nat} (hB : mBs J b n N) (H0 : ∀ f2, f2 < f + 1 → CTm sh R J b n N d 292 5 7 f2) : CTm sh R J b n N d 291 6 9 (f + 1) := by
  intro o i h c I L ho hq hc0 hhi hmu
  obtain ⟨hf, hw, hk, hs0, hs1, hs2⟩ := id hq
  have hk : ∀ q k, inm mdM q k = false → I q k = J q k := hk
  have hst : mStt b n N I o h i := hs1 rfl
  have hle : i ≤ N := hst.2.2.2.2.2
  have hN := hB.2.1.1
  have hN2 := hB.2.1.2
  have hlt : ¬ tK b n i = 302 → i < N := lt_N hN hle
  have hsl : (I 94 53).toInt + c ≤ (i : Int) := hs0.1
  have c94 : sh[94]? = some (.inr 12) := hw.1 94 _ rfl
  refine Tc.of mr_291 rfl (show 1 ≤ mr_291.2.2.2.1 by decide) ?_
  refine XW.fam (S' := (1, [(0, .ref 94)], [.ref 94], (sh, I, L, R))) (M := mr_291) rfl (show mcode 291 0 = some (0, .aload_n 0, 1, 0, 0, 0, _) from rfl) (Or.inl ⟨.ref 94, rfl, rfl⟩) ?_
  refine XW.call (d' := (d + 4 + (6 * (8 - o) + 5))) (mc' := 0) (ms' := 0) (av := [.ref 94]) (rest := []) (M := mr_291) (Ma := mr_292) rfl (show mcode 291 1 = some (1, .invokevirtual 429, 3, 292, 0, 0, _) from rfl) rfl (by decide) (by decide) ⟨rfl, 94, _, rfl, c94⟩ rfl rfl (show 0 ≤ 8 by decide) (H0 f (by omega) o i h c ho hq hc0 hhi (by omega)) (by omega) (Nat.zero_le _) (Nat.zero_le _) (fun rQ1 wQ1 Q1 => ?_)
  obtain ⟨hrQ1, hqQ1⟩ := Q1
  subst hrQ1
  obtain ⟨shQ1, IQ1, LQ1, RQ1⟩ := wQ1
  obtain rfl : sh = shQ1 := hqQ1.2.1.2.2.2.1.symm
  obtain rfl : R = RQ1 := hqQ1.2.1.2.2.2.2.1.symm
  refine XW.sub (ls' := [(0, .ref 94)]) (List.forall_mem_cons.mpr ⟨List.mem_of_getElem? (i := 0) rfl, (fun _ h => absurd h List.not_mem_nil)⟩) ?_
  have hgo := (gPx_ok hN f o i hle).1 7 (by omega)
  rw [gPx_9]
  cases e : (gPx (tK b n) f 7 o i).1 with
  | true =>
    rw [gB_t e]
    have g2 := hgo.2.2 e rfl
    have g3 := hgo.2.1
    exact any_lpM hB ho f (gPx (tK b n) f 7 o i).2 h c (fun f2 h2 => H0 f2 (by omega)) (QM_t e hqQ1) hc0 (by omega) (by omega)
  | false =>
    rw [gB_f e]
    exact any_outM hqQ1.2.1 (by have h8 := (hqQ1.2.2.2.2.2 e).1; have h9 : (IQ1 94 50).toInt = _ := h8; omega) ⟨rfl, hqQ1⟩
theorem tst_ofM {d f : Nat} {sh : List mE} {J : Nat → Nat → Int32} {R : Nat → Nat → Option Nat} {b : Nat → Int} {n N : Nat} (hB : mBs J b n N) (Hb : CTm sh R J b n N d 293 4 5 f) (Hq : CTm sh R J b n N d 291 6 9 f) (Hs : CTm sh R J b n N d 284 3 4 f) : CTm sh R J b n N d 293 4 5 (f + 1) := by
  intro o i h c I L ho hq hc0 hhi hmu
  obtain ⟨hf, hw, hk, hs0, hs1, hs2⟩ := id hq
  have hk : ∀ q k, inm mdM q k = false → I q k = J q k := hk
  have hst : mStt b n N I o h i := hs1 rfl
  have hle : i ≤ N := hst.2.2.2.2.2
  have hN := hB.2.1.1
  have hN2 := hB.2.1.2
  have hlt : ¬ tK b n i = 302 → i < N := lt_N hN hle
  have hsl : (I 94 53).toInt + c ≤ (i : Int) := hs0.1
  have c94 : sh[94]? = some (.inr 12) := hw.1 94 _ rfl
  have z0 : (0 : Int32).toInt = 0 := rfl
  have z1 : (1 : Int32).toInt = 1 := rfl
  have z3 : (3 : Int32).toInt = 3 := rfl
  have z60 : (60 : Int32).toInt = 60 := rfl
  have z61 : (61 : Int32).toInt = 61 := rfl
  have z62 : (62 : Int32).toInt = 62 := rfl
  have z91 : (91 : Int32).toInt = 91 := rfl
  have z93 : (93 : Int32).toInt = 93 := rfl
  obtain ⟨tk, etk⟩ : ∃ z : Int32, I 94 48 = z := ⟨_, rfl⟩
  have htk : tk.toInt = mtok b n (tS b n i) := by rw [← etk]; exact hst.1.2.2
  have m91 : mtok b n (tS b n i) = 91 ↔ tK b n i = 91 := mtok_sign hB.2.2.2 (by decide) (by decide) (by decide)
  refine Tc.of mr_293 rfl (show 1 ≤ mr_293.2.2.2.1 by decide) ?_
  refine XW.fam (S' := (1, [(0, .ref 94)], [.ref 94], (sh, I, L, R))) (M := mr_293) rfl (show mcode 293 0 = some (0, .aload_n 0, 1, 0, 0, 0, _) from rfl) (Or.inl ⟨.ref 94, rfl, rfl⟩) ?_
  refine XW.fam (S' := (4, [(0, .ref 94)], [.long 10631, .ref 94], (sh, I, L, R))) (M := mr_293) rfl (show mcode 293 1 = some (1, .ldc2_w 419, 3, 0, 0, 10631, _) from rfl) (Or.inr (Or.inr (Or.inr (Or.inr (Or.inl ⟨.long 10631, rfl, rfl⟩))))) ?_
  refine XW.call (d' := d) (mc' := 0) (ms' := 0) (av := [.ref 94, .long 10631]) (rest := []) (M := mr_293) (Ma := mr_282) rfl (show mcode 293 4 = some (4, .invokevirtual 391, 3, 282, 0, 0, _) from rfl) rfl (by decide) (by decide) ⟨rfl, 94, _, rfl, c94⟩ rfl rfl (show 0 ≤ 8 by decide) (tc_isM (d := d) (t := 7) hB hq (by decide) (by decide)) (by omega) (Nat.zero_le _) (Nat.zero_le _) (fun rQ1 wQ1 Q1 => ?_)
  obtain ⟨hQ1, hwQ1⟩ := Q1
  subst hwQ1
  rcases hQ1 with ⟨rfl, gQ1⟩ | ⟨rfl, gQ1⟩
  · skip
    refine XW.fam (S' := (39, [(0, .ref 94)], [], (sh, I, L, R))) (M := mr_293) rfl (show mcode 293 7 = some (7, .ifCond .eq 32, 3, 39, 0, 0, _) from rfl) (Or.inr (Or.inl ⟨39, [], rfl, rfl⟩)) ?_
    refine XW.fam (S' := (40, [(0, .ref 94)], [.ref 94], (sh, I, L, R))) (M := mr_293) rfl (show mcode 293 39 = some (39, .aload_n 0, 1, 0, 0, 0, _) from rfl) (Or.inl ⟨.ref 94, rfl, rfl⟩) ?_
    refine XW.fam (S' := (43, [(0, .ref 94)], [.int (I 94 48)], (sh, I, L, R))) (M := mr_293) rfl (show mcode 293 40 = some (40, .getfield 354, 3, 12, 48, 0, _) from rfl) (Or.inr (Or.inr (Or.inr (Or.inr (Or.inr (Or.inr (Or.inr (Or.inl ⟨_, _, rfl, fl_ldI c94 (by decide) (by decide), rfl⟩)))))))) ?_
    rw [etk]
    refine XW.fam (S' := (45, [(0, .ref 94)], [.int 91, .int tk], (sh, I, L, R))) (M := mr_293) rfl (show mcode 293 43 = some (43, .bipush 91, 2, 0, 0, 0, _) from rfl) (Or.inl ⟨.int 91, rfl, rfl⟩) ?_
    cases k2 : bcmp .ne tk 91 with
    | true =>
      have gk2 : ¬ (tk).toInt = 91 := icT (c := .ne) (a := (tk).toInt) (b := 91) rfl (by decide) k2
      refine XW.fam (S' := (78, [(0, .ref 94)], [], (sh, I, L, R))) (M := mr_293) rfl (show mcode 293 45 = some (45, .if_icmp .ne 33, 3, 78, 0, 0, _) from rfl) (Or.inr (Or.inl ⟨78, [], by simp [brn, k2], rfl⟩)) ?_
      refine XW.fam (S' := (79, [(0, .ref 94)], [.ref 94], (sh, I, L, R))) (M := mr_293) rfl (show mcode 293 78 = some (78, .aload_n 0, 1, 0, 0, 0, _) from rfl) (Or.inl ⟨.ref 94, rfl, rfl⟩) ?_
      refine XW.call (d' := (d + 4 + (6 * (8 - o) + 3))) (mc' := 0) (ms' := 0) (av := [.ref 94]) (rest := []) (M := mr_293) (Ma := mr_284) rfl (show mcode 293 79 = some (79, .invokevirtual 403, 3, 284, 0, 0, _) from rfl) rfl (by decide) (by decide) ⟨rfl, 94, _, rfl, c94⟩ rfl rfl (show 0 ≤ 8 by decide) (Hs o i h c (by omega) (QM_wk hq (by omega)) (by omega) (by omega) (by omega)) (by omega) (Nat.zero_le _) (Nat.zero_le _) (fun rQ3 wQ3 Q3 => ?_)
      obtain ⟨hrQ3, hqQ3⟩ := Q3
      subst hrQ3
      obtain ⟨shQ3, IQ3, LQ3, RQ3⟩ := wQ3
      obtain rfl : sh = shQ3 := hqQ3.2.1.2.2.2.1.symm
      obtain rfl : R = RQ3 := hqQ3.2.1.2.2.2.2.1.symm
      have hgo := (gPx_ok hN f o i hle).1 4 (by omega)
      cases e : (gPx (tK b n) f 4 o i).1 with
      | true =>
        have hst2 : mStt b n N IQ3 o (h + 1) (gPx (tK b n) f 4 o i).2 := hqQ3.2.2.2.2.1 e
        have hle2 := hgo.2.1
        have hg2 := hgo.2.2 e rfl
        have hqt := QM_t e hqQ3
        obtain ⟨fl2, efl2⟩ : ∃ z : Int32, IQ3 94 50 = z := ⟨_, rfl⟩
        have hfl2 : fl2.toInt = -1 := by rw [← efl2]; exact hst2.2.1
        obtain ⟨tk2, etk2⟩ : ∃ z : Int32, IQ3 94 48 = z := ⟨_, rfl⟩
        have htk2 : tk2.toInt = mtok b n (tS b n (gPx (tK b n) f 4 o i).2) := by rw [← etk2]; exact hst2.1.2.2
        have m602 : mtok b n (tS b n (gPx (tK b n) f 4 o i).2) = 60 ↔ tK b n (gPx (tK b n) f 4 o i).2 = 60 := mtok_sign hB.2.2.2 (by decide) (by decide) (by decide)
        have m612 : mtok b n (tS b n (gPx (tK b n) f 4 o i).2) = 61 ↔ tK b n (gPx (tK b n) f 4 o i).2 = 61 := mtok_sign hB.2.2.2 (by decide) (by decide) (by decide)
        have m622 : mtok b n (tS b n (gPx (tK b n) f 4 o i).2) = 62 ↔ tK b n (gPx (tK b n) f 4 o i).2 = 62 := mtok_sign hB.2.2.2 (by decide) (by decide) (by decide)
        refine XW.fam (S' := (83, [(0, .ref 94)], [.ref 94], (sh, IQ3, LQ3, R))) (M := mr_293) rfl (show mcode 293 82 = some (82, .aload_n 0, 1, 0, 0, 0, _) from rfl) (Or.inl ⟨.ref 94, rfl, rfl⟩) ?_
        refine XW.fam (S' := (86, [(0, .ref 94)], [.int (IQ3 94 50)], (sh, IQ3, LQ3, R))) (M := mr_293) rfl (show mcode 293 83 = some (83, .getfield 370, 3, 12, 50, 0, _) from rfl) (Or.inr (Or.inr (Or.inr (Or.inr (Or.inr (Or.inr (Or.inr (Or.inl ⟨_, _, rfl, fl_ldI c94 (by decide) (by decide), rfl⟩)))))))) ?_
        rw [efl2]
        have k4 : bcmp .lt fl2 0 = true := bcT (c := .lt) (a := (fl2).toInt) (b := 0) rfl (by decide) (by show (fl2).toInt < 0; omega)
        refine XW.fam (S' := (90, [(0, .ref 94)], [], (sh, IQ3, LQ3, R))) (M := mr_293) rfl (show mcode 293 86 = some (86, .ifCond .lt 4, 3, 90, 0, 0, _) from rfl) (Or.inr (Or.inl ⟨90, [], by simp [brn, k4], rfl⟩)) ?_
        refine XW.fam (S' := (91, [(0, .ref 94)], [.ref 94], (sh, IQ3, LQ3, R))) (M := mr_293) rfl (show mcode 293 90 = some (90, .aload_n 0, 1, 0, 0, 0, _) from rfl) (Or.inl ⟨.ref 94, rfl, rfl⟩) ?_
        refine XW.fam (S' := (94, [(0, .ref 94)], [.int (IQ3 94 48)], (sh, IQ3, LQ3, R))) (M := mr_293) rfl (show mcode 293 91 = some (91, .getfield 354, 3, 12, 48, 0, _) from rfl) (Or.inr (Or.inr (Or.inr (Or.inr (Or.inr (Or.inr (Or.inr (Or.inl ⟨_, _, rfl, fl_ldI c94 (by decide) (by decide), rfl⟩)))))))) ?_
        rw [etk2]
        refine XW.fam (S' := (95, [(1, .int tk2), (0, .ref 94)], [], (sh, IQ3, LQ3, R))) (M := mr_293) rfl (show mcode 293 94 = some (94, .istore_n 1, 1, 0, 0, 0, _) from rfl) (Or.inr (Or.inr (Or.inr (Or.inr (Or.inr (Or.inr (Or.inl ⟨_, [], _, rfl, rfl, rfl⟩))))))) ?_
        refine XW.fam (S' := (96, [(1, .int tk2), (0, .ref 94)], [.int tk2], (sh, IQ3, LQ3, R))) (M := mr_293) rfl (show mcode 293 95 = some (95, .iload_n 1, 1, 0, 0, 0, _) from rfl) (Or.inl ⟨.int tk2, rfl, rfl⟩) ?_
        refine XW.fam (S' := (98, [(1, .int tk2), (0, .ref 94)], [.int 60, .int tk2], (sh, IQ3, LQ3, R))) (M := mr_293) rfl (show mcode 293 96 = some (96, .bipush 60, 2, 0, 0, 0, _) from rfl) (Or.inl ⟨.int 60, rfl, rfl⟩) ?_
        cases k5 : bcmp .eq tk2 60 with
        | true =>
          have gk5 : (tk2).toInt = 60 := icT (c := .eq) (a := (tk2).toInt) (b := 60) rfl (by decide) k5
          refine XW.fam (S' := (118, [(1, .int tk2), (0, .ref 94)], [], (sh, IQ3, LQ3, R))) (M := mr_293) rfl (show mcode 293 98 = some (98, .if_icmp .eq 20, 3, 118, 0, 0, _) from rfl) (Or.inr (Or.inl ⟨118, [], by simp [brn, k5], rfl⟩)) ?_
          refine XW.fam (S' := (119, [(1, .int tk2), (0, .ref 94)], [.ref 94], (sh, IQ3, LQ3, R))) (M := mr_293) rfl (show mcode 293 118 = some (118, .aload_n 0, 1, 0, 0, 0, _) from rfl) (Or.inl ⟨.ref 94, rfl, rfl⟩) ?_
          refine XW.call (d' := d + 2) (mc' := 0) (ms' := 0) (av := [.ref 94]) (rest := []) (M := mr_293) (Ma := mr_278) rfl (show mcode 293 119 = some (119, .invokevirtual 385, 3, 278, 0, 0, _) from rfl) rfl (by decide) (by decide) ⟨rfl, 94, _, rfl, c94⟩ rfl rfl (show 0 ≤ 8 by decide) (tc_nxtM (d := d) (c2 := (c + 1)) hB hqt (lt_N hN hle2 (by omega)) (by omega)) (by omega) (Nat.zero_le _) (Nat.zero_le _) (fun rQ6 wQ6 Q6 => ?_)
          obtain ⟨hrQ6, hqQ6⟩ := Q6
          subst hrQ6
          obtain ⟨shQ6, IQ6, LQ6, RQ6⟩ := wQ6
          obtain rfl : sh = shQ6 := hqQ6.2.1.2.2.2.1.symm
          obtain rfl : R = RQ6 := hqQ6.2.1.2.2.2.2.1.symm
          refine XW.fam (S' := (123, [(1, .int tk2), (0, .ref 94)], [.ref 94], (sh, IQ6, LQ6, R))) (M := mr_293) rfl (show mcode 293 122 = some (122, .aload_n 0, 1, 0, 0, 0, _) from rfl) (Or.inl ⟨.ref 94, rfl, rfl⟩) ?_
          refine XW.call (d' := (d + 4 + (6 * (8 - o) + 3))) (mc' := 0) (ms' := 0) (av := [.ref 94]) (rest := []) (M := mr_293) (Ma := mr_284) rfl (show mcode 293 123 = some (123, .invokevirtual 403, 3, 284, 0, 0, _) from rfl) rfl (by decide) (by decide) ⟨rfl, 94, _, rfl, c94⟩ rfl rfl (show 0 ≤ 8 by decide) (Hs o ((gPx (tK b n) f 4 o i).2 + 1) (h + 1) (c + 1) ho hqQ6 (by omega) (by omega) (by have g1 := lt_N hN hle2 (by omega); have g2 := hgo.2.2 e rfl; omega)) (by omega) (Nat.zero_le _) (Nat.zero_le _) (fun rQ7 wQ7 Q7 => ?_)
          obtain ⟨hrQ7, hqQ7⟩ := Q7
          subst hrQ7
          obtain ⟨shQ7, IQ7, LQ7, RQ7⟩ := wQ7
          obtain rfl : sh = shQ7 := hqQ7.2.1.2.2.2.1.symm
          obtain rfl : R = RQ7 := hqQ7.2.1.2.2.2.2.1.symm
          refine XW.fam (S' := (127, [(1, .int tk2), (0, .ref 94)], [.ref 94], (sh, IQ7, LQ7, R))) (M := mr_293) rfl (show mcode 293 126 = some (126, .aload_n 0, 1, 0, 0, 0, _) from rfl) (Or.inl ⟨.ref 94, rfl, rfl⟩) ?_
          refine XW.fam (S' := (128, [(1, .int tk2), (0, .ref 94)], [.int tk2, .ref 94], (sh, IQ7, LQ7, R))) (M := mr_293) rfl (show mcode 293 127 = some (127, .iload_n 1, 1, 0, 0, 0, _) from rfl) (Or.inl ⟨.int tk2, rfl, rfl⟩) ?_
          refine XW.fam (S' := (129, [(1, .int tk2), (0, .ref 94)], [.int 0, .int tk2, .ref 94], (sh, IQ7, LQ7, R))) (M := mr_293) rfl (show mcode 293 128 = some (128, .iconst 0, 1, 0, 0, 0, _) from rfl) (Or.inl ⟨.int 0, rfl, rfl⟩) ?_
          refine XW.call (d' := d) (mc' := 0) (ms' := 0) (av := [.ref 94, .int tk2, .int 0]) (rest := []) (M := mr_293) (Ma := mr_287) rfl (show mcode 293 129 = some (129, .invokevirtual 395, 3, 287, 0, 0, _) from rfl) rfl (by decide) (by decide) ⟨rfl, 94, _, rfl, c94⟩ rfl rfl (show 0 ≤ 8 by decide) (tc_layQ (d := d) (h2 := (h + 1)) (c2 := c) hB hqQ7 ⟨by omega, by omega⟩ (fun _ => by have := lay_hi (x := (tk2 : Int32).toInt) (by omega); omega) (fun _ => by have := lay_hi (x := (tk2 : Int32).toInt) (by omega); omega) (by omega) (fun z => by omega) (by omega) (by omega)) (by omega) (Nat.zero_le _) (Nat.zero_le _) (fun rQ8 wQ8 Q8 => ?_)
          obtain ⟨hrQ8, hqQ8⟩ := Q8
          subst hrQ8
          obtain ⟨shQ8, IQ8, LQ8, RQ8⟩ := wQ8
          obtain rfl : sh = shQ8 := hqQ8.2.1.2.2.2.1.symm
          obtain rfl : R = RQ8 := hqQ8.2.1.2.2.2.2.1.symm
          refine XW.ret (r := none) ⟨rfl, by decide +kernel⟩ ?_
          rw [gPx_5]
          unfold g5
          rw [if_neg (by omega), if_neg (by omega)]
          rw [gB_t e, if_pos (by omega)]
          exact ⟨rfl, QM_wk hqQ8 (by omega)⟩
        | false =>
          have gk5 : ¬ ((tk2).toInt = 60) := icF (c := .eq) (a := (tk2).toInt) (b := 60) rfl (by decide) k5
          refine XW.fam (S' := (101, [(1, .int tk2), (0, .ref 94)], [], (sh, IQ3, LQ3, R))) (M := mr_293) rfl (show mcode 293 98 = some (98, .if_icmp .eq 20, 3, 118, 0, 0, _) from rfl) (Or.inr (Or.inl ⟨101, [], by simp [brn, k5], rfl⟩)) ?_
          refine XW.fam (S' := (102, [(1, .int tk2), (0, .ref 94)], [.int tk2], (sh, IQ3, LQ3, R))) (M := mr_293) rfl (show mcode 293 101 = some (101, .iload_n 1, 1, 0, 0, 0, _) from rfl) (Or.inl ⟨.int tk2, rfl, rfl⟩) ?_
          refine XW.fam (S' := (104, [(1, .int tk2), (0, .ref 94)], [.int 61, .int tk2], (sh, IQ3, LQ3, R))) (M := mr_293) rfl (show mcode 293 102 = some (102, .bipush 61, 2, 0, 0, 0, _) from rfl) (Or.inl ⟨.int 61, rfl, rfl⟩) ?_
          cases k9 : bcmp .eq tk2 61 with
          | true =>
            have gk9 : (tk2).toInt = 61 := icT (c := .eq) (a := (tk2).toInt) (b := 61) rfl (by decide) k9
            refine XW.fam (S' := (118, [(1, .int tk2), (0, .ref 94)], [], (sh, IQ3, LQ3, R))) (M := mr_293) rfl (show mcode 293 104 = some (104, .if_icmp .eq 14, 3, 118, 0, 0, _) from rfl) (Or.inr (Or.inl ⟨118, [], by simp [brn, k9], rfl⟩)) ?_
            refine XW.fam (S' := (119, [(1, .int tk2), (0, .ref 94)], [.ref 94], (sh, IQ3, LQ3, R))) (M := mr_293) rfl (show mcode 293 118 = some (118, .aload_n 0, 1, 0, 0, 0, _) from rfl) (Or.inl ⟨.ref 94, rfl, rfl⟩) ?_
            refine XW.call (d' := d + 2) (mc' := 0) (ms' := 0) (av := [.ref 94]) (rest := []) (M := mr_293) (Ma := mr_278) rfl (show mcode 293 119 = some (119, .invokevirtual 385, 3, 278, 0, 0, _) from rfl) rfl (by decide) (by decide) ⟨rfl, 94, _, rfl, c94⟩ rfl rfl (show 0 ≤ 8 by decide) (tc_nxtM (d := d) (c2 := (c + 1)) hB hqt (lt_N hN hle2 (by omega)) (by omega)) (by omega) (Nat.zero_le _) (Nat.zero_le _) (fun rQ10 wQ10 Q10 => ?_)
            obtain ⟨hrQ10, hqQ10⟩ := Q10
            subst hrQ10
            obtain ⟨shQ10, IQ10, LQ10, RQ10⟩ := wQ10
            obtain rfl : sh = shQ10 := hqQ10.2.1.2.2.2.1.symm
            obtain rfl : R = RQ10 := hqQ10.2.1.2.2.2.2.1.symm
            refine XW.fam (S' := (123, [(1, .int tk2), (0, .ref 94)], [.ref 94], (sh, IQ10, LQ10, R))) (M := mr_293) rfl (show mcode 293 122 = some (122, .aload_n 0, 1, 0, 0, 0, _) from rfl) (Or.inl ⟨.ref 94, rfl, rfl⟩) ?_
            refine XW.call (d' := (d + 4 + (6 * (8 - o) + 3))) (mc' := 0) (ms' := 0) (av := [.ref 94]) (rest := []) (M := mr_293) (Ma := mr_284) rfl (show mcode 293 123 = some (123, .invokevirtual 403, 3, 284, 0, 0, _) from rfl) rfl (by decide) (by decide) ⟨rfl, 94, _, rfl, c94⟩ rfl rfl (show 0 ≤ 8 by decide) (Hs o ((gPx (tK b n) f 4 o i).2 + 1) (h + 1) (c + 1) ho hqQ10 (by omega) (by omega) (by have g1 := lt_N hN hle2 (by omega); have g2 := hgo.2.2 e rfl; omega)) (by omega) (Nat.zero_le _) (Nat.zero_le _) (fun rQ11 wQ11 Q11 => ?_)
            obtain ⟨hrQ11, hqQ11⟩ := Q11
            subst hrQ11
            obtain ⟨shQ11, IQ11, LQ11, RQ11⟩ := wQ11
            obtain rfl : sh = shQ11 := hqQ11.2.1.2.2.2.1.symm
            obtain rfl : R = RQ11 := hqQ11.2.1.2.2.2.2.1.symm
            refine XW.fam (S' := (127, [(1, .int tk2), (0, .ref 94)], [.ref 94], (sh, IQ11, LQ11, R))) (M := mr_293) rfl (show mcode 293 126 = some (126, .aload_n 0, 1, 0, 0, 0, _) from rfl) (Or.inl ⟨.ref 94, rfl, rfl⟩) ?_
            refine XW.fam (S' := (128, [(1, .int tk2), (0, .ref 94)], [.int tk2, .ref 94], (sh, IQ11, LQ11, R))) (M := mr_293) rfl (show mcode 293 127 = some (127, .iload_n 1, 1, 0, 0, 0, _) from rfl) (Or.inl ⟨.int tk2, rfl, rfl⟩) ?_
            refine XW.fam (S' := (129, [(1, .int tk2), (0, .ref 94)], [.int 0, .int tk2, .ref 94], (sh, IQ11, LQ11, R))) (M := mr_293) rfl (show mcode 293 128 = some (128, .iconst 0, 1, 0, 0, 0, _) from rfl) (Or.inl ⟨.int 0, rfl, rfl⟩) ?_
            refine XW.call (d' := d) (mc' := 0) (ms' := 0) (av := [.ref 94, .int tk2, .int 0]) (rest := []) (M := mr_293) (Ma := mr_287) rfl (show mcode 293 129 = some (129, .invokevirtual 395, 3, 287, 0, 0, _) from rfl) rfl (by decide) (by decide) ⟨rfl, 94, _, rfl, c94⟩ rfl rfl (show 0 ≤ 8 by decide) (tc_layQ (d := d) (h2 := (h + 1)) (c2 := c) hB hqQ11 ⟨by omega, by omega⟩ (fun _ => by have := lay_hi (x := (tk2 : Int32).toInt) (by omega); omega) (fun _ => by have := lay_hi (x := (tk2 : Int32).toInt) (by omega); omega) (by omega) (fun z => by omega) (by omega) (by omega)) (by omega) (Nat.zero_le _) (Nat.zero_le _) (fun rQ12 wQ12 Q12 => ?_)
            obtain ⟨hrQ12, hqQ12⟩ := Q12
            subst hrQ12
            obtain ⟨shQ12, IQ12, LQ12, RQ12⟩ := wQ12
            obtain rfl : sh = shQ12 := hqQ12.2.1.2.2.2.1.symm
            obtain rfl : R = RQ12 := hqQ12.2.1.2.2.2.2.1.symm
            refine XW.ret (r := none) ⟨rfl, by decide +kernel⟩ ?_
            rw [gPx_5]
            unfold g5
            rw [if_neg (by omega), if_neg (by omega)]
            rw [gB_t e, if_pos (by omega)]
            exact ⟨rfl, QM_wk hqQ12 (by omega)⟩
          | false =>
            have gk9 : ¬ ((tk2).toInt = 61) := icF (c := .eq) (a := (tk2).toInt) (b := 61) rfl (by decide) k9
            refine XW.fam (S' := (107, [(1, .int tk2), (0, .ref 94)], [], (sh, IQ3, LQ3, R))) (M := mr_293) rfl (show mcode 293 104 = some (104, .if_icmp .eq 14, 3, 118, 0, 0, _) from rfl) (Or.inr (Or.inl ⟨107, [], by simp [brn, k9], rfl⟩)) ?_
            refine XW.fam (S' := (108, [(1, .int tk2), (0, .ref 94)], [.int tk2], (sh, IQ3, LQ3, R))) (M := mr_293) rfl (show mcode 293 107 = some (107, .iload_n 1, 1, 0, 0, 0, _) from rfl) (Or.inl ⟨.int tk2, rfl, rfl⟩) ?_
            refine XW.fam (S' := (110, [(1, .int tk2), (0, .ref 94)], [.int 62, .int tk2], (sh, IQ3, LQ3, R))) (M := mr_293) rfl (show mcode 293 108 = some (108, .bipush 62, 2, 0, 0, 0, _) from rfl) (Or.inl ⟨.int 62, rfl, rfl⟩) ?_
            cases k13 : bcmp .eq tk2 62 with
            | true =>
              have gk13 : (tk2).toInt = 62 := icT (c := .eq) (a := (tk2).toInt) (b := 62) rfl (by decide) k13
              refine XW.fam (S' := (118, [(1, .int tk2), (0, .ref 94)], [], (sh, IQ3, LQ3, R))) (M := mr_293) rfl (show mcode 293 110 = some (110, .if_icmp .eq 8, 3, 118, 0, 0, _) from rfl) (Or.inr (Or.inl ⟨118, [], by simp [brn, k13], rfl⟩)) ?_
              refine XW.fam (S' := (119, [(1, .int tk2), (0, .ref 94)], [.ref 94], (sh, IQ3, LQ3, R))) (M := mr_293) rfl (show mcode 293 118 = some (118, .aload_n 0, 1, 0, 0, 0, _) from rfl) (Or.inl ⟨.ref 94, rfl, rfl⟩) ?_
              refine XW.call (d' := d + 2) (mc' := 0) (ms' := 0) (av := [.ref 94]) (rest := []) (M := mr_293) (Ma := mr_278) rfl (show mcode 293 119 = some (119, .invokevirtual 385, 3, 278, 0, 0, _) from rfl) rfl (by decide) (by decide) ⟨rfl, 94, _, rfl, c94⟩ rfl rfl (show 0 ≤ 8 by decide) (tc_nxtM (d := d) (c2 := (c + 1)) hB hqt (lt_N hN hle2 (by omega)) (by omega)) (by omega) (Nat.zero_le _) (Nat.zero_le _) (fun rQ14 wQ14 Q14 => ?_)
              obtain ⟨hrQ14, hqQ14⟩ := Q14
              subst hrQ14
              obtain ⟨shQ14, IQ14, LQ14, RQ14⟩ := wQ14
              obtain rfl : sh = shQ14 := hqQ14.2.1.2.2.2.1.symm
              obtain rfl : R = RQ14 := hqQ14.2.1.2.2.2.2.1.symm
              refine XW.fam (S' := (123, [(1, .int tk2), (0, .ref 94)], [.ref 94], (sh, IQ14, LQ14, R))) (M := mr_293) rfl (show mcode 293 122 = some (122, .aload_n 0, 1, 0, 0, 0, _) from rfl) (Or.inl ⟨.ref 94, rfl, rfl⟩) ?_
              refine XW.call (d' := (d + 4 + (6 * (8 - o) + 3))) (mc' := 0) (ms' := 0) (av := [.ref 94]) (rest := []) (M := mr_293) (Ma := mr_284) rfl (show mcode 293 123 = some (123, .invokevirtual 403, 3, 284, 0, 0, _) from rfl) rfl (by decide) (by decide) ⟨rfl, 94, _, rfl, c94⟩ rfl rfl (show 0 ≤ 8 by decide) (Hs o ((gPx (tK b n) f 4 o i).2 + 1) (h + 1) (c + 1) ho hqQ14 (by omega) (by omega) (by have g1 := lt_N hN hle2 (by omega); have g2 := hgo.2.2 e rfl; omega)) (by omega) (Nat.zero_le _) (Nat.zero_le _) (fun rQ15 wQ15 Q15 => ?_)
              obtain ⟨hrQ15, hqQ15⟩ := Q15
              subst hrQ15
              obtain ⟨shQ15, IQ15, LQ15, RQ15⟩ := wQ15
              obtain rfl : sh = shQ15 := hqQ15.2.1.2.2.2.1.symm
              obtain rfl : R = RQ15 := hqQ15.2.1.2.2.2.2.1.symm
              refine XW.fam (S' := (127, [(1, .int tk2), (0, .ref 94)], [.ref 94], (sh, IQ15, LQ15, R))) (M := mr_293) rfl (show mcode 293 126 = some (126, .aload_n 0, 1, 0, 0, 0, _) from rfl) (Or.inl ⟨.ref 94, rfl, rfl⟩) ?_
              refine XW.fam (S' := (128, [(1, .int tk2), (0, .ref 94)], [.int tk2, .ref 94], (sh, IQ15, LQ15, R))) (M := mr_293) rfl (show mcode 293 127 = some (127, .iload_n 1, 1, 0, 0, 0, _) from rfl) (Or.inl ⟨.int tk2, rfl, rfl⟩) ?_
              refine XW.fam (S' := (129, [(1, .int tk2), (0, .ref 94)], [.int 0, .int tk2, .ref 94], (sh, IQ15, LQ15, R))) (M := mr_293) rfl (show mcode 293 128 = some (128, .iconst 0, 1, 0, 0, 0, _) from rfl) (Or.inl ⟨.int 0, rfl, rfl⟩) ?_
              refine XW.call (d' := d) (mc' := 0) (ms' := 0) (av := [.ref 94, .int tk2, .int 0]) (rest := []) (M := mr_293) (Ma := mr_287) rfl (show mcode 293 129 = some (129, .invokevirtual 395, 3, 287, 0, 0, _) from rfl) rfl (by decide) (by decide) ⟨rfl, 94, _, rfl, c94⟩ rfl rfl (show 0 ≤ 8 by decide) (tc_layQ (d := d) (h2 := (h + 1)) (c2 := c) hB hqQ15 ⟨by omega, by omega⟩ (fun _ => by have := lay_hi (x := (tk2 : Int32).toInt) (by omega); omega) (fun _ => by have := lay_hi (x := (tk2 : Int32).toInt) (by omega); omega) (by omega) (fun z => by omega) (by omega) (by omega)) (by omega) (Nat.zero_le _) (Nat.zero_le _) (fun rQ16 wQ16 Q16 => ?_)
              obtain ⟨hrQ16, hqQ16⟩ := Q16
              subst hrQ16
              obtain ⟨shQ16, IQ16, LQ16, RQ16⟩ := wQ16
              obtain rfl : sh = shQ16 := hqQ16.2.1.2.2.2.1.symm
              obtain rfl : R = RQ16 := hqQ16.2.1.2.2.2.2.1.symm
              refine XW.ret (r := none) ⟨rfl, by decide +kernel⟩ ?_
              rw [gPx_5]
              unfold g5
              rw [if_neg (by omega), if_neg (by omega)]
              rw [gB_t e, if_pos (by omega)]
              exact ⟨rfl, QM_wk hqQ16 (by omega)⟩
            | false =>
              have gk13 : ¬ ((tk2).toInt = 62) := icF (c := .eq) (a := (tk2).toInt) (b := 62) rfl (by decide) k13
              refine XW.fam (S' := (113, [(1, .int tk2), (0, .ref 94)], [], (sh, IQ3, LQ3, R))) (M := mr_293) rfl (show mcode 293 110 = some (110, .if_icmp .eq 8, 3, 118, 0, 0, _) from rfl) (Or.inr (Or.inl ⟨113, [], by simp [brn, k13], rfl⟩)) ?_
              refine XW.fam (S' := (114, [(1, .int tk2), (0, .ref 94)], [.ref 94], (sh, IQ3, LQ3, R))) (M := mr_293) rfl (show mcode 293 113 = some (113, .aload_n 0, 1, 0, 0, 0, _) from rfl) (Or.inl ⟨.ref 94, rfl, rfl⟩) ?_
              refine XW.call (d' := d) (mc' := 0) (ms' := 0) (av := [.ref 94]) (rest := []) (M := mr_293) (Ma := mr_283) rfl (show mcode 293 114 = some (114, .invokevirtual 382, 3, 283, 0, 0, _) from rfl) rfl (by decide) (by decide) ⟨rfl, 94, _, rfl, c94⟩ rfl rfl (show 0 ≤ 8 by decide) (tc_wrM (d := d) (h2 := h + 1) hB hqt) (by omega) (Nat.zero_le _) (Nat.zero_le _) (fun rQ17 wQ17 Q17 => ?_)
              obtain ⟨hrQ17, hqQ17⟩ := Q17
              subst hrQ17
              obtain ⟨shQ17, IQ17, LQ17, RQ17⟩ := wQ17
              obtain rfl : sh = shQ17 := hqQ17.2.1.2.2.2.1.symm
              obtain rfl : R = RQ17 := hqQ17.2.1.2.2.2.2.1.symm
              refine XW.ret (r := none) ⟨rfl, by decide +kernel⟩ ?_
              rw [gPx_5]
              unfold g5
              rw [if_neg (by omega), if_neg (by omega)]
              rw [gB_t e, if_neg (by omega)]
              exact ⟨rfl, QM_wk hqQ17 (by omega)⟩
      | false =>
        obtain ⟨fl4, efl4⟩ : ∃ z : Int32, IQ3 94 50 = z := ⟨_, rfl⟩
        have hfl4 : fl4.toInt = (tS b n (gPx (tK b n) f 4 o i).2 : Int) := by rw [← efl4]; exact (hqQ3.2.2.2.2.2 e).1
        refine XW.fam (S' := (83, [(0, .ref 94)], [.ref 94], (sh, IQ3, LQ3, R))) (M := mr_293) rfl (show mcode 293 82 = some (82, .aload_n 0, 1, 0, 0, 0, _) from rfl) (Or.inl ⟨.ref 94, rfl, rfl⟩) ?_
        refine XW.fam (S' := (86, [(0, .ref 94)], [.int (IQ3 94 50)], (sh, IQ3, LQ3, R))) (M := mr_293) rfl (show mcode 293 83 = some (83, .getfield 370, 3, 12, 50, 0, _) from rfl) (Or.inr (Or.inr (Or.inr (Or.inr (Or.inr (Or.inr (Or.inr (Or.inl ⟨_, _, rfl, fl_ldI c94 (by decide) (by decide), rfl⟩)))))))) ?_
        rw [efl4]
        have k18 : bcmp .lt fl4 0 = false := bcF (c := .lt) (a := (fl4).toInt) (b := 0) rfl (by decide) (by show ¬ ((fl4).toInt < 0); omega)
        refine XW.fam (S' := (89, [(0, .ref 94)], [], (sh, IQ3, LQ3, R))) (M := mr_293) rfl (show mcode 293 86 = some (86, .ifCond .lt 4, 3, 90, 0, 0, _) from rfl) (Or.inr (Or.inl ⟨89, [], by simp [brn, k18], rfl⟩)) ?_
        refine XW.ret (r := none) ⟨rfl, by decide +kernel⟩ ?_
        rw [gPx_5]
        unfold g5
        rw [if_neg (by omega), if_neg (by omega)]
        rw [gB_f e]
        exact ⟨rfl, QM_wk hqQ3 (by omega)⟩
    | false =>
      have gk2 : ¬ (¬ (tk).toInt = 91) := icF (c := .ne) (a := (tk).toInt) (b := 91) rfl (by decide) k2
      refine XW.fam (S' := (48, [(0, .ref 94)], [], (sh, I, L, R))) (M := mr_293) rfl (show mcode 293 45 = some (45, .if_icmp .ne 33, 3, 78, 0, 0, _) from rfl) (Or.inr (Or.inl ⟨48, [], by simp [brn, k2], rfl⟩)) ?_
      by_cases h8 : 8 ≤ o
      · skip
        refine XW.fam (S' := (49, [(0, .ref 94)], [.ref 94], (sh, I, L, R))) (M := mr_293) rfl (show mcode 293 48 = some (48, .aload_n 0, 1, 0, 0, 0, _) from rfl) (Or.inl ⟨.ref 94, rfl, rfl⟩) ?_
        refine XW.call (d' := d + 3) (mc' := 0) (ms' := 0) (av := [.ref 94]) (rest := []) (M := mr_293) (Ma := mr_288) rfl (show mcode 293 49 = some (49, .invokevirtual 399, 3, 288, 0, 0, _) from rfl) rfl (by decide) (by decide) ⟨rfl, 94, _, rfl, c94⟩ rfl rfl (show 0 ≤ 8 by decide) (tc_opN (d := d) (h2 := h + 1) (c2 := 0) hB hq (by omega)) (by omega) (Nat.zero_le _) (Nat.zero_le _) (fun rQ19 wQ19 Q19 => ?_)
        obtain ⟨hrQ19, hqQ19⟩ := Q19
        subst hrQ19
        obtain ⟨shQ19, IQ19, LQ19, RQ19⟩ := wQ19
        obtain rfl : sh = shQ19 := hqQ19.2.1.2.2.2.1.symm
        obtain rfl : R = RQ19 := hqQ19.2.1.2.2.2.2.1.symm
        refine XW.fam (S' := (55, [(0, .ref 94)], [], (sh, IQ19, LQ19, R))) (M := mr_293) rfl (show mcode 293 52 = some (52, .ifCond .ne 4, 3, 56, 0, 0, _) from rfl) (Or.inr (Or.inl ⟨55, [], rfl, rfl⟩)) ?_
        refine XW.ret (r := none) ⟨rfl, by decide +kernel⟩ ?_
        rw [gPx_5]
        unfold g5
        rw [if_neg (by omega), if_pos (by omega), if_pos (by omega)]
        exact ⟨rfl, QM_wk hqQ19 (by omega)⟩
      · skip
        refine XW.fam (S' := (49, [(0, .ref 94)], [.ref 94], (sh, I, L, R))) (M := mr_293) rfl (show mcode 293 48 = some (48, .aload_n 0, 1, 0, 0, 0, _) from rfl) (Or.inl ⟨.ref 94, rfl, rfl⟩) ?_
        refine XW.call (d' := d + 3) (mc' := 0) (ms' := 0) (av := [.ref 94]) (rest := []) (M := mr_293) (Ma := mr_288) rfl (show mcode 293 49 = some (49, .invokevirtual 399, 3, 288, 0, 0, _) from rfl) rfl (by decide) (by decide) ⟨rfl, 94, _, rfl, c94⟩ rfl rfl (show 0 ≤ 8 by decide) (tc_opY (d := d) (h2 := 0) (c2 := c + 1) hB hq (by omega) (lt_N hN hle (by omega)) rfl) (by omega) (Nat.zero_le _) (Nat.zero_le _) (fun rQ20 wQ20 Q20 => ?_)
        obtain ⟨hrQ20, hqQ20⟩ := Q20
        subst hrQ20
        obtain ⟨shQ20, IQ20, LQ20, RQ20⟩ := wQ20
        obtain rfl : sh = shQ20 := hqQ20.2.1.2.2.2.1.symm
        obtain rfl : R = RQ20 := hqQ20.2.1.2.2.2.2.1.symm
        refine XW.fam (S' := (56, [(0, .ref 94)], [], (sh, IQ20, LQ20, R))) (M := mr_293) rfl (show mcode 293 52 = some (52, .ifCond .ne 4, 3, 56, 0, 0, _) from rfl) (Or.inr (Or.inl ⟨56, [], rfl, rfl⟩)) ?_
        refine XW.fam (S' := (57, [(0, .ref 94)], [.ref 94], (sh, IQ20, LQ20, R))) (M := mr_293) rfl (show mcode 293 56 = some (56, .aload_n 0, 1, 0, 0, 0, _) from rfl) (Or.inl ⟨.ref 94, rfl, rfl⟩) ?_
        refine XW.call (d' := (d + 4 + (6 * (8 - (o + 1)) + 6))) (mc' := 0) (ms' := 0) (av := [.ref 94]) (rest := []) (M := mr_293) (Ma := mr_291) rfl (show mcode 293 57 = some (57, .invokevirtual 424, 3, 291, 0, 0, _) from rfl) rfl (by decide) (by decide) ⟨rfl, 94, _, rfl, c94⟩ rfl rfl (show 0 ≤ 8 by decide) (Hq (o + 1) (i + 1) h c (by omega) (QM_wk hqQ20 (by omega)) (by omega) (by omega) (by omega)) (by omega) (Nat.zero_le _) (Nat.zero_le _) (fun rQ21 wQ21 Q21 => ?_)
        obtain ⟨hrQ21, hqQ21⟩ := Q21
        subst hrQ21
        obtain ⟨shQ21, IQ21, LQ21, RQ21⟩ := wQ21
        obtain rfl : sh = shQ21 := hqQ21.2.1.2.2.2.1.symm
        obtain rfl : R = RQ21 := hqQ21.2.1.2.2.2.2.1.symm
        have hgo := (gPx_ok hN f (o + 1) (i + 1) (lt_N hN hle (by omega))).1 9 (by omega)
        cases e : (gPx (tK b n) f 9 (o + 1) (i + 1)).1 with
        | true =>
          have hst2 : mStt b n N IQ21 (o + 1) (h + 1) (gPx (tK b n) f 9 (o + 1) (i + 1)).2 := hqQ21.2.2.2.2.1 e
          have hle2 := hgo.2.1
          have hqt := QM_t e hqQ21
          obtain ⟨fl2, efl2⟩ : ∃ z : Int32, IQ21 94 50 = z := ⟨_, rfl⟩
          have hfl2 : fl2.toInt = -1 := by rw [← efl2]; exact hst2.2.1
          by_cases hcl : tK b n (gPx (tK b n) f 9 (o + 1) (i + 1)).2 = 93
          · skip
            refine XW.fam (S' := (61, [(0, .ref 94)], [.ref 94], (sh, IQ21, LQ21, R))) (M := mr_293) rfl (show mcode 293 60 = some (60, .aload_n 0, 1, 0, 0, 0, _) from rfl) (Or.inl ⟨.ref 94, rfl, rfl⟩) ?_
            refine XW.fam (S' := (64, [(0, .ref 94)], [.int (IQ21 94 50)], (sh, IQ21, LQ21, R))) (M := mr_293) rfl (show mcode 293 61 = some (61, .getfield 370, 3, 12, 50, 0, _) from rfl) (Or.inr (Or.inr (Or.inr (Or.inr (Or.inr (Or.inr (Or.inr (Or.inl ⟨_, _, rfl, fl_ldI c94 (by decide) (by decide), rfl⟩)))))))) ?_
            rw [efl2]
            have k22 : bcmp .ge fl2 0 = false := bcF (c := .ge) (a := (fl2).toInt) (b := 0) rfl (by decide) (by show ¬ (0 ≤ (fl2).toInt); omega)
            refine XW.fam (S' := (67, [(0, .ref 94)], [], (sh, IQ21, LQ21, R))) (M := mr_293) rfl (show mcode 293 64 = some (64, .ifCond .ge 12, 3, 76, 0, 0, _) from rfl) (Or.inr (Or.inl ⟨67, [], by simp [brn, k22], rfl⟩)) ?_
            refine XW.fam (S' := (68, [(0, .ref 94)], [.ref 94], (sh, IQ21, LQ21, R))) (M := mr_293) rfl (show mcode 293 67 = some (67, .aload_n 0, 1, 0, 0, 0, _) from rfl) (Or.inl ⟨.ref 94, rfl, rfl⟩) ?_
            refine XW.fam (S' := (70, [(0, .ref 94)], [.int 93, .ref 94], (sh, IQ21, LQ21, R))) (M := mr_293) rfl (show mcode 293 68 = some (68, .bipush 93, 2, 0, 0, 0, _) from rfl) (Or.inl ⟨.int 93, rfl, rfl⟩) ?_
            refine XW.call (d' := d + 3) (mc' := 0) (ms' := 0) (av := [.ref 94, .int 93]) (rest := []) (M := mr_293) (Ma := mr_289) rfl (show mcode 293 70 = some (70, .invokevirtual 406, 3, 289, 0, 0, _) from rfl) rfl (by decide) (by decide) ⟨rfl, 94, _, rfl, c94⟩ rfl rfl (show 0 ≤ 8 by decide) (tc_clYm (d := d) (h2 := 0) (c2 := c + 1) (sv := 93) hB (by omega) hqt rfl (by decide) (by decide) (by decide) hcl (lt_N hN hle2 (by omega)) rfl) (by omega) (Nat.zero_le _) (Nat.zero_le _) (fun rQ23 wQ23 Q23 => ?_)
            obtain ⟨hrQ23, hqQ23⟩ := Q23
            subst hrQ23
            obtain ⟨shQ23, IQ23, LQ23, RQ23⟩ := wQ23
            obtain rfl : sh = shQ23 := hqQ23.2.1.2.2.2.1.symm
            obtain rfl : R = RQ23 := hqQ23.2.1.2.2.2.2.1.symm
            refine XW.fam (S' := (76, [(0, .ref 94)], [], (sh, IQ23, LQ23, R))) (M := mr_293) rfl (show mcode 293 73 = some (73, .ifCond .eq 4, 3, 77, 0, 0, _) from rfl) (Or.inr (Or.inl ⟨76, [], rfl, rfl⟩)) ?_
            refine XW.ret (r := none) ⟨rfl, by decide +kernel⟩ ?_
            rw [gPx_5]
            unfold g5
            rw [if_neg (by omega), if_pos (by omega), if_neg (by omega)]
            rw [gB_t e, if_pos hcl]
            exact ⟨rfl, QM_wk hqQ23 (by omega)⟩
          · skip
            refine XW.fam (S' := (61, [(0, .ref 94)], [.ref 94], (sh, IQ21, LQ21, R))) (M := mr_293) rfl (show mcode 293 60 = some (60, .aload_n 0, 1, 0, 0, 0, _) from rfl) (Or.inl ⟨.ref 94, rfl, rfl⟩) ?_
            refine XW.fam (S' := (64, [(0, .ref 94)], [.int (IQ21 94 50)], (sh, IQ21, LQ21, R))) (M := mr_293) rfl (show mcode 293 61 = some (61, .getfield 370, 3, 12, 50, 0, _) from rfl) (Or.inr (Or.inr (Or.inr (Or.inr (Or.inr (Or.inr (Or.inr (Or.inl ⟨_, _, rfl, fl_ldI c94 (by decide) (by decide), rfl⟩)))))))) ?_
            rw [efl2]
            have k24 : bcmp .ge fl2 0 = false := bcF (c := .ge) (a := (fl2).toInt) (b := 0) rfl (by decide) (by show ¬ (0 ≤ (fl2).toInt); omega)
            refine XW.fam (S' := (67, [(0, .ref 94)], [], (sh, IQ21, LQ21, R))) (M := mr_293) rfl (show mcode 293 64 = some (64, .ifCond .ge 12, 3, 76, 0, 0, _) from rfl) (Or.inr (Or.inl ⟨67, [], by simp [brn, k24], rfl⟩)) ?_
            refine XW.fam (S' := (68, [(0, .ref 94)], [.ref 94], (sh, IQ21, LQ21, R))) (M := mr_293) rfl (show mcode 293 67 = some (67, .aload_n 0, 1, 0, 0, 0, _) from rfl) (Or.inl ⟨.ref 94, rfl, rfl⟩) ?_
            refine XW.fam (S' := (70, [(0, .ref 94)], [.int 93, .ref 94], (sh, IQ21, LQ21, R))) (M := mr_293) rfl (show mcode 293 68 = some (68, .bipush 93, 2, 0, 0, 0, _) from rfl) (Or.inl ⟨.int 93, rfl, rfl⟩) ?_
            refine XW.call (d' := d + 3) (mc' := 0) (ms' := 0) (av := [.ref 94, .int 93]) (rest := []) (M := mr_293) (Ma := mr_289) rfl (show mcode 293 70 = some (70, .invokevirtual 406, 3, 289, 0, 0, _) from rfl) rfl (by decide) (by decide) ⟨rfl, 94, _, rfl, c94⟩ rfl rfl (show 0 ≤ 8 by decide) (tc_clNm (d := d) (h2 := h + 1) (c2 := 0) (sv := 93) hB (by omega) hqt rfl (by decide) (by decide) (by decide) hcl) (by omega) (Nat.zero_le _) (Nat.zero_le _) (fun rQ25 wQ25 Q25 => ?_)
            obtain ⟨hrQ25, hqQ25⟩ := Q25
            subst hrQ25
            obtain ⟨shQ25, IQ25, LQ25, RQ25⟩ := wQ25
            obtain rfl : sh = shQ25 := hqQ25.2.1.2.2.2.1.symm
            obtain rfl : R = RQ25 := hqQ25.2.1.2.2.2.2.1.symm
            refine XW.fam (S' := (77, [(0, .ref 94)], [], (sh, IQ25, LQ25, R))) (M := mr_293) rfl (show mcode 293 73 = some (73, .ifCond .eq 4, 3, 77, 0, 0, _) from rfl) (Or.inr (Or.inl ⟨77, [], rfl, rfl⟩)) ?_
            refine XW.ret (r := none) ⟨rfl, by decide +kernel⟩ ?_
            rw [gPx_5]
            unfold g5
            rw [if_neg (by omega), if_pos (by omega), if_neg (by omega)]
            rw [gB_t e, if_neg hcl]
            exact ⟨rfl, QM_wk hqQ25 (by omega)⟩
        | false =>
          obtain ⟨fl3, efl3⟩ : ∃ z : Int32, IQ21 94 50 = z := ⟨_, rfl⟩
          have hfl3 : fl3.toInt = (tS b n (gPx (tK b n) f 9 (o + 1) (i + 1)).2 : Int) := by rw [← efl3]; exact (hqQ21.2.2.2.2.2 e).1
          have hqf : QM sh R J b n N o (h + 1) c (gPx (tK b n) f 9 (o + 1) (i + 1)) (sh, IQ21, LQ21, R) := QM_fw hqQ21 e (by omega) (by omega)
          refine XW.fam (S' := (61, [(0, .ref 94)], [.ref 94], (sh, IQ21, LQ21, R))) (M := mr_293) rfl (show mcode 293 60 = some (60, .aload_n 0, 1, 0, 0, 0, _) from rfl) (Or.inl ⟨.ref 94, rfl, rfl⟩) ?_
          refine XW.fam (S' := (64, [(0, .ref 94)], [.int (IQ21 94 50)], (sh, IQ21, LQ21, R))) (M := mr_293) rfl (show mcode 293 61 = some (61, .getfield 370, 3, 12, 50, 0, _) from rfl) (Or.inr (Or.inr (Or.inr (Or.inr (Or.inr (Or.inr (Or.inr (Or.inl ⟨_, _, rfl, fl_ldI c94 (by decide) (by decide), rfl⟩)))))))) ?_
          rw [efl3]
          have k26 : bcmp .ge fl3 0 = true := bcT (c := .ge) (a := (fl3).toInt) (b := 0) rfl (by decide) (by show 0 ≤ (fl3).toInt; omega)
          refine XW.fam (S' := (76, [(0, .ref 94)], [], (sh, IQ21, LQ21, R))) (M := mr_293) rfl (show mcode 293 64 = some (64, .ifCond .ge 12, 3, 76, 0, 0, _) from rfl) (Or.inr (Or.inl ⟨76, [], by simp [brn, k26], rfl⟩)) ?_
          refine XW.ret (r := none) ⟨rfl, by decide +kernel⟩ ?_
          rw [gPx_5]
          unfold g5
          rw [if_neg (by omega), if_pos (by omega), if_neg (by omega)]
          rw [gB_f e]
          exact ⟨rfl, QM_wk hqf (by omega)⟩
  · skip
    refine XW.fam (S' := (10, [(0, .ref 94)], [], (sh, I, L, R))) (M := mr_293) rfl (show mcode 293 7 = some (7, .ifCond .eq 32, 3, 39, 0, 0, _) from rfl) (Or.inr (Or.inl ⟨10, [], rfl, rfl⟩)) ?_
    by_cases h8 : 8 ≤ o
    · skip
      refine XW.fam (S' := (11, [(0, .ref 94)], [.ref 94], (sh, I, L, R))) (M := mr_293) rfl (show mcode 293 10 = some (10, .aload_n 0, 1, 0, 0, 0, _) from rfl) (Or.inl ⟨.ref 94, rfl, rfl⟩) ?_
      refine XW.call (d' := d + 3) (mc' := 0) (ms' := 0) (av := [.ref 94]) (rest := []) (M := mr_293) (Ma := mr_288) rfl (show mcode 293 11 = some (11, .invokevirtual 399, 3, 288, 0, 0, _) from rfl) rfl (by decide) (by decide) ⟨rfl, 94, _, rfl, c94⟩ rfl rfl (show 0 ≤ 8 by decide) (tc_opN (d := d) (h2 := h + 1) (c2 := 0) hB hq (by omega)) (by omega) (Nat.zero_le _) (Nat.zero_le _) (fun rQ27 wQ27 Q27 => ?_)
      obtain ⟨hrQ27, hqQ27⟩ := Q27
      subst hrQ27
      obtain ⟨shQ27, IQ27, LQ27, RQ27⟩ := wQ27
      obtain rfl : sh = shQ27 := hqQ27.2.1.2.2.2.1.symm
      obtain rfl : R = RQ27 := hqQ27.2.1.2.2.2.2.1.symm
      refine XW.fam (S' := (17, [(0, .ref 94)], [], (sh, IQ27, LQ27, R))) (M := mr_293) rfl (show mcode 293 14 = some (14, .ifCond .ne 4, 3, 18, 0, 0, _) from rfl) (Or.inr (Or.inl ⟨17, [], rfl, rfl⟩)) ?_
      refine XW.ret (r := none) ⟨rfl, by decide +kernel⟩ ?_
      rw [gPx_5]
      unfold g5
      rw [if_pos (by omega), if_pos (by omega)]
      exact ⟨rfl, QM_wk hqQ27 (by omega)⟩
    · skip
      refine XW.fam (S' := (11, [(0, .ref 94)], [.ref 94], (sh, I, L, R))) (M := mr_293) rfl (show mcode 293 10 = some (10, .aload_n 0, 1, 0, 0, 0, _) from rfl) (Or.inl ⟨.ref 94, rfl, rfl⟩) ?_
      refine XW.call (d' := d + 3) (mc' := 0) (ms' := 0) (av := [.ref 94]) (rest := []) (M := mr_293) (Ma := mr_288) rfl (show mcode 293 11 = some (11, .invokevirtual 399, 3, 288, 0, 0, _) from rfl) rfl (by decide) (by decide) ⟨rfl, 94, _, rfl, c94⟩ rfl rfl (show 0 ≤ 8 by decide) (tc_opY (d := d) (h2 := 0) (c2 := c + 1) hB hq (by omega) (lt_N hN hle (by omega)) rfl) (by omega) (Nat.zero_le _) (Nat.zero_le _) (fun rQ28 wQ28 Q28 => ?_)
      obtain ⟨hrQ28, hqQ28⟩ := Q28
      subst hrQ28
      obtain ⟨shQ28, IQ28, LQ28, RQ28⟩ := wQ28
      obtain rfl : sh = shQ28 := hqQ28.2.1.2.2.2.1.symm
      obtain rfl : R = RQ28 := hqQ28.2.1.2.2.2.2.1.symm
      refine XW.fam (S' := (18, [(0, .ref 94)], [], (sh, IQ28, LQ28, R))) (M := mr_293) rfl (show mcode 293 14 = some (14, .ifCond .ne 4, 3, 18, 0, 0, _) from rfl) (Or.inr (Or.inl ⟨18, [], rfl, rfl⟩)) ?_
      refine XW.fam (S' := (19, [(0, .ref 94)], [.ref 94], (sh, IQ28, LQ28, R))) (M := mr_293) rfl (show mcode 293 18 = some (18, .aload_n 0, 1, 0, 0, 0, _) from rfl) (Or.inl ⟨.ref 94, rfl, rfl⟩) ?_
      refine XW.call (d' := (d + 4 + (6 * (8 - (o + 1)) + 4))) (mc' := 0) (ms' := 0) (av := [.ref 94]) (rest := []) (M := mr_293) (Ma := mr_293) rfl (show mcode 293 19 = some (19, .invokevirtual 421, 3, 293, 0, 0, _) from rfl) rfl (by decide) (by decide) ⟨rfl, 94, _, rfl, c94⟩ rfl rfl (show 0 ≤ 8 by decide) (Hb (o + 1) (i + 1) h (c + 1) (by omega) (QM_wk hqQ28 (by omega)) (by omega) (by omega) (by omega)) (by omega) (Nat.zero_le _) (Nat.zero_le _) (fun rQ29 wQ29 Q29 => ?_)
      obtain ⟨hrQ29, hqQ29⟩ := Q29
      subst hrQ29
      obtain ⟨shQ29, IQ29, LQ29, RQ29⟩ := wQ29
      obtain rfl : sh = shQ29 := hqQ29.2.1.2.2.2.1.symm
      obtain rfl : R = RQ29 := hqQ29.2.1.2.2.2.2.1.symm
      have hgo := (gPx_ok hN f (o + 1) (i + 1) (lt_N hN hle (by omega))).1 5 (by omega)
      have h51 : 0 ≤ (IQ29 94 51).toInt ∧ (IQ29 94 51).toInt ≤ 8 := hqQ29.2.1.2.2.1 94 51
      obtain ⟨op5, eop5⟩ : ∃ z : Int32, IQ29 94 51 = z := ⟨_, rfl⟩
      rw [eop5] at h51
      cases e : (gPx (tK b n) f 5 (o + 1) (i + 1)).1 with
      | true =>
        have hop5 : op5.toInt = ((o + 1 : Nat) : Int) := by rw [← eop5]; exact (hqQ29.2.2.2.2.1 e).2.2.1
        refine XW.fam (S' := (23, [(0, .ref 94)], [.ref 94], (sh, IQ29, LQ29, R))) (M := mr_293) rfl (show mcode 293 22 = some (22, .aload_n 0, 1, 0, 0, 0, _) from rfl) (Or.inl ⟨.ref 94, rfl, rfl⟩) ?_
        refine XW.fam (S' := (24, [(0, .ref 94)], [.ref 94, .ref 94], (sh, IQ29, LQ29, R))) (M := mr_293) rfl (show mcode 293 23 = some (23, .dup, 1, 0, 0, 0, _) from rfl) (Or.inr (Or.inr (Or.inr (Or.inr (Or.inr (Or.inl ⟨_, rfl, rfl⟩)))))) ?_
        refine XW.fam (S' := (27, [(0, .ref 94)], [.int (IQ29 94 51), .ref 94], (sh, IQ29, LQ29, R))) (M := mr_293) rfl (show mcode 293 24 = some (24, .getfield 379, 3, 12, 51, 0, _) from rfl) (Or.inr (Or.inr (Or.inr (Or.inr (Or.inr (Or.inr (Or.inr (Or.inl ⟨_, _, rfl, fl_ldI c94 (by decide) (by decide), rfl⟩)))))))) ?_
        rw [eop5]
        refine XW.fam (S' := (28, [(0, .ref 94)], [.int 1, .int op5, .ref 94], (sh, IQ29, LQ29, R))) (M := mr_293) rfl (show mcode 293 27 = some (27, .iconst 1, 1, 0, 0, 0, _) from rfl) (Or.inl ⟨.int 1, rfl, rfl⟩) ?_
        refine XW.fam (S' := (29, [(0, .ref 94)], [.int (op5 - 1), .ref 94], (sh, IQ29, LQ29, R))) (M := mr_293) rfl (show mcode 293 28 = some (28, .isub, 1, 0, 0, 0, _) from rfl) (Or.inr (Or.inr (Or.inr (Or.inr (Or.inr (Or.inl ⟨_, rfl, rfl⟩)))))) ?_
        obtain ⟨I30, eI30⟩ : ∃ X, X = up2 IQ29 94 51 (op5 - 1) := ⟨_, rfl⟩
        refine XW.fam (S' := (32, [(0, .ref 94)], [], (sh, I30, LQ29, R))) (M := mr_293) rfl (show mcode 293 29 = some (29, .putfield 379, 3, 12, 51, 0, _) from rfl) (Or.inr (Or.inr (Or.inr (Or.inr (Or.inr (Or.inr (Or.inr (Or.inr (Or.inl ⟨_, _, _, rfl, by rw [eI30]; exact stf_I c94 (by decide) (by decide) (by decide), rfl⟩))))))))) ?_
        have xi := difS (a := op5) (b := 1) (by omega) (by omega)
        have hqI30 : QM sh R J b n N o (h + 1) (c + 1) (gPx (tK b n) f 5 (o + 1) (i + 1)) (sh, I30, LQ29, R) := by rw [eI30]; exact QM_st51 hqQ29 ⟨by omega, by omega⟩ (fun _ => by omega) (fun z => by rw [e] at z; cases z)
        refine XW.fam (S' := (33, [(0, .ref 94)], [.ref 94], (sh, I30, LQ29, R))) (M := mr_293) rfl (show mcode 293 32 = some (32, .aload_n 0, 1, 0, 0, 0, _) from rfl) (Or.inl ⟨.ref 94, rfl, rfl⟩) ?_
        refine XW.fam (S' := (34, [(0, .ref 94)], [.int 3, .ref 94], (sh, I30, LQ29, R))) (M := mr_293) rfl (show mcode 293 33 = some (33, .iconst 3, 1, 0, 0, 0, _) from rfl) (Or.inl ⟨.int 3, rfl, rfl⟩) ?_
        refine XW.fam (S' := (35, [(0, .ref 94)], [.int 0, .int 3, .ref 94], (sh, I30, LQ29, R))) (M := mr_293) rfl (show mcode 293 34 = some (34, .iconst 0, 1, 0, 0, 0, _) from rfl) (Or.inl ⟨.int 0, rfl, rfl⟩) ?_
        refine XW.call (d' := d) (mc' := 0) (ms' := 0) (av := [.ref 94, .int 3, .int 0]) (rest := []) (M := mr_293) (Ma := mr_287) rfl (show mcode 293 35 = some (35, .invokevirtual 395, 3, 287, 0, 0, _) from rfl) rfl (by decide) (by decide) ⟨rfl, 94, _, rfl, c94⟩ rfl rfl (show 0 ≤ 8 by decide) (tc_layQ (d := d) (h2 := (h + 1)) (c2 := c) hB hqI30 (by decide) (fun _ => by have := lay_3; omega) (fun _ => by have := lay_3; omega) (by omega) (fun z => absurd z (by decide)) (by omega) (by omega)) (by omega) (Nat.zero_le _) (Nat.zero_le _) (fun rQ31 wQ31 Q31 => ?_)
        obtain ⟨hrQ31, hqQ31⟩ := Q31
        subst hrQ31
        obtain ⟨shQ31, IQ31, LQ31, RQ31⟩ := wQ31
        obtain rfl : sh = shQ31 := hqQ31.2.1.2.2.2.1.symm
        obtain rfl : R = RQ31 := hqQ31.2.1.2.2.2.2.1.symm
        refine XW.ret (r := none) ⟨rfl, by decide +kernel⟩ ?_
        rw [gPx_5]
        unfold g5
        rw [if_pos (by omega), if_neg (by omega)]
        exact ⟨rfl, QM_wk hqQ31 (by omega)⟩
      | false =>
        have hop5 : ((o + 1 : Nat) : Int) ≤ op5.toInt := by rw [← eop5]; exact (hqQ29.2.2.2.2.2 e).2.2
        refine XW.fam (S' := (23, [(0, .ref 94)], [.ref 94], (sh, IQ29, LQ29, R))) (M := mr_293) rfl (show mcode 293 22 = some (22, .aload_n 0, 1, 0, 0, 0, _) from rfl) (Or.inl ⟨.ref 94, rfl, rfl⟩) ?_
        refine XW.fam (S' := (24, [(0, .ref 94)], [.ref 94, .ref 94], (sh, IQ29, LQ29, R))) (M := mr_293) rfl (show mcode 293 23 = some (23, .dup, 1, 0, 0, 0, _) from rfl) (Or.inr (Or.inr (Or.inr (Or.inr (Or.inr (Or.inl ⟨_, rfl, rfl⟩)))))) ?_
        refine XW.fam (S' := (27, [(0, .ref 94)], [.int (IQ29 94 51), .ref 94], (sh, IQ29, LQ29, R))) (M := mr_293) rfl (show mcode 293 24 = some (24, .getfield 379, 3, 12, 51, 0, _) from rfl) (Or.inr (Or.inr (Or.inr (Or.inr (Or.inr (Or.inr (Or.inr (Or.inl ⟨_, _, rfl, fl_ldI c94 (by decide) (by decide), rfl⟩)))))))) ?_
        rw [eop5]
        refine XW.fam (S' := (28, [(0, .ref 94)], [.int 1, .int op5, .ref 94], (sh, IQ29, LQ29, R))) (M := mr_293) rfl (show mcode 293 27 = some (27, .iconst 1, 1, 0, 0, 0, _) from rfl) (Or.inl ⟨.int 1, rfl, rfl⟩) ?_
        refine XW.fam (S' := (29, [(0, .ref 94)], [.int (op5 - 1), .ref 94], (sh, IQ29, LQ29, R))) (M := mr_293) rfl (show mcode 293 28 = some (28, .isub, 1, 0, 0, 0, _) from rfl) (Or.inr (Or.inr (Or.inr (Or.inr (Or.inr (Or.inl ⟨_, rfl, rfl⟩)))))) ?_
        obtain ⟨I32, eI32⟩ : ∃ X, X = up2 IQ29 94 51 (op5 - 1) := ⟨_, rfl⟩
        refine XW.fam (S' := (32, [(0, .ref 94)], [], (sh, I32, LQ29, R))) (M := mr_293) rfl (show mcode 293 29 = some (29, .putfield 379, 3, 12, 51, 0, _) from rfl) (Or.inr (Or.inr (Or.inr (Or.inr (Or.inr (Or.inr (Or.inr (Or.inr (Or.inl ⟨_, _, _, rfl, by rw [eI32]; exact stf_I c94 (by decide) (by decide) (by decide), rfl⟩))))))))) ?_
        have xi := difS (a := op5) (b := 1) (by omega) (by omega)
        have hqI32 : QM sh R J b n N o (h + 1) (c + 1) (gPx (tK b n) f 5 (o + 1) (i + 1)) (sh, I32, LQ29, R) := by rw [eI32]; exact QM_st51 hqQ29 ⟨by omega, by omega⟩ (fun z => by rw [e] at z; cases z) (fun _ => by omega)
        refine XW.fam (S' := (33, [(0, .ref 94)], [.ref 94], (sh, I32, LQ29, R))) (M := mr_293) rfl (show mcode 293 32 = some (32, .aload_n 0, 1, 0, 0, 0, _) from rfl) (Or.inl ⟨.ref 94, rfl, rfl⟩) ?_
        refine XW.fam (S' := (34, [(0, .ref 94)], [.int 3, .ref 94], (sh, I32, LQ29, R))) (M := mr_293) rfl (show mcode 293 33 = some (33, .iconst 3, 1, 0, 0, 0, _) from rfl) (Or.inl ⟨.int 3, rfl, rfl⟩) ?_
        refine XW.fam (S' := (35, [(0, .ref 94)], [.int 0, .int 3, .ref 94], (sh, I32, LQ29, R))) (M := mr_293) rfl (show mcode 293 34 = some (34, .iconst 0, 1, 0, 0, 0, _) from rfl) (Or.inl ⟨.int 0, rfl, rfl⟩) ?_
        refine XW.call (d' := d) (mc' := 0) (ms' := 0) (av := [.ref 94, .int 3, .int 0]) (rest := []) (M := mr_293) (Ma := mr_287) rfl (show mcode 293 35 = some (35, .invokevirtual 395, 3, 287, 0, 0, _) from rfl) rfl (by decide) (by decide) ⟨rfl, 94, _, rfl, c94⟩ rfl rfl (show 0 ≤ 8 by decide) (tc_layQ (d := d) (h2 := (h + 1)) (c2 := c) hB hqI32 (by decide) (fun _ => by have := lay_3; omega) (fun _ => by have := lay_3; omega) (by omega) (fun z => absurd z (by decide)) (by omega) (by omega)) (by omega) (Nat.zero_le _) (Nat.zero_le _) (fun rQ33 wQ33 Q33 => ?_)
        obtain ⟨hrQ33, hqQ33⟩ := Q33
        subst hrQ33
        obtain ⟨shQ33, IQ33, LQ33, RQ33⟩ := wQ33
        obtain rfl : sh = shQ33 := hqQ33.2.1.2.2.2.1.symm
        obtain rfl : R = RQ33 := hqQ33.2.1.2.2.2.2.1.symm
        refine XW.ret (r := none) ⟨rfl, by decide +kernel⟩ ?_
        rw [gPx_5]
        unfold g5
        rw [if_pos (by omega), if_neg (by omega)]
        exact ⟨rfl, QM_wk hqQ33 (by omega)⟩
theorem gram_allM {d : Nat} {sh : List mE} {J : Nat → Nat → Int32} {R : Nat → Nat → Option Nat} {b : Nat → Int} {n N : Nat} (hB : mBs J b n N) : ∀ f, CTm sh R J b n N d 286 1 0 f ∧ CTm sh R J b n N d 285 2 2 f ∧ CTm sh R J b n N d 284 3 4 f ∧ CTm sh R J b n N d 293 4 5 f ∧ CTm sh R J b n N d 292 5 7 f ∧ CTm sh R J b n N d 291 6 9 f := by
  intro f
  induction f using Nat.strongRecOn with
  | ind f ih =>
    cases f with
    | zero =>
      refine ⟨?_, ?_, ?_, ?_, ?_, ?_⟩ <;> (intro o i h c I L _ _ _ _ hmu; exfalso; omega)
    | succ f =>
      have h := ih f (by omega)
      exact ⟨one_ofM hB h.2.2.1, prd_ofM hB (fun f2 h2 => (ih f2 h2).1), sum_ofM hB (fun f2 h2 => (ih f2 h2).2.1), tst_ofM hB h.2.2.2.1 h.2.2.2.2.2 h.2.2.1, all_ofM hB (fun f2 h2 => (ih f2 h2).2.2.2.1), any_ofM hB (fun f2 h2 => (ih f2 h2).2.2.2.2.1)⟩
