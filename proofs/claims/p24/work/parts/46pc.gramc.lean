/-! ===== the grammar of our side (wip/gentxt.py) ===== -/
def mdT : aM := [(41, some 6), (41, some 7), (41, some 8), (41, some 10), (46, none)]
/-- the tokens in their row: kinds K, beginnings S, the end at N -/
def tvC (J : Nat → Nat → Int32) (K : Nat → Int) (S : Nat → Nat) (N : Nat) : Prop := ((J 41 5).toInt = (N : Int) ∧ N ≤ 240) ∧ K N = 302 ∧ ∀ i, i ≤ N → (J 43 i).toInt = K i ∧ (J 44 i).toInt = (S i : Int) ∧ S i ≤ 240
/-- token i is looked at, nothing is wrong so far -/
def stt (K : Nat → Int) (N : Nat) (I : Nat → Nat → Int32) (i : Nat) : Prop := (I 41 6).toInt = (i : Int) ∧ (I 41 7).toInt = K i ∧ (I 41 8).toInt = -1 ∧ i ≤ N
def rsC (K : Nat → Int) (S : Nat → Nat) (N : Nat) (I : Nat → Nat → Int32) (g : Bool × Nat) : Prop := (g.1 = true → stt K N I g.2) ∧ (g.1 = false → (I 41 8).toInt = (S g.2 : Int))
def QW (sh : List mE) (R : Nat → Nat → Option Nat) (J : Nat → Nat → Int32) (K : Nat → Int) (S : Nat → Nat) (N : Nat) (g : Bool × Nat) (w' : mW) : Prop := fresh w' ∧ wOK (mkT vV []) (wE sh R) w' ∧ (∀ q k, inm mdT q k = false → w'.2.1 q k = J q k) ∧ rsC K S N w'.2.1 g
def QT (sh : List mE) (R : Nat → Nat → Option Nat) (J : Nat → Nat → Int32) (K : Nat → Int) (S : Nat → Nat) (N : Nat) (g : Bool × Nat) (r : Option Value) (w' : mW) : Prop := r = none ∧ QW sh R J K S N g w'
theorem rsC_keep {K : Nat → Int} {S : Nat → Nat} {N : Nat} {I I' : Nat → Nat → Int32} {g : Bool × Nat} (h6 : I' 41 6 = I 41 6) (h7 : I' 41 7 = I 41 7) (h8 : I' 41 8 = I 41 8) (h : rsC K S N I g) : rsC K S N I' g := by
  unfold rsC stt at h ⊢
  rw [h6, h7, h8]
  exact h
theorem rsC_t {K : Nat → Int} {S : Nat → Nat} {N i : Nat} {I : Nat → Nat → Int32} (h : stt K N I i) : rsC K S N I (true, i) := ⟨fun _ => h, fun e => by cases e⟩
theorem rsC_f {K : Nat → Int} {S : Nat → Nat} {N i : Nat} {I : Nat → Nat → Int32} (h : (I 41 8).toInt = (S i : Int)) : rsC K S N I (false, i) := ⟨fun e => (by cases e), fun _ => h⟩
theorem lt_N {K : Nat → Int} {N i : Nat} (hN : K N = 302) (h : i ≤ N) (q : ¬ K i = 302) : i < N := by
  by_cases e : i = N
  · rw [e] at q
    exact absurd hN q
  · omega
theorem tc_adv {d i : Nat} {sh : List mE} {J : Nat → Nat → Int32} {R : Nat → Nat → Option Nat} {K : Nat → Int} {S : Nat → Nat} {N : Nat} {I : Nat → Nat → Int32} {L : Nat → Nat → Int64} (hT : tvC J K S N) (hw : wOK (mkT vV []) (wE sh R) (sh, I, L, R)) (hf : fresh (sh, I, L, R)) (hk : ∀ q k, inm mdT q k = false → I q k = J q k) (hst : stt K N I i) (hi : i < N) : Tc 102 d 0 0 [.ref 41] (sh, I, L, R) (QT sh R J K S N (true, i + 1)) := by
  have c41 : sh[41]? = some (.inr 5) := hw.1 41 _ rfl
  have c43 : sh[43]? = some (.inl (.int, 241)) := hw.1 43 _ rfl
  have r41_2 : R 41 2 = some 43 := hw.2.1 41 2 _ rfl
  have z1 : (1 : Int32).toInt = 1 := rfl
  obtain ⟨⟨hN5, hN2⟩, hN, hTk⟩ := id hT
  obtain ⟨a, ea⟩ : ∃ z : Int32, I 41 6 = z := ⟨_, rfl⟩
  have ha : a.toInt = (i : Int) := by rw [← ea]; exact hst.1
  obtain ⟨tk, etk⟩ : ∃ z : Int32, I 41 7 = z := ⟨_, rfl⟩
  have htk : tk.toInt = K i := by rw [← etk]; exact hst.2.1
  obtain ⟨fl, efl⟩ : ∃ z : Int32, I 41 8 = z := ⟨_, rfl⟩
  have hfl : fl.toInt = -1 := by rw [← efl]; exact hst.2.2.1
  have hle : i ≤ N := hst.2.2.2
  have hlt : ¬ K i = 302 → i < N := lt_N hN hle
  obtain ⟨nv, env⟩ : ∃ z : Int32, I 41 5 = z := ⟨_, rfl⟩
  have hnv : nv.toInt = (N : Int) := by rw [← env, hk 41 5 rfl]; exact hN5
  refine Tc.of mr_102 rfl (show 1 ≤ mr_102.2.2.2.1 by decide) ?_
  refine XW.fam (S' := (1, [(0, .ref 41)], [.ref 41], (sh, I, L, R))) (M := mr_102) rfl (show mcode 102 0 = some (0, .aload_n 0, 1, 0, 0, 0, _) from rfl) (Or.inl ⟨.ref 41, rfl, rfl⟩) ?_
  refine XW.fam (S' := (4, [(0, .ref 41)], [.int (I 41 6)], (sh, I, L, R))) (M := mr_102) rfl (show mcode 102 1 = some (1, .getfield 35, 3, 5, 6, 0, _) from rfl) (Or.inr (Or.inr (Or.inr (Or.inr (Or.inr (Or.inr (Or.inr (Or.inl ⟨_, _, rfl, fl_ldI c41 (by decide) (by decide), rfl⟩)))))))) ?_
  rw [ea]
  refine XW.fam (S' := (5, [(0, .ref 41)], [.ref 41, .int a], (sh, I, L, R))) (M := mr_102) rfl (show mcode 102 4 = some (4, .aload_n 0, 1, 0, 0, 0, _) from rfl) (Or.inl ⟨.ref 41, rfl, rfl⟩) ?_
  refine XW.fam (S' := (8, [(0, .ref 41)], [.int (I 41 5), .int a], (sh, I, L, R))) (M := mr_102) rfl (show mcode 102 5 = some (5, .getfield 64, 3, 5, 5, 0, _) from rfl) (Or.inr (Or.inr (Or.inr (Or.inr (Or.inr (Or.inr (Or.inr (Or.inl ⟨_, _, rfl, fl_ldI c41 (by decide) (by decide), rfl⟩)))))))) ?_
  rw [env]
  have k1 : bcmp .ge a nv = false := bcF (c := .ge) (a := (a).toInt) (b := (nv).toInt) rfl rfl (by show ¬ ((nv).toInt ≤ (a).toInt); omega)
  refine XW.fam (S' := (11, [(0, .ref 41)], [], (sh, I, L, R))) (M := mr_102) rfl (show mcode 102 8 = some (8, .if_icmp .ge 13, 3, 21, 0, 0, _) from rfl) (Or.inr (Or.inl ⟨11, [], by simp [brn, k1], rfl⟩)) ?_
  refine XW.fam (S' := (12, [(0, .ref 41)], [.ref 41], (sh, I, L, R))) (M := mr_102) rfl (show mcode 102 11 = some (11, .aload_n 0, 1, 0, 0, 0, _) from rfl) (Or.inl ⟨.ref 41, rfl, rfl⟩) ?_
  refine XW.fam (S' := (13, [(0, .ref 41)], [.ref 41, .ref 41], (sh, I, L, R))) (M := mr_102) rfl (show mcode 102 12 = some (12, .dup, 1, 0, 0, 0, _) from rfl) (Or.inr (Or.inr (Or.inr (Or.inr (Or.inr (Or.inl ⟨_, rfl, rfl⟩)))))) ?_
  refine XW.fam (S' := (16, [(0, .ref 41)], [.int (I 41 6), .ref 41], (sh, I, L, R))) (M := mr_102) rfl (show mcode 102 13 = some (13, .getfield 35, 3, 5, 6, 0, _) from rfl) (Or.inr (Or.inr (Or.inr (Or.inr (Or.inr (Or.inr (Or.inr (Or.inl ⟨_, _, rfl, fl_ldI c41 (by decide) (by decide), rfl⟩)))))))) ?_
  rw [ea]
  refine XW.fam (S' := (17, [(0, .ref 41)], [.int 1, .int a, .ref 41], (sh, I, L, R))) (M := mr_102) rfl (show mcode 102 16 = some (16, .iconst 1, 1, 0, 0, 0, _) from rfl) (Or.inl ⟨.int 1, rfl, rfl⟩) ?_
  refine XW.fam (S' := (18, [(0, .ref 41)], [.int (a + 1), .ref 41], (sh, I, L, R))) (M := mr_102) rfl (show mcode 102 17 = some (17, .iadd, 1, 0, 0, 0, _) from rfl) (Or.inr (Or.inr (Or.inr (Or.inr (Or.inr (Or.inl ⟨_, rfl, rfl⟩)))))) ?_
  obtain ⟨I2, eI2⟩ : ∃ X, X = up2 I 41 6 (a + 1) := ⟨_, rfl⟩
  refine XW.fam (S' := (21, [(0, .ref 41)], [], (sh, I2, L, R))) (M := mr_102) rfl (show mcode 102 18 = some (18, .putfield 35, 3, 5, 6, 0, _) from rfl) (Or.inr (Or.inr (Or.inr (Or.inr (Or.inr (Or.inr (Or.inr (Or.inr (Or.inl ⟨_, _, _, rfl, by rw [eI2]; exact stf_I c41 (by decide) (by decide) (by decide), rfl⟩))))))))) ?_
  have xi := inc32 (m := a) (by omega) (by omega)
  have hwI2 : wOK (mkT vV []) (wE sh R) (sh, I2, L, R) := by rw [eI2]; exact wOK_u2 (q := 41) (k := 6) (x := (a + 1)) wE_put hw rfl (by show (0 : Int) ≤ _; omega) (by show _ ≤ (240 : Int); omega)
  have hfI2 : fresh (sh, I2, L, R) := by rw [eI2]; exact fresh_I hf c41
  have v4 : I2 41 7 = tk := by rw [eI2, up2_ne (fun e => by cases e.2)]; exact etk
  have v5 : I2 41 8 = fl := by rw [eI2, up2_ne (fun e => by cases e.2)]; exact efl
  have v6 : I2 41 5 = nv := by rw [eI2, up2_ne (fun e => by cases e.2)]; exact env
  have v7 : I2 41 6 = (a + 1) := by rw [eI2]; exact up2_eq
  refine XW.fam (S' := (22, [(0, .ref 41)], [.ref 41], (sh, I2, L, R))) (M := mr_102) rfl (show mcode 102 21 = some (21, .aload_n 0, 1, 0, 0, 0, _) from rfl) (Or.inl ⟨.ref 41, rfl, rfl⟩) ?_
  refine XW.fam (S' := (23, [(0, .ref 41)], [.ref 41, .ref 41], (sh, I2, L, R))) (M := mr_102) rfl (show mcode 102 22 = some (22, .aload_n 0, 1, 0, 0, 0, _) from rfl) (Or.inl ⟨.ref 41, rfl, rfl⟩) ?_
  refine XW.fam (S' := (26, [(0, .ref 41)], [.ref 43, .ref 41], (sh, I2, L, R))) (M := mr_102) rfl (show mcode 102 23 = some (23, .getfield 15, 3, 5, 2, 0, _) from rfl) (Or.inr (Or.inr (Or.inr (Or.inr (Or.inr (Or.inr (Or.inr (Or.inl ⟨_, _, rfl, fl_ld c41 r41_2 (by decide) (by decide), rfl⟩)))))))) ?_
  refine XW.fam (S' := (27, [(0, .ref 41)], [.ref 41, .ref 43, .ref 41], (sh, I2, L, R))) (M := mr_102) rfl (show mcode 102 26 = some (26, .aload_n 0, 1, 0, 0, 0, _) from rfl) (Or.inl ⟨.ref 41, rfl, rfl⟩) ?_
  refine XW.fam (S' := (30, [(0, .ref 41)], [.int (I2 41 6), .ref 43, .ref 41], (sh, I2, L, R))) (M := mr_102) rfl (show mcode 102 27 = some (27, .getfield 35, 3, 5, 6, 0, _) from rfl) (Or.inr (Or.inr (Or.inr (Or.inr (Or.inr (Or.inr (Or.inr (Or.inl ⟨_, _, rfl, fl_ldI c41 (by decide) (by decide), rfl⟩)))))))) ?_
  rw [v7]
  have hin8 : inR (a + 1) 241 = true := inR_of (by omega) (by omega)
  refine XW.fam (S' := (31, [(0, .ref 41)], [.int (I2 43 ((a + 1)).toNatClampNeg), .ref 41], (sh, I2, L, R))) (M := mr_102) rfl (show mcode 102 30 = some (30, .iaload, 1, 0, 0, 0, _) from rfl) (Or.inr (Or.inr (Or.inl ⟨_, lda_i c43 hin8, rfl⟩))) ?_
  obtain ⟨I9, eI9⟩ : ∃ X, X = up2 I2 41 7 (I2 43 ((a + 1)).toNatClampNeg) := ⟨_, rfl⟩
  refine XW.fam (S' := (34, [(0, .ref 41)], [], (sh, I9, L, R))) (M := mr_102) rfl (show mcode 102 31 = some (31, .putfield 38, 3, 5, 7, 0, _) from rfl) (Or.inr (Or.inr (Or.inr (Or.inr (Or.inr (Or.inr (Or.inr (Or.inr (Or.inl ⟨_, _, _, rfl, by rw [eI9]; exact stf_I c41 (by decide) (by decide) (by decide), rfl⟩))))))))) ?_
  have xb := i32b ((I2 43 ((a + 1)).toNatClampNeg))
  unfold lo32 hi32 at xb
  have hwI9 : wOK (mkT vV []) (wE sh R) (sh, I9, L, R) := by rw [eI9]; exact wOK_u2 (q := 41) (k := 7) (x := (I2 43 ((a + 1)).toNatClampNeg)) wE_put hwI2 rfl (by show ((-2147483648) : Int) ≤ _; omega) (by show _ ≤ (2147483647 : Int); omega)
  have hfI9 : fresh (sh, I9, L, R) := by rw [eI9]; exact fresh_I hfI2 c41
  have v11 : I9 41 8 = fl := by rw [eI9, up2_ne (fun e => by cases e.2)]; exact v5
  have v12 : I9 41 5 = nv := by rw [eI9, up2_ne (fun e => by cases e.2)]; exact v6
  have v13 : I9 41 6 = (a + 1) := by rw [eI9, up2_ne (fun e => by cases e.2)]; exact v7
  have v14 : I9 41 7 = (I2 43 ((a + 1)).toNatClampNeg) := by rw [eI9]; exact up2_eq
  refine XW.ret (r := none) ⟨rfl, by decide +kernel⟩ ?_
  refine ⟨rfl, hfI9, hwI9, fun q k h => ?_, rsC_t ⟨?_, ?_, ?_, by omega⟩⟩
  · show I9 q k = J q k
    rw [eI9, up2_ne (fun e => by rw [e.1, e.2] at h; cases h), eI2, up2_ne (fun e => by rw [e.1, e.2] at h; cases h)]
    exact hk q k h
  · show (I9 41 6).toInt = ((i + 1 : Nat) : Int)
    rw [eI9, up2_ne (by decide), eI2, up2_eq]
    omega
  · show (I9 41 7).toInt = K (i + 1)
    have en : (a + 1).toNatClampNeg = i + 1 := by show (a + 1).toInt.toNat = i + 1; omega
    rw [eI9, up2_eq, en, eI2, up2_ne (fun e => by cases e.1), hk 43 _ rfl]
    exact (hTk (i + 1) (by omega)).1
  · show (I9 41 8).toInt = -1
    rw [eI9, up2_ne (by decide), eI2, up2_ne (by decide), efl]
    exact hfl
theorem tc_fail {d i : Nat} {sh : List mE} {J : Nat → Nat → Int32} {R : Nat → Nat → Option Nat} {K : Nat → Int} {S : Nat → Nat} {N : Nat} {I : Nat → Nat → Int32} {L : Nat → Nat → Int64} (hT : tvC J K S N) (hw : wOK (mkT vV []) (wE sh R) (sh, I, L, R)) (hf : fresh (sh, I, L, R)) (hk : ∀ q k, inm mdT q k = false → I q k = J q k) (hst : stt K N I i) : Tc 101 d 0 0 [.ref 41] (sh, I, L, R) (QT sh R J K S N (false, i)) := by
  have c41 : sh[41]? = some (.inr 5) := hw.1 41 _ rfl
  have c44 : sh[44]? = some (.inl (.int, 241)) := hw.1 44 _ rfl
  have r41_3 : R 41 3 = some 44 := hw.2.1 41 3 _ rfl
  have z0 : (0 : Int32).toInt = 0 := rfl
  obtain ⟨⟨hN5, hN2⟩, hN, hTk⟩ := id hT
  obtain ⟨a, ea⟩ : ∃ z : Int32, I 41 6 = z := ⟨_, rfl⟩
  have ha : a.toInt = (i : Int) := by rw [← ea]; exact hst.1
  obtain ⟨tk, etk⟩ : ∃ z : Int32, I 41 7 = z := ⟨_, rfl⟩
  have htk : tk.toInt = K i := by rw [← etk]; exact hst.2.1
  obtain ⟨fl, efl⟩ : ∃ z : Int32, I 41 8 = z := ⟨_, rfl⟩
  have hfl : fl.toInt = -1 := by rw [← efl]; exact hst.2.2.1
  have hle : i ≤ N := hst.2.2.2
  have hlt : ¬ K i = 302 → i < N := lt_N hN hle
  have en : (a).toNatClampNeg = i := by show a.toInt.toNat = i; omega
  have hv44 : (I 44 (a).toNatClampNeg).toInt = (S i : Int) := by rw [en, hk 44 _ rfl]; exact (hTk i hle).2.1
  have hs24 := (hTk i hle).2.2
  refine Tc.of mr_101 rfl (show 1 ≤ mr_101.2.2.2.1 by decide) ?_
  refine XW.fam (S' := (1, [(0, .ref 41)], [.ref 41], (sh, I, L, R))) (M := mr_101) rfl (show mcode 101 0 = some (0, .aload_n 0, 1, 0, 0, 0, _) from rfl) (Or.inl ⟨.ref 41, rfl, rfl⟩) ?_
  refine XW.fam (S' := (4, [(0, .ref 41)], [.int (I 41 8)], (sh, I, L, R))) (M := mr_101) rfl (show mcode 101 1 = some (1, .getfield 44, 3, 5, 8, 0, _) from rfl) (Or.inr (Or.inr (Or.inr (Or.inr (Or.inr (Or.inr (Or.inr (Or.inl ⟨_, _, rfl, fl_ldI c41 (by decide) (by decide), rfl⟩)))))))) ?_
  rw [efl]
  have k1 : bcmp .ge fl 0 = false := bcF (c := .ge) (a := (fl).toInt) (b := 0) rfl (by decide) (by show ¬ (0 ≤ (fl).toInt); omega)
  refine XW.fam (S' := (7, [(0, .ref 41)], [], (sh, I, L, R))) (M := mr_101) rfl (show mcode 101 4 = some (4, .ifCond .ge 16, 3, 20, 0, 0, _) from rfl) (Or.inr (Or.inl ⟨7, [], by simp [brn, k1], rfl⟩)) ?_
  refine XW.fam (S' := (8, [(0, .ref 41)], [.ref 41], (sh, I, L, R))) (M := mr_101) rfl (show mcode 101 7 = some (7, .aload_n 0, 1, 0, 0, 0, _) from rfl) (Or.inl ⟨.ref 41, rfl, rfl⟩) ?_
  refine XW.fam (S' := (9, [(0, .ref 41)], [.ref 41, .ref 41], (sh, I, L, R))) (M := mr_101) rfl (show mcode 101 8 = some (8, .aload_n 0, 1, 0, 0, 0, _) from rfl) (Or.inl ⟨.ref 41, rfl, rfl⟩) ?_
  refine XW.fam (S' := (12, [(0, .ref 41)], [.ref 44, .ref 41], (sh, I, L, R))) (M := mr_101) rfl (show mcode 101 9 = some (9, .getfield 19, 3, 5, 3, 0, _) from rfl) (Or.inr (Or.inr (Or.inr (Or.inr (Or.inr (Or.inr (Or.inr (Or.inl ⟨_, _, rfl, fl_ld c41 r41_3 (by decide) (by decide), rfl⟩)))))))) ?_
  refine XW.fam (S' := (13, [(0, .ref 41)], [.ref 41, .ref 44, .ref 41], (sh, I, L, R))) (M := mr_101) rfl (show mcode 101 12 = some (12, .aload_n 0, 1, 0, 0, 0, _) from rfl) (Or.inl ⟨.ref 41, rfl, rfl⟩) ?_
  refine XW.fam (S' := (16, [(0, .ref 41)], [.int (I 41 6), .ref 44, .ref 41], (sh, I, L, R))) (M := mr_101) rfl (show mcode 101 13 = some (13, .getfield 35, 3, 5, 6, 0, _) from rfl) (Or.inr (Or.inr (Or.inr (Or.inr (Or.inr (Or.inr (Or.inr (Or.inl ⟨_, _, rfl, fl_ldI c41 (by decide) (by decide), rfl⟩)))))))) ?_
  rw [ea]
  have hin2 : inR a 241 = true := inR_of (by omega) (by omega)
  refine XW.fam (S' := (17, [(0, .ref 41)], [.int (I 44 (a).toNatClampNeg), .ref 41], (sh, I, L, R))) (M := mr_101) rfl (show mcode 101 16 = some (16, .iaload, 1, 0, 0, 0, _) from rfl) (Or.inr (Or.inr (Or.inl ⟨_, lda_i c44 hin2, rfl⟩))) ?_
  obtain ⟨I3, eI3⟩ : ∃ X, X = up2 I 41 8 (I 44 (a).toNatClampNeg) := ⟨_, rfl⟩
  refine XW.fam (S' := (20, [(0, .ref 41)], [], (sh, I3, L, R))) (M := mr_101) rfl (show mcode 101 17 = some (17, .putfield 44, 3, 5, 8, 0, _) from rfl) (Or.inr (Or.inr (Or.inr (Or.inr (Or.inr (Or.inr (Or.inr (Or.inr (Or.inl ⟨_, _, _, rfl, by rw [eI3]; exact stf_I c41 (by decide) (by decide) (by decide), rfl⟩))))))))) ?_
  have hwI3 : wOK (mkT vV []) (wE sh R) (sh, I3, L, R) := by rw [eI3]; exact wOK_u2 (q := 41) (k := 8) (x := (I 44 (a).toNatClampNeg)) wE_put hw rfl (by show ((-1) : Int) ≤ _; omega) (by show _ ≤ (240 : Int); omega)
  have hfI3 : fresh (sh, I3, L, R) := by rw [eI3]; exact fresh_I hf c41
  have v4 : I3 41 6 = a := by rw [eI3, up2_ne (fun e => by cases e.2)]; exact ea
  have v5 : I3 41 7 = tk := by rw [eI3, up2_ne (fun e => by cases e.2)]; exact etk
  have v7 : I3 41 8 = (I 44 (a).toNatClampNeg) := by rw [eI3]; exact up2_eq
  refine XW.ret (r := none) ⟨rfl, by decide +kernel⟩ ?_
  refine ⟨rfl, hfI3, hwI3, fun q k h => ?_, rsC_f ?_⟩
  · show I3 q k = J q k
    rw [eI3, up2_ne (fun e => by rw [e.1, e.2] at h; cases h)]
    exact hk q k h
  · show (I3 41 8).toInt = _
    rw [eI3, up2_eq]
    exact hv44
theorem tc_failN {d : Nat} {sh : List mE} {I : Nat → Nat → Int32} {L : Nat → Nat → Int64} {R : Nat → Nat → Option Nat} (hw : wOK (mkT vV []) (wE sh R) (sh, I, L, R)) (h8 : 0 ≤ (I 41 8).toInt) : Tc 101 d 0 0 [.ref 41] (sh, I, L, R) (fun r w' => r = none ∧ w' = (sh, I, L, R)) := by
  have c41 : sh[41]? = some (.inr 5) := hw.1 41 _ rfl
  have z0 : (0 : Int32).toInt = 0 := rfl
  refine Tc.of mr_101 rfl (show 1 ≤ mr_101.2.2.2.1 by decide) ?_
  refine XW.fam (S' := (1, [(0, .ref 41)], [.ref 41], (sh, I, L, R))) (M := mr_101) rfl (show mcode 101 0 = some (0, .aload_n 0, 1, 0, 0, 0, _) from rfl) (Or.inl ⟨.ref 41, rfl, rfl⟩) ?_
  refine XW.fam (S' := (4, [(0, .ref 41)], [.int (I 41 8)], (sh, I, L, R))) (M := mr_101) rfl (show mcode 101 1 = some (1, .getfield 44, 3, 5, 8, 0, _) from rfl) (Or.inr (Or.inr (Or.inr (Or.inr (Or.inr (Or.inr (Or.inr (Or.inl ⟨_, _, rfl, fl_ldI c41 (by decide) (by decide), rfl⟩)))))))) ?_
  have k1 : bcmp .ge (I 41 8) 0 = true := bcT (c := .ge) (a := ((I 41 8)).toInt) (b := 0) rfl (by decide) (by show 0 ≤ ((I 41 8)).toInt; omega)
  refine XW.fam (S' := (20, [(0, .ref 41)], [], (sh, I, L, R))) (M := mr_101) rfl (show mcode 101 4 = some (4, .ifCond .ge 16, 3, 20, 0, 0, _) from rfl) (Or.inr (Or.inl ⟨20, [], by simp [brn, k1], rfl⟩)) ?_
  refine XW.ret (r := none) ⟨rfl, by decide +kernel⟩ ?_
  exact ⟨rfl, rfl⟩
def mdWr : aM := [(41, some 10), (46, none)]
theorem tc_wr {d : Nat} {sh : List mE} {I : Nat → Nat → Int32} {L : Nat → Nat → Int64} {R : Nat → Nat → Option Nat} {st v : Int32} (hw : wOK (mkT vV []) (wE sh R) (sh, I, L, R)) (hf : fresh (sh, I, L, R)) : Tc 107 d 0 0 [.ref 41, .int st, .int v] (sh, I, L, R) (fun r w' => r = none ∧ fresh w' ∧ wOK (mkT vV []) (wE sh R) w' ∧ ∀ q k, inm mdWr q k = false → w'.2.1 q k = I q k) := by
  have c41 : sh[41]? = some (.inr 5) := hw.1 41 _ rfl
  have c46 : sh[46]? = some (.inl (.int, 240)) := hw.1 46 _ rfl
  have r41_9 : R 41 9 = some 46 := hw.2.1 41 9 _ rfl
  have z1 : (1 : Int32).toInt = 1 := rfl
  have z8 : (8 : Int32).toInt = 8 := rfl
  have z240 : (240 : Int32).toInt = 240 := rfl
  have hmc : 0 ≤ (I 41 10).toInt ∧ (I 41 10).toInt ≤ 240 := hw.2.2.1 41 10
  obtain ⟨m, em⟩ : ∃ m, I 41 10 = m := ⟨_, rfl⟩
  rw [em] at hmc
  refine Tc.of mr_107 rfl (show 3 ≤ mr_107.2.2.2.1 by decide) ?_
  refine XW.fam (S' := (1, [(0, .ref 41), (1, .int st), (2, .int v)], [.ref 41], (sh, I, L, R))) (M := mr_107) rfl (show mcode 107 0 = some (0, .aload_n 0, 1, 0, 0, 0, _) from rfl) (Or.inl ⟨.ref 41, rfl, rfl⟩) ?_
  refine XW.fam (S' := (4, [(0, .ref 41), (1, .int st), (2, .int v)], [.int (I 41 10)], (sh, I, L, R))) (M := mr_107) rfl (show mcode 107 1 = some (1, .getfield 41, 3, 5, 10, 0, _) from rfl) (Or.inr (Or.inr (Or.inr (Or.inr (Or.inr (Or.inr (Or.inr (Or.inl ⟨_, _, rfl, fl_ldI c41 (by decide) (by decide), rfl⟩)))))))) ?_
  rw [em]
  refine XW.fam (S' := (7, [(0, .ref 41), (1, .int st), (2, .int v)], [.int 240, .int m], (sh, I, L, R))) (M := mr_107) rfl (show mcode 107 4 = some (4, .sipush 240, 3, 0, 0, 0, _) from rfl) (Or.inl ⟨.int 240, rfl, rfl⟩) ?_
  cases k1 : bcmp .ge m 240 with
  | true =>
    have gk1 : 240 ≤ (m).toInt := icT (c := .ge) (a := (m).toInt) (b := 240) rfl (by decide) k1
    refine XW.fam (S' := (35, [(0, .ref 41), (1, .int st), (2, .int v)], [], (sh, I, L, R))) (M := mr_107) rfl (show mcode 107 7 = some (7, .if_icmp .ge 28, 3, 35, 0, 0, _) from rfl) (Or.inr (Or.inl ⟨35, [], by simp [brn, k1], rfl⟩)) ?_
    refine XW.ret (r := none) ⟨rfl, by decide +kernel⟩ ?_
    exact ⟨rfl, hf, hw, fun _ _ _ => rfl⟩
  | false =>
    have gk1 : ¬ (240 ≤ (m).toInt) := icF (c := .ge) (a := (m).toInt) (b := 240) rfl (by decide) k1
    refine XW.fam (S' := (10, [(0, .ref 41), (1, .int st), (2, .int v)], [], (sh, I, L, R))) (M := mr_107) rfl (show mcode 107 7 = some (7, .if_icmp .ge 28, 3, 35, 0, 0, _) from rfl) (Or.inr (Or.inl ⟨10, [], by simp [brn, k1], rfl⟩)) ?_
    refine XW.fam (S' := (11, [(0, .ref 41), (1, .int st), (2, .int v)], [.ref 41], (sh, I, L, R))) (M := mr_107) rfl (show mcode 107 10 = some (10, .aload_n 0, 1, 0, 0, 0, _) from rfl) (Or.inl ⟨.ref 41, rfl, rfl⟩) ?_
    refine XW.fam (S' := (14, [(0, .ref 41), (1, .int st), (2, .int v)], [.ref 46], (sh, I, L, R))) (M := mr_107) rfl (show mcode 107 11 = some (11, .getfield 25, 3, 5, 9, 0, _) from rfl) (Or.inr (Or.inr (Or.inr (Or.inr (Or.inr (Or.inr (Or.inr (Or.inl ⟨_, _, rfl, fl_ld c41 r41_9 (by decide) (by decide), rfl⟩)))))))) ?_
    refine XW.fam (S' := (15, [(0, .ref 41), (1, .int st), (2, .int v)], [.ref 41, .ref 46], (sh, I, L, R))) (M := mr_107) rfl (show mcode 107 14 = some (14, .aload_n 0, 1, 0, 0, 0, _) from rfl) (Or.inl ⟨.ref 41, rfl, rfl⟩) ?_
    refine XW.fam (S' := (18, [(0, .ref 41), (1, .int st), (2, .int v)], [.int (I 41 10), .ref 46], (sh, I, L, R))) (M := mr_107) rfl (show mcode 107 15 = some (15, .getfield 41, 3, 5, 10, 0, _) from rfl) (Or.inr (Or.inr (Or.inr (Or.inr (Or.inr (Or.inr (Or.inr (Or.inl ⟨_, _, rfl, fl_ldI c41 (by decide) (by decide), rfl⟩)))))))) ?_
    rw [em]
    refine XW.fam (S' := (19, [(0, .ref 41), (1, .int st), (2, .int v)], [.int v, .int m, .ref 46], (sh, I, L, R))) (M := mr_107) rfl (show mcode 107 18 = some (18, .iload_n 2, 1, 0, 0, 0, _) from rfl) (Or.inl ⟨.int v, rfl, rfl⟩) ?_
    refine XW.fam (S' := (21, [(0, .ref 41), (1, .int st), (2, .int v)], [.int 8, .int v, .int m, .ref 46], (sh, I, L, R))) (M := mr_107) rfl (show mcode 107 19 = some (19, .bipush 8, 2, 0, 0, 0, _) from rfl) (Or.inl ⟨.int 8, rfl, rfl⟩) ?_
    refine XW.fam (S' := (22, [(0, .ref 41), (1, .int st), (2, .int v)], [.int (v <<< (8 &&& 31)), .int m, .ref 46], (sh, I, L, R))) (M := mr_107) rfl (show mcode 107 21 = some (21, .ishl, 1, 0, 0, 0, _) from rfl) (Or.inr (Or.inr (Or.inr (Or.inr (Or.inr (Or.inl ⟨_, rfl, rfl⟩)))))) ?_
    refine XW.fam (S' := (23, [(0, .ref 41), (1, .int st), (2, .int v)], [.int st, .int (v <<< (8 &&& 31)), .int m, .ref 46], (sh, I, L, R))) (M := mr_107) rfl (show mcode 107 22 = some (22, .iload_n 1, 1, 0, 0, 0, _) from rfl) (Or.inl ⟨.int st, rfl, rfl⟩) ?_
    refine XW.fam (S' := (24, [(0, .ref 41), (1, .int st), (2, .int v)], [.int ((v <<< (8 &&& 31)) ||| st), .int m, .ref 46], (sh, I, L, R))) (M := mr_107) rfl (show mcode 107 23 = some (23, .ior, 1, 0, 0, 0, _) from rfl) (Or.inr (Or.inr (Or.inr (Or.inr (Or.inr (Or.inl ⟨_, rfl, rfl⟩)))))) ?_
    have hin2 : inR m 240 = true := inR_of (by omega) (by omega)
    obtain ⟨I3, eI3⟩ : ∃ X, X = up2 I 46 (m).toNatClampNeg ((v <<< (8 &&& 31)) ||| st) := ⟨_, rfl⟩
    refine XW.fam (S' := (25, [(0, .ref 41), (1, .int st), (2, .int v)], [], (sh, I3, L, R))) (M := mr_107) rfl (show mcode 107 24 = some (24, .iastore, 1, 0, 0, 0, _) from rfl) (Or.inr (Or.inr (Or.inr (Or.inl ⟨_, _, by rw [eI3]; exact sta_i c46 hin2, rfl⟩)))) ?_
    have xb := i32b (((v <<< (8 &&& 31)) ||| st))
    unfold lo32 hi32 at xb
    have hwI3 : wOK (mkT vV []) (wE sh R) (sh, I3, L, R) := by rw [eI3]; exact wOK_u2 (q := 46) (k := (m).toNatClampNeg) (x := ((v <<< (8 &&& 31)) ||| st)) wE_put hw rfl (by show ((-2147483648) : Int) ≤ _; omega) (by show _ ≤ (2147483647 : Int); omega)
    have hfI3 : fresh (sh, I3, L, R) := by rw [eI3]; exact fresh_I hf c46
    have v4 : I3 41 10 = m := by rw [eI3, up2_ne (fun e => by cases e.1)]; exact em
    have v5 : I3 46 (m).toNatClampNeg = ((v <<< (8 &&& 31)) ||| st) := by rw [eI3]; exact up2_eq
    refine XW.fam (S' := (26, [(0, .ref 41), (1, .int st), (2, .int v)], [.ref 41], (sh, I3, L, R))) (M := mr_107) rfl (show mcode 107 25 = some (25, .aload_n 0, 1, 0, 0, 0, _) from rfl) (Or.inl ⟨.ref 41, rfl, rfl⟩) ?_
    refine XW.fam (S' := (27, [(0, .ref 41), (1, .int st), (2, .int v)], [.ref 41, .ref 41], (sh, I3, L, R))) (M := mr_107) rfl (show mcode 107 26 = some (26, .dup, 1, 0, 0, 0, _) from rfl) (Or.inr (Or.inr (Or.inr (Or.inr (Or.inr (Or.inl ⟨_, rfl, rfl⟩)))))) ?_
    refine XW.fam (S' := (30, [(0, .ref 41), (1, .int st), (2, .int v)], [.int (I3 41 10), .ref 41], (sh, I3, L, R))) (M := mr_107) rfl (show mcode 107 27 = some (27, .getfield 41, 3, 5, 10, 0, _) from rfl) (Or.inr (Or.inr (Or.inr (Or.inr (Or.inr (Or.inr (Or.inr (Or.inl ⟨_, _, rfl, fl_ldI c41 (by decide) (by decide), rfl⟩)))))))) ?_
    rw [v4]
    refine XW.fam (S' := (31, [(0, .ref 41), (1, .int st), (2, .int v)], [.int 1, .int m, .ref 41], (sh, I3, L, R))) (M := mr_107) rfl (show mcode 107 30 = some (30, .iconst 1, 1, 0, 0, 0, _) from rfl) (Or.inl ⟨.int 1, rfl, rfl⟩) ?_
    refine XW.fam (S' := (32, [(0, .ref 41), (1, .int st), (2, .int v)], [.int (m + 1), .ref 41], (sh, I3, L, R))) (M := mr_107) rfl (show mcode 107 31 = some (31, .iadd, 1, 0, 0, 0, _) from rfl) (Or.inr (Or.inr (Or.inr (Or.inr (Or.inr (Or.inl ⟨_, rfl, rfl⟩)))))) ?_
    obtain ⟨I6, eI6⟩ : ∃ X, X = up2 I3 41 10 (m + 1) := ⟨_, rfl⟩
    refine XW.fam (S' := (35, [(0, .ref 41), (1, .int st), (2, .int v)], [], (sh, I6, L, R))) (M := mr_107) rfl (show mcode 107 32 = some (32, .putfield 41, 3, 5, 10, 0, _) from rfl) (Or.inr (Or.inr (Or.inr (Or.inr (Or.inr (Or.inr (Or.inr (Or.inr (Or.inl ⟨_, _, _, rfl, by rw [eI6]; exact stf_I c41 (by decide) (by decide) (by decide), rfl⟩))))))))) ?_
    have xi := inc32 (m := m) (by omega) (by omega)
    have hwI6 : wOK (mkT vV []) (wE sh R) (sh, I6, L, R) := by rw [eI6]; exact wOK_u2 (q := 41) (k := 10) (x := (m + 1)) wE_put hwI3 rfl (by show (0 : Int) ≤ _; omega) (by show _ ≤ (240 : Int); omega)
    have hfI6 : fresh (sh, I6, L, R) := by rw [eI6]; exact fresh_I hfI3 c41
    have v8 : I6 46 (m).toNatClampNeg = ((v <<< (8 &&& 31)) ||| st) := by rw [eI6, up2_ne (fun e => by cases e.1)]; exact v5
    have v9 : I6 41 10 = (m + 1) := by rw [eI6]; exact up2_eq
    refine XW.ret (r := none) ⟨rfl, by decide +kernel⟩ ?_
    refine ⟨rfl, hfI6, hwI6, fun q k h => ?_⟩
    show I6 q k = I q k
    rw [eI6, up2_ne (fun e => by rw [e.1, e.2] at h; cases h), eI3, up2_ne (fun e => by rw [e.1] at h; cases h)]
theorem inm_TR {q k : Nat} (h : inm mdT q k = false) : inm mdWr q k = false := by
  unfold inm at h ⊢
  rw [List.any_eq_false] at h ⊢
  intro e he
  refine h e ?_
  rcases List.mem_cons.mp he with rfl | he
  · exact List.mem_of_getElem? (i := 3) rfl
  rcases List.mem_singleton.mp he with rfl
  exact List.mem_of_getElem? (i := 4) rfl
/-- writing keeps what is known -/
theorem tc_wrQ {d : Nat} {sh : List mE} {J : Nat → Nat → Int32} {R : Nat → Nat → Option Nat} {K : Nat → Int} {S : Nat → Nat} {N : Nat} {I : Nat → Nat → Int32} {L : Nat → Nat → Int64} {st v : Int32} {g : Bool × Nat} (h : QW sh R J K S N g (sh, I, L, R)) : Tc 107 d 0 0 [.ref 41, .int st, .int v] (sh, I, L, R) (QT sh R J K S N g) := by
  exact Tc.imp (tc_wr (d := d) (st := st) (v := v) h.2.1 h.1) (fun r w' q1 => ⟨q1.1, q1.2.1, q1.2.2.1, fun q k e => (q1.2.2.2 q k (inm_TR e)).trans (h.2.2.1 q k e), rsC_keep (q1.2.2.2 41 6 rfl) (q1.2.2.2 41 7 rfl) (q1.2.2.2 41 8 rfl) h.2.2.2⟩)
theorem tc_mayN {d i : Nat} {sh : List mE} {J : Nat → Nat → Int32} {R : Nat → Nat → Option Nat} {K : Nat → Int} {S : Nat → Nat} {N : Nat} {I : Nat → Nat → Int32} {L : Nat → Nat → Int64} {ov : Int32} (hT : tvC J K S N) (hw : wOK (mkT vV []) (wE sh R) (sh, I, L, R)) (hf : fresh (sh, I, L, R)) (hk : ∀ q k, inm mdT q k = false → I q k = J q k) (hst : stt K N I i) (h8 : 8 ≤ ov.toInt) : Tc 106 (d + 1) 0 0 [.ref 41, .int ov] (sh, I, L, R) (fun r w' => r = some (.int 0) ∧ QW sh R J K S N (false, i) w') := by
  have c41 : sh[41]? = some (.inr 5) := hw.1 41 _ rfl
  have z0 : (0 : Int32).toInt = 0 := rfl
  have z8 : (8 : Int32).toInt = 8 := rfl
  refine Tc.of mr_106 rfl (show 2 ≤ mr_106.2.2.2.1 by decide) ?_
  refine XW.fam (S' := (1, [(0, .ref 41), (1, .int ov)], [.int ov], (sh, I, L, R))) (M := mr_106) rfl (show mcode 106 0 = some (0, .iload_n 1, 1, 0, 0, 0, _) from rfl) (Or.inl ⟨.int ov, rfl, rfl⟩) ?_
  refine XW.fam (S' := (3, [(0, .ref 41), (1, .int ov)], [.int 8, .int ov], (sh, I, L, R))) (M := mr_106) rfl (show mcode 106 1 = some (1, .bipush 8, 2, 0, 0, 0, _) from rfl) (Or.inl ⟨.int 8, rfl, rfl⟩) ?_
  have k1 : bcmp .lt ov 8 = false := bcF (c := .lt) (a := (ov).toInt) (b := 8) rfl (by decide) (by show ¬ ((ov).toInt < 8); omega)
  refine XW.fam (S' := (6, [(0, .ref 41), (1, .int ov)], [], (sh, I, L, R))) (M := mr_106) rfl (show mcode 106 3 = some (3, .if_icmp .lt 9, 3, 12, 0, 0, _) from rfl) (Or.inr (Or.inl ⟨6, [], by simp [brn, k1], rfl⟩)) ?_
  refine XW.fam (S' := (7, [(0, .ref 41), (1, .int ov)], [.ref 41], (sh, I, L, R))) (M := mr_106) rfl (show mcode 106 6 = some (6, .aload_n 0, 1, 0, 0, 0, _) from rfl) (Or.inl ⟨.ref 41, rfl, rfl⟩) ?_
  refine XW.call (d' := d) (mc' := 0) (ms' := 0) (av := [.ref 41]) (rest := []) (M := mr_106) (Ma := mr_101) rfl (show mcode 106 7 = some (7, .invokevirtual 53, 3, 101, 0, 0, _) from rfl) rfl (by decide) (by decide) ⟨rfl, 41, _, rfl, c41⟩ rfl rfl (show 0 ≤ 8 by decide) (tc_fail (d := d) hT hw hf hk hst) (by omega) (Nat.zero_le _) (Nat.zero_le _) (fun rQ2 wQ2 Q2 => ?_)
  obtain ⟨hrQ2, hfQ2, hwQ2, hkQ2, hsQ2⟩ := Q2
  subst hrQ2
  obtain ⟨shQ2, IQ2, LQ2, RQ2⟩ := wQ2
  obtain rfl : sh = shQ2 := hwQ2.2.2.2.1.symm
  obtain rfl : R = RQ2 := hwQ2.2.2.2.2.1.symm
  have hkQ2 : ∀ q k, inm mdT q k = false → IQ2 q k = J q k := hkQ2
  refine XW.fam (S' := (11, [(0, .ref 41), (1, .int ov)], [.int 0], (sh, IQ2, LQ2, R))) (M := mr_106) rfl (show mcode 106 10 = some (10, .iconst 0, 1, 0, 0, 0, _) from rfl) (Or.inl ⟨.int 0, rfl, rfl⟩) ?_
  refine XW.ret (r := some (.int 0)) ⟨⟨.boolean, rfl, rfl⟩, by decide +kernel⟩ ?_
  exact ⟨rfl, hfQ2, hwQ2, hkQ2, hsQ2⟩
theorem tc_mayY {d i : Nat} {sh : List mE} {J : Nat → Nat → Int32} {R : Nat → Nat → Option Nat} {K : Nat → Int} {S : Nat → Nat} {N : Nat} {I : Nat → Nat → Int32} {L : Nat → Nat → Int64} {ov : Int32} (hT : tvC J K S N) (hw : wOK (mkT vV []) (wE sh R) (sh, I, L, R)) (hf : fresh (sh, I, L, R)) (hk : ∀ q k, inm mdT q k = false → I q k = J q k) (hst : stt K N I i) (h8 : ov.toInt < 8) (hi : i < N) : Tc 106 (d + 1) 0 0 [.ref 41, .int ov] (sh, I, L, R) (fun r w' => r = some (.int 1) ∧ QW sh R J K S N (true, i + 1) w') := by
  have c41 : sh[41]? = some (.inr 5) := hw.1 41 _ rfl
  have z1 : (1 : Int32).toInt = 1 := rfl
  have z8 : (8 : Int32).toInt = 8 := rfl
  refine Tc.of mr_106 rfl (show 2 ≤ mr_106.2.2.2.1 by decide) ?_
  refine XW.fam (S' := (1, [(0, .ref 41), (1, .int ov)], [.int ov], (sh, I, L, R))) (M := mr_106) rfl (show mcode 106 0 = some (0, .iload_n 1, 1, 0, 0, 0, _) from rfl) (Or.inl ⟨.int ov, rfl, rfl⟩) ?_
  refine XW.fam (S' := (3, [(0, .ref 41), (1, .int ov)], [.int 8, .int ov], (sh, I, L, R))) (M := mr_106) rfl (show mcode 106 1 = some (1, .bipush 8, 2, 0, 0, 0, _) from rfl) (Or.inl ⟨.int 8, rfl, rfl⟩) ?_
  have k1 : bcmp .lt ov 8 = true := bcT (c := .lt) (a := (ov).toInt) (b := 8) rfl (by decide) (by show (ov).toInt < 8; omega)
  refine XW.fam (S' := (12, [(0, .ref 41), (1, .int ov)], [], (sh, I, L, R))) (M := mr_106) rfl (show mcode 106 3 = some (3, .if_icmp .lt 9, 3, 12, 0, 0, _) from rfl) (Or.inr (Or.inl ⟨12, [], by simp [brn, k1], rfl⟩)) ?_
  refine XW.fam (S' := (13, [(0, .ref 41), (1, .int ov)], [.ref 41], (sh, I, L, R))) (M := mr_106) rfl (show mcode 106 12 = some (12, .aload_n 0, 1, 0, 0, 0, _) from rfl) (Or.inl ⟨.ref 41, rfl, rfl⟩) ?_
  refine XW.call (d' := d) (mc' := 0) (ms' := 0) (av := [.ref 41]) (rest := []) (M := mr_106) (Ma := mr_102) rfl (show mcode 106 13 = some (13, .invokevirtual 50, 3, 102, 0, 0, _) from rfl) rfl (by decide) (by decide) ⟨rfl, 41, _, rfl, c41⟩ rfl rfl (show 0 ≤ 8 by decide) (tc_adv (d := d) hT hw hf hk hst hi) (by omega) (Nat.zero_le _) (Nat.zero_le _) (fun rQ2 wQ2 Q2 => ?_)
  obtain ⟨hrQ2, hfQ2, hwQ2, hkQ2, hsQ2⟩ := Q2
  subst hrQ2
  obtain ⟨shQ2, IQ2, LQ2, RQ2⟩ := wQ2
  obtain rfl : sh = shQ2 := hwQ2.2.2.2.1.symm
  obtain rfl : R = RQ2 := hwQ2.2.2.2.2.1.symm
  have hkQ2 : ∀ q k, inm mdT q k = false → IQ2 q k = J q k := hkQ2
  refine XW.fam (S' := (17, [(0, .ref 41), (1, .int ov)], [.int 1], (sh, IQ2, LQ2, R))) (M := mr_106) rfl (show mcode 106 16 = some (16, .iconst 1, 1, 0, 0, 0, _) from rfl) (Or.inl ⟨.int 1, rfl, rfl⟩) ?_
  refine XW.ret (r := some (.int 1)) ⟨⟨.boolean, rfl, rfl⟩, by decide +kernel⟩ ?_
  exact ⟨rfl, hfQ2, hwQ2, hkQ2, hsQ2⟩
theorem tc_clT {d i : Nat} {sh : List mE} {J : Nat → Nat → Int32} {R : Nat → Nat → Option Nat} {K : Nat → Int} {S : Nat → Nat} {N : Nat} {I : Nat → Nat → Int32} {L : Nat → Nat → Int64} {sg : Int32} (hT : tvC J K S N) (hw : wOK (mkT vV []) (wE sh R) (sh, I, L, R)) (hf : fresh (sh, I, L, R)) (hk : ∀ q k, inm mdT q k = false → I q k = J q k) (hst : stt K N I i) (hsg : ¬ sg.toInt = 302) : Tc 108 (d + 1) 0 0 [.ref 41, .int sg] (sh, I, L, R) (QT sh R J K S N (if K i = sg.toInt then (true, i + 1) else (false, i))) := by
  have c41 : sh[41]? = some (.inr 5) := hw.1 41 _ rfl
  have z0 : (0 : Int32).toInt = 0 := rfl
  obtain ⟨⟨hN5, hN2⟩, hN, hTk⟩ := id hT
  obtain ⟨a, ea⟩ : ∃ z : Int32, I 41 6 = z := ⟨_, rfl⟩
  have ha : a.toInt = (i : Int) := by rw [← ea]; exact hst.1
  obtain ⟨tk, etk⟩ : ∃ z : Int32, I 41 7 = z := ⟨_, rfl⟩
  have htk : tk.toInt = K i := by rw [← etk]; exact hst.2.1
  obtain ⟨fl, efl⟩ : ∃ z : Int32, I 41 8 = z := ⟨_, rfl⟩
  have hfl : fl.toInt = -1 := by rw [← efl]; exact hst.2.2.1
  have hle : i ≤ N := hst.2.2.2
  have hlt : ¬ K i = 302 → i < N := lt_N hN hle
  refine Tc.of mr_108 rfl (show 2 ≤ mr_108.2.2.2.1 by decide) ?_
  refine XW.fam (S' := (1, [(0, .ref 41), (1, .int sg)], [.ref 41], (sh, I, L, R))) (M := mr_108) rfl (show mcode 108 0 = some (0, .aload_n 0, 1, 0, 0, 0, _) from rfl) (Or.inl ⟨.ref 41, rfl, rfl⟩) ?_
  refine XW.fam (S' := (4, [(0, .ref 41), (1, .int sg)], [.int (I 41 7)], (sh, I, L, R))) (M := mr_108) rfl (show mcode 108 1 = some (1, .getfield 38, 3, 5, 7, 0, _) from rfl) (Or.inr (Or.inr (Or.inr (Or.inr (Or.inr (Or.inr (Or.inr (Or.inl ⟨_, _, rfl, fl_ldI c41 (by decide) (by decide), rfl⟩)))))))) ?_
  rw [etk]
  refine XW.fam (S' := (5, [(0, .ref 41), (1, .int sg)], [.int sg, .int tk], (sh, I, L, R))) (M := mr_108) rfl (show mcode 108 4 = some (4, .iload_n 1, 1, 0, 0, 0, _) from rfl) (Or.inl ⟨.int sg, rfl, rfl⟩) ?_
  cases k1 : bcmp .eq tk sg with
  | true =>
    have gk1 : (tk).toInt = (sg).toInt := icT (c := .eq) (a := (tk).toInt) (b := (sg).toInt) rfl rfl k1
    refine XW.fam (S' := (12, [(0, .ref 41), (1, .int sg)], [], (sh, I, L, R))) (M := mr_108) rfl (show mcode 108 5 = some (5, .if_icmp .eq 7, 3, 12, 0, 0, _) from rfl) (Or.inr (Or.inl ⟨12, [], by simp [brn, k1], rfl⟩)) ?_
    refine XW.fam (S' := (13, [(0, .ref 41), (1, .int sg)], [.ref 41], (sh, I, L, R))) (M := mr_108) rfl (show mcode 108 12 = some (12, .aload_n 0, 1, 0, 0, 0, _) from rfl) (Or.inl ⟨.ref 41, rfl, rfl⟩) ?_
    refine XW.fam (S' := (16, [(0, .ref 41), (1, .int sg)], [.int (I 41 8)], (sh, I, L, R))) (M := mr_108) rfl (show mcode 108 13 = some (13, .getfield 44, 3, 5, 8, 0, _) from rfl) (Or.inr (Or.inr (Or.inr (Or.inr (Or.inr (Or.inr (Or.inr (Or.inl ⟨_, _, rfl, fl_ldI c41 (by decide) (by decide), rfl⟩)))))))) ?_
    rw [efl]
    have k2 : bcmp .ge fl 0 = false := bcF (c := .ge) (a := (fl).toInt) (b := 0) rfl (by decide) (by show ¬ (0 ≤ (fl).toInt); omega)
    refine XW.fam (S' := (19, [(0, .ref 41), (1, .int sg)], [], (sh, I, L, R))) (M := mr_108) rfl (show mcode 108 16 = some (16, .ifCond .ge 7, 3, 23, 0, 0, _) from rfl) (Or.inr (Or.inl ⟨19, [], by simp [brn, k2], rfl⟩)) ?_
    refine XW.fam (S' := (20, [(0, .ref 41), (1, .int sg)], [.ref 41], (sh, I, L, R))) (M := mr_108) rfl (show mcode 108 19 = some (19, .aload_n 0, 1, 0, 0, 0, _) from rfl) (Or.inl ⟨.ref 41, rfl, rfl⟩) ?_
    refine XW.call (d' := d) (mc' := 0) (ms' := 0) (av := [.ref 41]) (rest := []) (M := mr_108) (Ma := mr_102) rfl (show mcode 108 20 = some (20, .invokevirtual 50, 3, 102, 0, 0, _) from rfl) rfl (by decide) (by decide) ⟨rfl, 41, _, rfl, c41⟩ rfl rfl (show 0 ≤ 8 by decide) (tc_adv (d := d) hT hw hf hk hst (lt_N hN hle (by omega))) (by omega) (Nat.zero_le _) (Nat.zero_le _) (fun rQ3 wQ3 Q3 => ?_)
    obtain ⟨hrQ3, hfQ3, hwQ3, hkQ3, hsQ3⟩ := Q3
    subst hrQ3
    obtain ⟨shQ3, IQ3, LQ3, RQ3⟩ := wQ3
    obtain rfl : sh = shQ3 := hwQ3.2.2.2.1.symm
    obtain rfl : R = RQ3 := hwQ3.2.2.2.2.1.symm
    have hkQ3 : ∀ q k, inm mdT q k = false → IQ3 q k = J q k := hkQ3
    refine XW.ret (r := none) ⟨rfl, by decide +kernel⟩ ?_
    first
      | (rw [if_pos (by omega)]; exact ⟨rfl, hfQ3, hwQ3, hkQ3, hsQ3⟩)
      | (rw [if_neg (by omega)]; exact ⟨rfl, hfQ3, hwQ3, hkQ3, hsQ3⟩)
  | false =>
    have gk1 : ¬ ((tk).toInt = (sg).toInt) := icF (c := .eq) (a := (tk).toInt) (b := (sg).toInt) rfl rfl k1
    refine XW.fam (S' := (8, [(0, .ref 41), (1, .int sg)], [], (sh, I, L, R))) (M := mr_108) rfl (show mcode 108 5 = some (5, .if_icmp .eq 7, 3, 12, 0, 0, _) from rfl) (Or.inr (Or.inl ⟨8, [], by simp [brn, k1], rfl⟩)) ?_
    refine XW.fam (S' := (9, [(0, .ref 41), (1, .int sg)], [.ref 41], (sh, I, L, R))) (M := mr_108) rfl (show mcode 108 8 = some (8, .aload_n 0, 1, 0, 0, 0, _) from rfl) (Or.inl ⟨.ref 41, rfl, rfl⟩) ?_
    refine XW.call (d' := d) (mc' := 0) (ms' := 0) (av := [.ref 41]) (rest := []) (M := mr_108) (Ma := mr_101) rfl (show mcode 108 9 = some (9, .invokevirtual 53, 3, 101, 0, 0, _) from rfl) rfl (by decide) (by decide) ⟨rfl, 41, _, rfl, c41⟩ rfl rfl (show 0 ≤ 8 by decide) (tc_fail (d := d) hT hw hf hk hst) (by omega) (Nat.zero_le _) (Nat.zero_le _) (fun rQ4 wQ4 Q4 => ?_)
    obtain ⟨hrQ4, hfQ4, hwQ4, hkQ4, hsQ4⟩ := Q4
    subst hrQ4
    obtain ⟨shQ4, IQ4, LQ4, RQ4⟩ := wQ4
    obtain rfl : sh = shQ4 := hwQ4.2.2.2.1.symm
    obtain rfl : R = RQ4 := hwQ4.2.2.2.2.1.symm
    have hkQ4 : ∀ q k, inm mdT q k = false → IQ4 q k = J q k := hkQ4
    obtain ⟨fl2, efl2⟩ : ∃ z : Int32, IQ4 41 8 = z := ⟨_, rfl⟩
    have hfl2 : fl2.toInt = (S i : Int) := by rw [← efl2]; exact hsQ4.2 rfl
    refine XW.fam (S' := (13, [(0, .ref 41), (1, .int sg)], [.ref 41], (sh, IQ4, LQ4, R))) (M := mr_108) rfl (show mcode 108 12 = some (12, .aload_n 0, 1, 0, 0, 0, _) from rfl) (Or.inl ⟨.ref 41, rfl, rfl⟩) ?_
    refine XW.fam (S' := (16, [(0, .ref 41), (1, .int sg)], [.int (IQ4 41 8)], (sh, IQ4, LQ4, R))) (M := mr_108) rfl (show mcode 108 13 = some (13, .getfield 44, 3, 5, 8, 0, _) from rfl) (Or.inr (Or.inr (Or.inr (Or.inr (Or.inr (Or.inr (Or.inr (Or.inl ⟨_, _, rfl, fl_ldI c41 (by decide) (by decide), rfl⟩)))))))) ?_
    rw [efl2]
    have k5 : bcmp .ge fl2 0 = true := bcT (c := .ge) (a := (fl2).toInt) (b := 0) rfl (by decide) (by show 0 ≤ (fl2).toInt; omega)
    refine XW.fam (S' := (23, [(0, .ref 41), (1, .int sg)], [], (sh, IQ4, LQ4, R))) (M := mr_108) rfl (show mcode 108 16 = some (16, .ifCond .ge 7, 3, 23, 0, 0, _) from rfl) (Or.inr (Or.inl ⟨23, [], by simp [brn, k5], rfl⟩)) ?_
    refine XW.ret (r := none) ⟨rfl, by decide +kernel⟩ ?_
    first
      | (rw [if_pos (by omega)]; exact ⟨rfl, hfQ4, hwQ4, hkQ4, hsQ4⟩)
      | (rw [if_neg (by omega)]; exact ⟨rfl, hfQ4, hwQ4, hkQ4, hsQ4⟩)
theorem tc_clF {d : Nat} {sh : List mE} {I : Nat → Nat → Int32} {L : Nat → Nat → Int64} {R : Nat → Nat → Option Nat} {sg : Int32} (hw : wOK (mkT vV []) (wE sh R) (sh, I, L, R)) (h8 : 0 ≤ (I 41 8).toInt) : Tc 108 (d + 1) 0 0 [.ref 41, .int sg] (sh, I, L, R) (fun r w' => r = none ∧ w' = (sh, I, L, R)) := by
  have c41 : sh[41]? = some (.inr 5) := hw.1 41 _ rfl
  have z0 : (0 : Int32).toInt = 0 := rfl
  refine Tc.of mr_108 rfl (show 2 ≤ mr_108.2.2.2.1 by decide) ?_
  refine XW.fam (S' := (1, [(0, .ref 41), (1, .int sg)], [.ref 41], (sh, I, L, R))) (M := mr_108) rfl (show mcode 108 0 = some (0, .aload_n 0, 1, 0, 0, 0, _) from rfl) (Or.inl ⟨.ref 41, rfl, rfl⟩) ?_
  refine XW.fam (S' := (4, [(0, .ref 41), (1, .int sg)], [.int (I 41 7)], (sh, I, L, R))) (M := mr_108) rfl (show mcode 108 1 = some (1, .getfield 38, 3, 5, 7, 0, _) from rfl) (Or.inr (Or.inr (Or.inr (Or.inr (Or.inr (Or.inr (Or.inr (Or.inl ⟨_, _, rfl, fl_ldI c41 (by decide) (by decide), rfl⟩)))))))) ?_
  refine XW.fam (S' := (5, [(0, .ref 41), (1, .int sg)], [.int sg, .int (I 41 7)], (sh, I, L, R))) (M := mr_108) rfl (show mcode 108 4 = some (4, .iload_n 1, 1, 0, 0, 0, _) from rfl) (Or.inl ⟨.int sg, rfl, rfl⟩) ?_
  cases k1 : bcmp .eq (I 41 7) sg with
  | true =>
    have gk1 : ((I 41 7)).toInt = (sg).toInt := icT (c := .eq) (a := ((I 41 7)).toInt) (b := (sg).toInt) rfl rfl k1
    refine XW.fam (S' := (12, [(0, .ref 41), (1, .int sg)], [], (sh, I, L, R))) (M := mr_108) rfl (show mcode 108 5 = some (5, .if_icmp .eq 7, 3, 12, 0, 0, _) from rfl) (Or.inr (Or.inl ⟨12, [], by simp [brn, k1], rfl⟩)) ?_
    refine XW.fam (S' := (13, [(0, .ref 41), (1, .int sg)], [.ref 41], (sh, I, L, R))) (M := mr_108) rfl (show mcode 108 12 = some (12, .aload_n 0, 1, 0, 0, 0, _) from rfl) (Or.inl ⟨.ref 41, rfl, rfl⟩) ?_
    refine XW.fam (S' := (16, [(0, .ref 41), (1, .int sg)], [.int (I 41 8)], (sh, I, L, R))) (M := mr_108) rfl (show mcode 108 13 = some (13, .getfield 44, 3, 5, 8, 0, _) from rfl) (Or.inr (Or.inr (Or.inr (Or.inr (Or.inr (Or.inr (Or.inr (Or.inl ⟨_, _, rfl, fl_ldI c41 (by decide) (by decide), rfl⟩)))))))) ?_
    have k2 : bcmp .ge (I 41 8) 0 = true := bcT (c := .ge) (a := ((I 41 8)).toInt) (b := 0) rfl (by decide) (by show 0 ≤ ((I 41 8)).toInt; omega)
    refine XW.fam (S' := (23, [(0, .ref 41), (1, .int sg)], [], (sh, I, L, R))) (M := mr_108) rfl (show mcode 108 16 = some (16, .ifCond .ge 7, 3, 23, 0, 0, _) from rfl) (Or.inr (Or.inl ⟨23, [], by simp [brn, k2], rfl⟩)) ?_
    refine XW.ret (r := none) ⟨rfl, by decide +kernel⟩ ?_
    exact ⟨rfl, rfl⟩
  | false =>
    have gk1 : ¬ (((I 41 7)).toInt = (sg).toInt) := icF (c := .eq) (a := ((I 41 7)).toInt) (b := (sg).toInt) rfl rfl k1
    refine XW.fam (S' := (8, [(0, .ref 41), (1, .int sg)], [], (sh, I, L, R))) (M := mr_108) rfl (show mcode 108 5 = some (5, .if_icmp .eq 7, 3, 12, 0, 0, _) from rfl) (Or.inr (Or.inl ⟨8, [], by simp [brn, k1], rfl⟩)) ?_
    refine XW.fam (S' := (9, [(0, .ref 41), (1, .int sg)], [.ref 41], (sh, I, L, R))) (M := mr_108) rfl (show mcode 108 8 = some (8, .aload_n 0, 1, 0, 0, 0, _) from rfl) (Or.inl ⟨.ref 41, rfl, rfl⟩) ?_
    refine XW.call (d' := d) (mc' := 0) (ms' := 0) (av := [.ref 41]) (rest := []) (M := mr_108) (Ma := mr_101) rfl (show mcode 108 9 = some (9, .invokevirtual 53, 3, 101, 0, 0, _) from rfl) rfl (by decide) (by decide) ⟨rfl, 41, _, rfl, c41⟩ rfl rfl (show 0 ≤ 8 by decide) (tc_failN (d := d) hw h8) (by omega) (Nat.zero_le _) (Nat.zero_le _) (fun rQ3 wQ3 Q3 => ?_)
    obtain ⟨rfl, rfl⟩ := Q3
    refine XW.fam (S' := (13, [(0, .ref 41), (1, .int sg)], [.ref 41], (sh, I, L, R))) (M := mr_108) rfl (show mcode 108 12 = some (12, .aload_n 0, 1, 0, 0, 0, _) from rfl) (Or.inl ⟨.ref 41, rfl, rfl⟩) ?_
    refine XW.fam (S' := (16, [(0, .ref 41), (1, .int sg)], [.int (I 41 8)], (sh, I, L, R))) (M := mr_108) rfl (show mcode 108 13 = some (13, .getfield 44, 3, 5, 8, 0, _) from rfl) (Or.inr (Or.inr (Or.inr (Or.inr (Or.inr (Or.inr (Or.inr (Or.inl ⟨_, _, rfl, fl_ldI c41 (by decide) (by decide), rfl⟩)))))))) ?_
    have k4 : bcmp .ge (I 41 8) 0 = true := bcT (c := .ge) (a := ((I 41 8)).toInt) (b := 0) rfl (by decide) (by show 0 ≤ ((I 41 8)).toInt; omega)
    refine XW.fam (S' := (23, [(0, .ref 41), (1, .int sg)], [], (sh, I, L, R))) (M := mr_108) rfl (show mcode 108 16 = some (16, .ifCond .ge 7, 3, 23, 0, 0, _) from rfl) (Or.inr (Or.inl ⟨23, [], by simp [brn, k4], rfl⟩)) ?_
    refine XW.ret (r := none) ⟨rfl, by decide +kernel⟩ ?_
    exact ⟨rfl, rfl⟩
theorem tc_cl {d : Nat} {sh : List mE} {J : Nat → Nat → Int32} {R : Nat → Nat → Option Nat} {K : Nat → Int} {S : Nat → Nat} {N : Nat} {I : Nat → Nat → Int32} {L : Nat → Nat → Int64} {sg : Int32} {c : Int} {g : Bool × Nat} (hT : tvC J K S N) (h : QW sh R J K S N g (sh, I, L, R)) (hc : sg.toInt = c) (hsg : ¬ c = 302) : Tc 108 (d + 1) 0 0 [.ref 41, .int sg] (sh, I, L, R) (QT sh R J K S N (gB g (fun j => if K j = c then (true, j + 1) else (false, j)))) := by
  subst hc
  cases e : g.1 with
  | true =>
    rw [gB_t e]
    exact tc_clT hT h.2.1 h.1 h.2.2.1 (h.2.2.2.1 e) hsg
  | false =>
    rw [gB_f e]
    have h8 : (I 41 8).toInt = (S g.2 : Int) := h.2.2.2.2 e
    exact Tc.imp (tc_clF h.2.1 (by omega)) (fun r w' q => by rw [q.2]; exact ⟨q.1, h⟩)
/-- the contract of a method of the grammar, by fuel -/
def CTx (sh : List mE) (R : Nat → Nat → Option Nat) (J : Nat → Nat → Int32) (K : Nat → Int) (S : Nat → Nat) (N : Nat) (d j rk m f : Nat) : Prop := ∀ (o i : Nat) (ov : Int32) {I : Nat → Nat → Int32} {L : Nat → Nat → Int64}, ov.toInt = (o : Int) → o ≤ 8 → wOK (mkT vV []) (wE sh R) (sh, I, L, R) → fresh (sh, I, L, R) → (∀ q k, inm mdT q k = false → I q k = J q k) → stt K N I i → 10 * (N - i) + (m + 1) ≤ f → Tc j (d + 2 + (6 * (8 - o) + rk)) 0 0 [.ref 41, .int ov] (sh, I, L, R) (QT sh R J K S N (gPx K f m o i))
theorem one_of {d f : Nat} {sh : List mE} {J : Nat → Nat → Int32} {R : Nat → Nat → Option Nat} {K : Nat → Int} {S : Nat → Nat} {N : Nat} (hT : tvC J K S N) (Hs : CTx sh R J K S N d 109 3 4 f) : CTx sh R J K S N d 111 1 0 (f + 1) := by
  intro o i ov I L hov ho hw hf hk hst hmu
  obtain ⟨⟨hN5, hN2⟩, hN, hTk⟩ := id hT
  have c41 : sh[41]? = some (.inr 5) := hw.1 41 _ rfl
  have c45 : sh[45]? = some (.inl (.int, 241)) := hw.1 45 _ rfl
  have r41_4 : R 41 4 = some 45 := hw.2.1 41 4 _ rfl
  have z0 : (0 : Int32).toInt = 0 := rfl
  have z1 : (1 : Int32).toInt = 1 := rfl
  have z40 : (40 : Int32).toInt = 40 := rfl
  have z41 : (41 : Int32).toInt = 41 := rfl
  have z264 : (264 : Int32).toInt = 264 := rfl
  have z274 : (274 : Int32).toInt = 274 := rfl
  have z300 : (300 : Int32).toInt = 300 := rfl
  obtain ⟨a, ea⟩ : ∃ z : Int32, I 41 6 = z := ⟨_, rfl⟩
  have ha : a.toInt = (i : Int) := by rw [← ea]; exact hst.1
  obtain ⟨tk, etk⟩ : ∃ z : Int32, I 41 7 = z := ⟨_, rfl⟩
  have htk : tk.toInt = K i := by rw [← etk]; exact hst.2.1
  obtain ⟨fl, efl⟩ : ∃ z : Int32, I 41 8 = z := ⟨_, rfl⟩
  have hfl : fl.toInt = -1 := by rw [← efl]; exact hst.2.2.1
  have hle : i ≤ N := hst.2.2.2
  have hlt : ¬ K i = 302 → i < N := lt_N hN hle
  refine Tc.of mr_111 rfl (show 2 ≤ mr_111.2.2.2.1 by decide) ?_
  refine XW.fam (S' := (1, [(0, .ref 41), (1, .int ov)], [.ref 41], (sh, I, L, R))) (M := mr_111) rfl (show mcode 111 0 = some (0, .aload_n 0, 1, 0, 0, 0, _) from rfl) (Or.inl ⟨.ref 41, rfl, rfl⟩) ?_
  refine XW.fam (S' := (4, [(0, .ref 41), (1, .int ov)], [.int (I 41 8)], (sh, I, L, R))) (M := mr_111) rfl (show mcode 111 1 = some (1, .getfield 44, 3, 5, 8, 0, _) from rfl) (Or.inr (Or.inr (Or.inr (Or.inr (Or.inr (Or.inr (Or.inr (Or.inl ⟨_, _, rfl, fl_ldI c41 (by decide) (by decide), rfl⟩)))))))) ?_
  rw [efl]
  have k1 : bcmp .lt fl 0 = true := bcT (c := .lt) (a := (fl).toInt) (b := 0) rfl (by decide) (by show (fl).toInt < 0; omega)
  refine XW.fam (S' := (8, [(0, .ref 41), (1, .int ov)], [], (sh, I, L, R))) (M := mr_111) rfl (show mcode 111 4 = some (4, .ifCond .lt 4, 3, 8, 0, 0, _) from rfl) (Or.inr (Or.inl ⟨8, [], by simp [brn, k1], rfl⟩)) ?_
  refine XW.fam (S' := (9, [(0, .ref 41), (1, .int ov)], [.ref 41], (sh, I, L, R))) (M := mr_111) rfl (show mcode 111 8 = some (8, .aload_n 0, 1, 0, 0, 0, _) from rfl) (Or.inl ⟨.ref 41, rfl, rfl⟩) ?_
  refine XW.fam (S' := (12, [(0, .ref 41), (1, .int ov)], [.int (I 41 7)], (sh, I, L, R))) (M := mr_111) rfl (show mcode 111 9 = some (9, .getfield 38, 3, 5, 7, 0, _) from rfl) (Or.inr (Or.inr (Or.inr (Or.inr (Or.inr (Or.inr (Or.inr (Or.inl ⟨_, _, rfl, fl_ldI c41 (by decide) (by decide), rfl⟩)))))))) ?_
  rw [etk]
  refine XW.fam (S' := (15, [(0, .ref 41), (1, .int ov)], [.int 300, .int tk], (sh, I, L, R))) (M := mr_111) rfl (show mcode 111 12 = some (12, .sipush 300, 3, 0, 0, 0, _) from rfl) (Or.inl ⟨.int 300, rfl, rfl⟩) ?_
  cases k2 : bcmp .ne tk 300 with
  | true =>
    have gk2 : ¬ (tk).toInt = 300 := icT (c := .ne) (a := (tk).toInt) (b := 300) rfl (by decide) k2
    refine XW.fam (S' := (39, [(0, .ref 41), (1, .int ov)], [], (sh, I, L, R))) (M := mr_111) rfl (show mcode 111 15 = some (15, .if_icmp .ne 24, 3, 39, 0, 0, _) from rfl) (Or.inr (Or.inl ⟨39, [], by simp [brn, k2], rfl⟩)) ?_
    refine XW.fam (S' := (40, [(0, .ref 41), (1, .int ov)], [.ref 41], (sh, I, L, R))) (M := mr_111) rfl (show mcode 111 39 = some (39, .aload_n 0, 1, 0, 0, 0, _) from rfl) (Or.inl ⟨.ref 41, rfl, rfl⟩) ?_
    refine XW.fam (S' := (43, [(0, .ref 41), (1, .int ov)], [.int (I 41 7)], (sh, I, L, R))) (M := mr_111) rfl (show mcode 111 40 = some (40, .getfield 38, 3, 5, 7, 0, _) from rfl) (Or.inr (Or.inr (Or.inr (Or.inr (Or.inr (Or.inr (Or.inr (Or.inl ⟨_, _, rfl, fl_ldI c41 (by decide) (by decide), rfl⟩)))))))) ?_
    rw [etk]
    refine XW.fam (S' := (46, [(0, .ref 41), (1, .int ov)], [.int 264, .int tk], (sh, I, L, R))) (M := mr_111) rfl (show mcode 111 43 = some (43, .sipush 264, 3, 0, 0, 0, _) from rfl) (Or.inl ⟨.int 264, rfl, rfl⟩) ?_
    cases k3 : bcmp .lt tk 264 with
    | true =>
      have gk3 : (tk).toInt < 264 := icT (c := .lt) (a := (tk).toInt) (b := 264) rfl (by decide) k3
      refine XW.fam (S' := (79, [(0, .ref 41), (1, .int ov)], [], (sh, I, L, R))) (M := mr_111) rfl (show mcode 111 46 = some (46, .if_icmp .lt 33, 3, 79, 0, 0, _) from rfl) (Or.inr (Or.inl ⟨79, [], by simp [brn, k3], rfl⟩)) ?_
      refine XW.fam (S' := (80, [(0, .ref 41), (1, .int ov)], [.ref 41], (sh, I, L, R))) (M := mr_111) rfl (show mcode 111 79 = some (79, .aload_n 0, 1, 0, 0, 0, _) from rfl) (Or.inl ⟨.ref 41, rfl, rfl⟩) ?_
      refine XW.fam (S' := (83, [(0, .ref 41), (1, .int ov)], [.int (I 41 7)], (sh, I, L, R))) (M := mr_111) rfl (show mcode 111 80 = some (80, .getfield 38, 3, 5, 7, 0, _) from rfl) (Or.inr (Or.inr (Or.inr (Or.inr (Or.inr (Or.inr (Or.inr (Or.inl ⟨_, _, rfl, fl_ldI c41 (by decide) (by decide), rfl⟩)))))))) ?_
      rw [etk]
      refine XW.fam (S' := (85, [(0, .ref 41), (1, .int ov)], [.int 40, .int tk], (sh, I, L, R))) (M := mr_111) rfl (show mcode 111 83 = some (83, .bipush 40, 2, 0, 0, 0, _) from rfl) (Or.inl ⟨.int 40, rfl, rfl⟩) ?_
      cases k4 : bcmp .ne tk 40 with
      | true =>
        have gk4 : ¬ (tk).toInt = 40 := icT (c := .ne) (a := (tk).toInt) (b := 40) rfl (by decide) k4
        refine XW.fam (S' := (112, [(0, .ref 41), (1, .int ov)], [], (sh, I, L, R))) (M := mr_111) rfl (show mcode 111 85 = some (85, .if_icmp .ne 27, 3, 112, 0, 0, _) from rfl) (Or.inr (Or.inl ⟨112, [], by simp [brn, k4], rfl⟩)) ?_
        refine XW.fam (S' := (113, [(0, .ref 41), (1, .int ov)], [.ref 41], (sh, I, L, R))) (M := mr_111) rfl (show mcode 111 112 = some (112, .aload_n 0, 1, 0, 0, 0, _) from rfl) (Or.inl ⟨.ref 41, rfl, rfl⟩) ?_
        refine XW.call (d' := d) (mc' := 0) (ms' := 0) (av := [.ref 41]) (rest := []) (M := mr_111) (Ma := mr_101) rfl (show mcode 111 113 = some (113, .invokevirtual 53, 3, 101, 0, 0, _) from rfl) rfl (by decide) (by decide) ⟨rfl, 41, _, rfl, c41⟩ rfl rfl (show 0 ≤ 8 by decide) (tc_fail (d := d) hT hw hf hk hst) (by omega) (Nat.zero_le _) (Nat.zero_le _) (fun rQ5 wQ5 Q5 => ?_)
        obtain ⟨hrQ5, hfQ5, hwQ5, hkQ5, hsQ5⟩ := Q5
        subst hrQ5
        obtain ⟨shQ5, IQ5, LQ5, RQ5⟩ := wQ5
        obtain rfl : sh = shQ5 := hwQ5.2.2.2.1.symm
        obtain rfl : R = RQ5 := hwQ5.2.2.2.2.1.symm
        have hkQ5 : ∀ q k, inm mdT q k = false → IQ5 q k = J q k := hkQ5
        refine XW.ret (r := none) ⟨rfl, by decide +kernel⟩ ?_
        rw [gPx_0]
        unfold g0
        rw [if_neg (by omega), if_neg (by omega)]
        exact ⟨rfl, hfQ5, hwQ5, hkQ5, hsQ5⟩
      | false =>
        have gk4 : ¬ (¬ (tk).toInt = 40) := icF (c := .ne) (a := (tk).toInt) (b := 40) rfl (by decide) k4
        refine XW.fam (S' := (88, [(0, .ref 41), (1, .int ov)], [], (sh, I, L, R))) (M := mr_111) rfl (show mcode 111 85 = some (85, .if_icmp .ne 27, 3, 112, 0, 0, _) from rfl) (Or.inr (Or.inl ⟨88, [], by simp [brn, k4], rfl⟩)) ?_
        by_cases h8 : 8 ≤ o
        · skip
          refine XW.fam (S' := (89, [(0, .ref 41), (1, .int ov)], [.ref 41], (sh, I, L, R))) (M := mr_111) rfl (show mcode 111 88 = some (88, .aload_n 0, 1, 0, 0, 0, _) from rfl) (Or.inl ⟨.ref 41, rfl, rfl⟩) ?_
          refine XW.fam (S' := (90, [(0, .ref 41), (1, .int ov)], [.int ov, .ref 41], (sh, I, L, R))) (M := mr_111) rfl (show mcode 111 89 = some (89, .iload_n 1, 1, 0, 0, 0, _) from rfl) (Or.inl ⟨.int ov, rfl, rfl⟩) ?_
          refine XW.call (d' := d + 1) (mc' := 0) (ms' := 0) (av := [.ref 41, .int ov]) (rest := []) (M := mr_111) (Ma := mr_106) rfl (show mcode 111 90 = some (90, .invokevirtual 118, 3, 106, 0, 0, _) from rfl) rfl (by decide) (by decide) ⟨rfl, 41, _, rfl, c41⟩ rfl rfl (show 0 ≤ 8 by decide) (tc_mayN (d := d) hT hw hf hk hst (by omega)) (by omega) (Nat.zero_le _) (Nat.zero_le _) (fun rQ6 wQ6 Q6 => ?_)
          obtain ⟨hrQ6, hfQ6, hwQ6, hkQ6, hsQ6⟩ := Q6
          subst hrQ6
          obtain ⟨shQ6, IQ6, LQ6, RQ6⟩ := wQ6
          obtain rfl : sh = shQ6 := hwQ6.2.2.2.1.symm
          obtain rfl : R = RQ6 := hwQ6.2.2.2.2.1.symm
          have hkQ6 : ∀ q k, inm mdT q k = false → IQ6 q k = J q k := hkQ6
          refine XW.fam (S' := (116, [(0, .ref 41), (1, .int ov)], [], (sh, IQ6, LQ6, R))) (M := mr_111) rfl (show mcode 111 93 = some (93, .ifCond .eq 23, 3, 116, 0, 0, _) from rfl) (Or.inr (Or.inl ⟨116, [], rfl, rfl⟩)) ?_
          refine XW.ret (r := none) ⟨rfl, by decide +kernel⟩ ?_
          rw [gPx_0]
          unfold g0
          rw [if_neg (by omega), if_pos (by omega), if_pos (by omega)]
          exact ⟨rfl, hfQ6, hwQ6, hkQ6, hsQ6⟩
        · skip
          refine XW.fam (S' := (89, [(0, .ref 41), (1, .int ov)], [.ref 41], (sh, I, L, R))) (M := mr_111) rfl (show mcode 111 88 = some (88, .aload_n 0, 1, 0, 0, 0, _) from rfl) (Or.inl ⟨.ref 41, rfl, rfl⟩) ?_
          refine XW.fam (S' := (90, [(0, .ref 41), (1, .int ov)], [.int ov, .ref 41], (sh, I, L, R))) (M := mr_111) rfl (show mcode 111 89 = some (89, .iload_n 1, 1, 0, 0, 0, _) from rfl) (Or.inl ⟨.int ov, rfl, rfl⟩) ?_
          refine XW.call (d' := d + 1) (mc' := 0) (ms' := 0) (av := [.ref 41, .int ov]) (rest := []) (M := mr_111) (Ma := mr_106) rfl (show mcode 111 90 = some (90, .invokevirtual 118, 3, 106, 0, 0, _) from rfl) rfl (by decide) (by decide) ⟨rfl, 41, _, rfl, c41⟩ rfl rfl (show 0 ≤ 8 by decide) (tc_mayY (d := d) hT hw hf hk hst (by omega) (lt_N hN hle (by omega))) (by omega) (Nat.zero_le _) (Nat.zero_le _) (fun rQ7 wQ7 Q7 => ?_)
          obtain ⟨hrQ7, hfQ7, hwQ7, hkQ7, hsQ7⟩ := Q7
          subst hrQ7
          obtain ⟨shQ7, IQ7, LQ7, RQ7⟩ := wQ7
          obtain rfl : sh = shQ7 := hwQ7.2.2.2.1.symm
          obtain rfl : R = RQ7 := hwQ7.2.2.2.2.1.symm
          have hkQ7 : ∀ q k, inm mdT q k = false → IQ7 q k = J q k := hkQ7
          refine XW.fam (S' := (96, [(0, .ref 41), (1, .int ov)], [], (sh, IQ7, LQ7, R))) (M := mr_111) rfl (show mcode 111 93 = some (93, .ifCond .eq 23, 3, 116, 0, 0, _) from rfl) (Or.inr (Or.inl ⟨96, [], rfl, rfl⟩)) ?_
          refine XW.fam (S' := (97, [(0, .ref 41), (1, .int ov)], [.ref 41], (sh, IQ7, LQ7, R))) (M := mr_111) rfl (show mcode 111 96 = some (96, .aload_n 0, 1, 0, 0, 0, _) from rfl) (Or.inl ⟨.ref 41, rfl, rfl⟩) ?_
          refine XW.fam (S' := (98, [(0, .ref 41), (1, .int ov)], [.int ov, .ref 41], (sh, IQ7, LQ7, R))) (M := mr_111) rfl (show mcode 111 97 = some (97, .iload_n 1, 1, 0, 0, 0, _) from rfl) (Or.inl ⟨.int ov, rfl, rfl⟩) ?_
          refine XW.fam (S' := (99, [(0, .ref 41), (1, .int ov)], [.int 1, .int ov, .ref 41], (sh, IQ7, LQ7, R))) (M := mr_111) rfl (show mcode 111 98 = some (98, .iconst 1, 1, 0, 0, 0, _) from rfl) (Or.inl ⟨.int 1, rfl, rfl⟩) ?_
          refine XW.fam (S' := (100, [(0, .ref 41), (1, .int ov)], [.int (ov + 1), .ref 41], (sh, IQ7, LQ7, R))) (M := mr_111) rfl (show mcode 111 99 = some (99, .iadd, 1, 0, 0, 0, _) from rfl) (Or.inr (Or.inr (Or.inr (Or.inr (Or.inr (Or.inl ⟨_, rfl, rfl⟩)))))) ?_
          have hov1 := inc32 (m := ov) (by omega) (by omega)
          refine XW.call (d' := (d + 2 + (6 * (8 - (o + 1)) + 3))) (mc' := 0) (ms' := 0) (av := [.ref 41, .int (ov + 1)]) (rest := []) (M := mr_111) (Ma := mr_109) rfl (show mcode 111 100 = some (100, .invokevirtual 105, 3, 109, 0, 0, _) from rfl) rfl (by decide) (by decide) ⟨rfl, 41, _, rfl, c41⟩ rfl rfl (show 0 ≤ 8 by decide) (Hs (o + 1) (i + 1) (ov + 1) (by omega) (by omega) hwQ7 hfQ7 hkQ7 (hsQ7.1 rfl) (by omega)) (by omega) (Nat.zero_le _) (Nat.zero_le _) (fun rQ8 wQ8 Q8 => ?_)
          obtain ⟨hrQ8, hfQ8, hwQ8, hkQ8, hsQ8⟩ := Q8
          subst hrQ8
          obtain ⟨shQ8, IQ8, LQ8, RQ8⟩ := wQ8
          obtain rfl : sh = shQ8 := hwQ8.2.2.2.1.symm
          obtain rfl : R = RQ8 := hwQ8.2.2.2.2.1.symm
          have hkQ8 : ∀ q k, inm mdT q k = false → IQ8 q k = J q k := hkQ8
          refine XW.fam (S' := (104, [(0, .ref 41), (1, .int ov)], [.ref 41], (sh, IQ8, LQ8, R))) (M := mr_111) rfl (show mcode 111 103 = some (103, .aload_n 0, 1, 0, 0, 0, _) from rfl) (Or.inl ⟨.ref 41, rfl, rfl⟩) ?_
          refine XW.fam (S' := (106, [(0, .ref 41), (1, .int ov)], [.int 41, .ref 41], (sh, IQ8, LQ8, R))) (M := mr_111) rfl (show mcode 111 104 = some (104, .bipush 41, 2, 0, 0, 0, _) from rfl) (Or.inl ⟨.int 41, rfl, rfl⟩) ?_
          refine XW.call (d' := d + 1) (mc' := 0) (ms' := 0) (av := [.ref 41, .int 41]) (rest := []) (M := mr_111) (Ma := mr_108) rfl (show mcode 111 106 = some (106, .invokevirtual 121, 3, 108, 0, 0, _) from rfl) rfl (by decide) (by decide) ⟨rfl, 41, _, rfl, c41⟩ rfl rfl (show 0 ≤ 8 by decide) (tc_cl (d := d) (c := 41) hT (show QW sh R J K S N (gPx K f 4 (o + 1) (i + 1)) (sh, IQ8, LQ8, R) from ⟨hfQ8, hwQ8, hkQ8, hsQ8⟩) rfl (by decide)) (by omega) (Nat.zero_le _) (Nat.zero_le _) (fun rQ9 wQ9 Q9 => ?_)
          obtain ⟨hrQ9, hfQ9, hwQ9, hkQ9, hsQ9⟩ := Q9
          subst hrQ9
          obtain ⟨shQ9, IQ9, LQ9, RQ9⟩ := wQ9
          obtain rfl : sh = shQ9 := hwQ9.2.2.2.1.symm
          obtain rfl : R = RQ9 := hwQ9.2.2.2.2.1.symm
          have hkQ9 : ∀ q k, inm mdT q k = false → IQ9 q k = J q k := hkQ9
          refine XW.fam (S' := (116, [(0, .ref 41), (1, .int ov)], [], (sh, IQ9, LQ9, R))) (M := mr_111) rfl (show mcode 111 109 = some (109, .goto 7, 3, 116, 0, 0, _) from rfl) (Or.inr (Or.inl ⟨116, [], rfl, rfl⟩)) ?_
          refine XW.ret (r := none) ⟨rfl, by decide +kernel⟩ ?_
          rw [gPx_0]
          unfold g0
          rw [if_neg (by omega), if_pos (by omega), if_neg (by omega)]
          exact ⟨rfl, hfQ9, hwQ9, hkQ9, hsQ9⟩
    | false =>
      have gk3 : ¬ ((tk).toInt < 264) := icF (c := .lt) (a := (tk).toInt) (b := 264) rfl (by decide) k3
      refine XW.fam (S' := (49, [(0, .ref 41), (1, .int ov)], [], (sh, I, L, R))) (M := mr_111) rfl (show mcode 111 46 = some (46, .if_icmp .lt 33, 3, 79, 0, 0, _) from rfl) (Or.inr (Or.inl ⟨49, [], by simp [brn, k3], rfl⟩)) ?_
      refine XW.fam (S' := (50, [(0, .ref 41), (1, .int ov)], [.ref 41], (sh, I, L, R))) (M := mr_111) rfl (show mcode 111 49 = some (49, .aload_n 0, 1, 0, 0, 0, _) from rfl) (Or.inl ⟨.ref 41, rfl, rfl⟩) ?_
      refine XW.fam (S' := (53, [(0, .ref 41), (1, .int ov)], [.int (I 41 7)], (sh, I, L, R))) (M := mr_111) rfl (show mcode 111 50 = some (50, .getfield 38, 3, 5, 7, 0, _) from rfl) (Or.inr (Or.inr (Or.inr (Or.inr (Or.inr (Or.inr (Or.inr (Or.inl ⟨_, _, rfl, fl_ldI c41 (by decide) (by decide), rfl⟩)))))))) ?_
      rw [etk]
      refine XW.fam (S' := (56, [(0, .ref 41), (1, .int ov)], [.int 274, .int tk], (sh, I, L, R))) (M := mr_111) rfl (show mcode 111 53 = some (53, .sipush 274, 3, 0, 0, 0, _) from rfl) (Or.inl ⟨.int 274, rfl, rfl⟩) ?_
      cases k10 : bcmp .ge tk 274 with
      | true =>
        have gk10 : 274 ≤ (tk).toInt := icT (c := .ge) (a := (tk).toInt) (b := 274) rfl (by decide) k10
        refine XW.fam (S' := (79, [(0, .ref 41), (1, .int ov)], [], (sh, I, L, R))) (M := mr_111) rfl (show mcode 111 56 = some (56, .if_icmp .ge 23, 3, 79, 0, 0, _) from rfl) (Or.inr (Or.inl ⟨79, [], by simp [brn, k10], rfl⟩)) ?_
        refine XW.fam (S' := (80, [(0, .ref 41), (1, .int ov)], [.ref 41], (sh, I, L, R))) (M := mr_111) rfl (show mcode 111 79 = some (79, .aload_n 0, 1, 0, 0, 0, _) from rfl) (Or.inl ⟨.ref 41, rfl, rfl⟩) ?_
        refine XW.fam (S' := (83, [(0, .ref 41), (1, .int ov)], [.int (I 41 7)], (sh, I, L, R))) (M := mr_111) rfl (show mcode 111 80 = some (80, .getfield 38, 3, 5, 7, 0, _) from rfl) (Or.inr (Or.inr (Or.inr (Or.inr (Or.inr (Or.inr (Or.inr (Or.inl ⟨_, _, rfl, fl_ldI c41 (by decide) (by decide), rfl⟩)))))))) ?_
        rw [etk]
        refine XW.fam (S' := (85, [(0, .ref 41), (1, .int ov)], [.int 40, .int tk], (sh, I, L, R))) (M := mr_111) rfl (show mcode 111 83 = some (83, .bipush 40, 2, 0, 0, 0, _) from rfl) (Or.inl ⟨.int 40, rfl, rfl⟩) ?_
        cases k11 : bcmp .ne tk 40 with
        | true =>
          have gk11 : ¬ (tk).toInt = 40 := icT (c := .ne) (a := (tk).toInt) (b := 40) rfl (by decide) k11
          refine XW.fam (S' := (112, [(0, .ref 41), (1, .int ov)], [], (sh, I, L, R))) (M := mr_111) rfl (show mcode 111 85 = some (85, .if_icmp .ne 27, 3, 112, 0, 0, _) from rfl) (Or.inr (Or.inl ⟨112, [], by simp [brn, k11], rfl⟩)) ?_
          refine XW.fam (S' := (113, [(0, .ref 41), (1, .int ov)], [.ref 41], (sh, I, L, R))) (M := mr_111) rfl (show mcode 111 112 = some (112, .aload_n 0, 1, 0, 0, 0, _) from rfl) (Or.inl ⟨.ref 41, rfl, rfl⟩) ?_
          refine XW.call (d' := d) (mc' := 0) (ms' := 0) (av := [.ref 41]) (rest := []) (M := mr_111) (Ma := mr_101) rfl (show mcode 111 113 = some (113, .invokevirtual 53, 3, 101, 0, 0, _) from rfl) rfl (by decide) (by decide) ⟨rfl, 41, _, rfl, c41⟩ rfl rfl (show 0 ≤ 8 by decide) (tc_fail (d := d) hT hw hf hk hst) (by omega) (Nat.zero_le _) (Nat.zero_le _) (fun rQ12 wQ12 Q12 => ?_)
          obtain ⟨hrQ12, hfQ12, hwQ12, hkQ12, hsQ12⟩ := Q12
          subst hrQ12
          obtain ⟨shQ12, IQ12, LQ12, RQ12⟩ := wQ12
          obtain rfl : sh = shQ12 := hwQ12.2.2.2.1.symm
          obtain rfl : R = RQ12 := hwQ12.2.2.2.2.1.symm
          have hkQ12 : ∀ q k, inm mdT q k = false → IQ12 q k = J q k := hkQ12
          refine XW.ret (r := none) ⟨rfl, by decide +kernel⟩ ?_
          rw [gPx_0]
          unfold g0
          rw [if_neg (by omega), if_neg (by omega)]
          exact ⟨rfl, hfQ12, hwQ12, hkQ12, hsQ12⟩
        | false =>
          have gk11 : ¬ (¬ (tk).toInt = 40) := icF (c := .ne) (a := (tk).toInt) (b := 40) rfl (by decide) k11
          refine XW.fam (S' := (88, [(0, .ref 41), (1, .int ov)], [], (sh, I, L, R))) (M := mr_111) rfl (show mcode 111 85 = some (85, .if_icmp .ne 27, 3, 112, 0, 0, _) from rfl) (Or.inr (Or.inl ⟨88, [], by simp [brn, k11], rfl⟩)) ?_
          by_cases h8 : 8 ≤ o
          · skip
            refine XW.fam (S' := (89, [(0, .ref 41), (1, .int ov)], [.ref 41], (sh, I, L, R))) (M := mr_111) rfl (show mcode 111 88 = some (88, .aload_n 0, 1, 0, 0, 0, _) from rfl) (Or.inl ⟨.ref 41, rfl, rfl⟩) ?_
            refine XW.fam (S' := (90, [(0, .ref 41), (1, .int ov)], [.int ov, .ref 41], (sh, I, L, R))) (M := mr_111) rfl (show mcode 111 89 = some (89, .iload_n 1, 1, 0, 0, 0, _) from rfl) (Or.inl ⟨.int ov, rfl, rfl⟩) ?_
            refine XW.call (d' := d + 1) (mc' := 0) (ms' := 0) (av := [.ref 41, .int ov]) (rest := []) (M := mr_111) (Ma := mr_106) rfl (show mcode 111 90 = some (90, .invokevirtual 118, 3, 106, 0, 0, _) from rfl) rfl (by decide) (by decide) ⟨rfl, 41, _, rfl, c41⟩ rfl rfl (show 0 ≤ 8 by decide) (tc_mayN (d := d) hT hw hf hk hst (by omega)) (by omega) (Nat.zero_le _) (Nat.zero_le _) (fun rQ13 wQ13 Q13 => ?_)
            obtain ⟨hrQ13, hfQ13, hwQ13, hkQ13, hsQ13⟩ := Q13
            subst hrQ13
            obtain ⟨shQ13, IQ13, LQ13, RQ13⟩ := wQ13
            obtain rfl : sh = shQ13 := hwQ13.2.2.2.1.symm
            obtain rfl : R = RQ13 := hwQ13.2.2.2.2.1.symm
            have hkQ13 : ∀ q k, inm mdT q k = false → IQ13 q k = J q k := hkQ13
            refine XW.fam (S' := (116, [(0, .ref 41), (1, .int ov)], [], (sh, IQ13, LQ13, R))) (M := mr_111) rfl (show mcode 111 93 = some (93, .ifCond .eq 23, 3, 116, 0, 0, _) from rfl) (Or.inr (Or.inl ⟨116, [], rfl, rfl⟩)) ?_
            refine XW.ret (r := none) ⟨rfl, by decide +kernel⟩ ?_
            rw [gPx_0]
            unfold g0
            rw [if_neg (by omega), if_pos (by omega), if_pos (by omega)]
            exact ⟨rfl, hfQ13, hwQ13, hkQ13, hsQ13⟩
          · skip
            refine XW.fam (S' := (89, [(0, .ref 41), (1, .int ov)], [.ref 41], (sh, I, L, R))) (M := mr_111) rfl (show mcode 111 88 = some (88, .aload_n 0, 1, 0, 0, 0, _) from rfl) (Or.inl ⟨.ref 41, rfl, rfl⟩) ?_
            refine XW.fam (S' := (90, [(0, .ref 41), (1, .int ov)], [.int ov, .ref 41], (sh, I, L, R))) (M := mr_111) rfl (show mcode 111 89 = some (89, .iload_n 1, 1, 0, 0, 0, _) from rfl) (Or.inl ⟨.int ov, rfl, rfl⟩) ?_
            refine XW.call (d' := d + 1) (mc' := 0) (ms' := 0) (av := [.ref 41, .int ov]) (rest := []) (M := mr_111) (Ma := mr_106) rfl (show mcode 111 90 = some (90, .invokevirtual 118, 3, 106, 0, 0, _) from rfl) rfl (by decide) (by decide) ⟨rfl, 41, _, rfl, c41⟩ rfl rfl (show 0 ≤ 8 by decide) (tc_mayY (d := d) hT hw hf hk hst (by omega) (lt_N hN hle (by omega))) (by omega) (Nat.zero_le _) (Nat.zero_le _) (fun rQ14 wQ14 Q14 => ?_)
            obtain ⟨hrQ14, hfQ14, hwQ14, hkQ14, hsQ14⟩ := Q14
            subst hrQ14
            obtain ⟨shQ14, IQ14, LQ14, RQ14⟩ := wQ14
            obtain rfl : sh = shQ14 := hwQ14.2.2.2.1.symm
            obtain rfl : R = RQ14 := hwQ14.2.2.2.2.1.symm
            have hkQ14 : ∀ q k, inm mdT q k = false → IQ14 q k = J q k := hkQ14
            refine XW.fam (S' := (96, [(0, .ref 41), (1, .int ov)], [], (sh, IQ14, LQ14, R))) (M := mr_111) rfl (show mcode 111 93 = some (93, .ifCond .eq 23, 3, 116, 0, 0, _) from rfl) (Or.inr (Or.inl ⟨96, [], rfl, rfl⟩)) ?_
            refine XW.fam (S' := (97, [(0, .ref 41), (1, .int ov)], [.ref 41], (sh, IQ14, LQ14, R))) (M := mr_111) rfl (show mcode 111 96 = some (96, .aload_n 0, 1, 0, 0, 0, _) from rfl) (Or.inl ⟨.ref 41, rfl, rfl⟩) ?_
            refine XW.fam (S' := (98, [(0, .ref 41), (1, .int ov)], [.int ov, .ref 41], (sh, IQ14, LQ14, R))) (M := mr_111) rfl (show mcode 111 97 = some (97, .iload_n 1, 1, 0, 0, 0, _) from rfl) (Or.inl ⟨.int ov, rfl, rfl⟩) ?_
            refine XW.fam (S' := (99, [(0, .ref 41), (1, .int ov)], [.int 1, .int ov, .ref 41], (sh, IQ14, LQ14, R))) (M := mr_111) rfl (show mcode 111 98 = some (98, .iconst 1, 1, 0, 0, 0, _) from rfl) (Or.inl ⟨.int 1, rfl, rfl⟩) ?_
            refine XW.fam (S' := (100, [(0, .ref 41), (1, .int ov)], [.int (ov + 1), .ref 41], (sh, IQ14, LQ14, R))) (M := mr_111) rfl (show mcode 111 99 = some (99, .iadd, 1, 0, 0, 0, _) from rfl) (Or.inr (Or.inr (Or.inr (Or.inr (Or.inr (Or.inl ⟨_, rfl, rfl⟩)))))) ?_
            have hov1 := inc32 (m := ov) (by omega) (by omega)
            refine XW.call (d' := (d + 2 + (6 * (8 - (o + 1)) + 3))) (mc' := 0) (ms' := 0) (av := [.ref 41, .int (ov + 1)]) (rest := []) (M := mr_111) (Ma := mr_109) rfl (show mcode 111 100 = some (100, .invokevirtual 105, 3, 109, 0, 0, _) from rfl) rfl (by decide) (by decide) ⟨rfl, 41, _, rfl, c41⟩ rfl rfl (show 0 ≤ 8 by decide) (Hs (o + 1) (i + 1) (ov + 1) (by omega) (by omega) hwQ14 hfQ14 hkQ14 (hsQ14.1 rfl) (by omega)) (by omega) (Nat.zero_le _) (Nat.zero_le _) (fun rQ15 wQ15 Q15 => ?_)
            obtain ⟨hrQ15, hfQ15, hwQ15, hkQ15, hsQ15⟩ := Q15
            subst hrQ15
            obtain ⟨shQ15, IQ15, LQ15, RQ15⟩ := wQ15
            obtain rfl : sh = shQ15 := hwQ15.2.2.2.1.symm
            obtain rfl : R = RQ15 := hwQ15.2.2.2.2.1.symm
            have hkQ15 : ∀ q k, inm mdT q k = false → IQ15 q k = J q k := hkQ15
            refine XW.fam (S' := (104, [(0, .ref 41), (1, .int ov)], [.ref 41], (sh, IQ15, LQ15, R))) (M := mr_111) rfl (show mcode 111 103 = some (103, .aload_n 0, 1, 0, 0, 0, _) from rfl) (Or.inl ⟨.ref 41, rfl, rfl⟩) ?_
            refine XW.fam (S' := (106, [(0, .ref 41), (1, .int ov)], [.int 41, .ref 41], (sh, IQ15, LQ15, R))) (M := mr_111) rfl (show mcode 111 104 = some (104, .bipush 41, 2, 0, 0, 0, _) from rfl) (Or.inl ⟨.int 41, rfl, rfl⟩) ?_
            refine XW.call (d' := d + 1) (mc' := 0) (ms' := 0) (av := [.ref 41, .int 41]) (rest := []) (M := mr_111) (Ma := mr_108) rfl (show mcode 111 106 = some (106, .invokevirtual 121, 3, 108, 0, 0, _) from rfl) rfl (by decide) (by decide) ⟨rfl, 41, _, rfl, c41⟩ rfl rfl (show 0 ≤ 8 by decide) (tc_cl (d := d) (c := 41) hT (show QW sh R J K S N (gPx K f 4 (o + 1) (i + 1)) (sh, IQ15, LQ15, R) from ⟨hfQ15, hwQ15, hkQ15, hsQ15⟩) rfl (by decide)) (by omega) (Nat.zero_le _) (Nat.zero_le _) (fun rQ16 wQ16 Q16 => ?_)
            obtain ⟨hrQ16, hfQ16, hwQ16, hkQ16, hsQ16⟩ := Q16
            subst hrQ16
            obtain ⟨shQ16, IQ16, LQ16, RQ16⟩ := wQ16
            obtain rfl : sh = shQ16 := hwQ16.2.2.2.1.symm
            obtain rfl : R = RQ16 := hwQ16.2.2.2.2.1.symm
            have hkQ16 : ∀ q k, inm mdT q k = false → IQ16 q k = J q k := hkQ16
            refine XW.fam (S' := (116, [(0, .ref 41), (1, .int ov)], [], (sh, IQ16, LQ16, R))) (M := mr_111) rfl (show mcode 111 109 = some (109, .goto 7, 3, 116, 0, 0, _) from rfl) (Or.inr (Or.inl ⟨116, [], rfl, rfl⟩)) ?_
            refine XW.ret (r := none) ⟨rfl, by decide +kernel⟩ ?_
            rw [gPx_0]
            unfold g0
            rw [if_neg (by omega), if_pos (by omega), if_neg (by omega)]
            exact ⟨rfl, hfQ16, hwQ16, hkQ16, hsQ16⟩
      | false =>
        have gk10 : ¬ (274 ≤ (tk).toInt) := icF (c := .ge) (a := (tk).toInt) (b := 274) rfl (by decide) k10
        refine XW.fam (S' := (59, [(0, .ref 41), (1, .int ov)], [], (sh, I, L, R))) (M := mr_111) rfl (show mcode 111 56 = some (56, .if_icmp .ge 23, 3, 79, 0, 0, _) from rfl) (Or.inr (Or.inl ⟨59, [], by simp [brn, k10], rfl⟩)) ?_
        refine XW.fam (S' := (60, [(0, .ref 41), (1, .int ov)], [.ref 41], (sh, I, L, R))) (M := mr_111) rfl (show mcode 111 59 = some (59, .aload_n 0, 1, 0, 0, 0, _) from rfl) (Or.inl ⟨.ref 41, rfl, rfl⟩) ?_
        refine XW.fam (S' := (61, [(0, .ref 41), (1, .int ov)], [.int 1, .ref 41], (sh, I, L, R))) (M := mr_111) rfl (show mcode 111 60 = some (60, .iconst 1, 1, 0, 0, 0, _) from rfl) (Or.inl ⟨.int 1, rfl, rfl⟩) ?_
        refine XW.fam (S' := (62, [(0, .ref 41), (1, .int ov)], [.ref 41, .int 1, .ref 41], (sh, I, L, R))) (M := mr_111) rfl (show mcode 111 61 = some (61, .aload_n 0, 1, 0, 0, 0, _) from rfl) (Or.inl ⟨.ref 41, rfl, rfl⟩) ?_
        refine XW.fam (S' := (65, [(0, .ref 41), (1, .int ov)], [.int (I 41 7), .int 1, .ref 41], (sh, I, L, R))) (M := mr_111) rfl (show mcode 111 62 = some (62, .getfield 38, 3, 5, 7, 0, _) from rfl) (Or.inr (Or.inr (Or.inr (Or.inr (Or.inr (Or.inr (Or.inr (Or.inl ⟨_, _, rfl, fl_ldI c41 (by decide) (by decide), rfl⟩)))))))) ?_
        rw [etk]
        refine XW.fam (S' := (68, [(0, .ref 41), (1, .int ov)], [.int 264, .int tk, .int 1, .ref 41], (sh, I, L, R))) (M := mr_111) rfl (show mcode 111 65 = some (65, .sipush 264, 3, 0, 0, 0, _) from rfl) (Or.inl ⟨.int 264, rfl, rfl⟩) ?_
        refine XW.fam (S' := (69, [(0, .ref 41), (1, .int ov)], [.int (tk - 264), .int 1, .ref 41], (sh, I, L, R))) (M := mr_111) rfl (show mcode 111 68 = some (68, .isub, 1, 0, 0, 0, _) from rfl) (Or.inr (Or.inr (Or.inr (Or.inr (Or.inr (Or.inl ⟨_, rfl, rfl⟩)))))) ?_
        refine XW.call (d' := d) (mc' := 0) (ms' := 0) (av := [.ref 41, .int 1, .int (tk - 264)]) (rest := []) (M := mr_111) (Ma := mr_107) rfl (show mcode 111 69 = some (69, .invokevirtual 108, 3, 107, 0, 0, _) from rfl) rfl (by decide) (by decide) ⟨rfl, 41, _, rfl, c41⟩ rfl rfl (show 0 ≤ 8 by decide) (tc_wrQ (d := d) (g := (true, i)) (show QW sh R J K S N (true, i) (sh, I, L, R) from ⟨hf, hw, hk, rsC_t hst⟩)) (by omega) (Nat.zero_le _) (Nat.zero_le _) (fun rQ17 wQ17 Q17 => ?_)
        obtain ⟨hrQ17, hfQ17, hwQ17, hkQ17, hsQ17⟩ := Q17
        subst hrQ17
        obtain ⟨shQ17, IQ17, LQ17, RQ17⟩ := wQ17
        obtain rfl : sh = shQ17 := hwQ17.2.2.2.1.symm
        obtain rfl : R = RQ17 := hwQ17.2.2.2.2.1.symm
        have hkQ17 : ∀ q k, inm mdT q k = false → IQ17 q k = J q k := hkQ17
        refine XW.fam (S' := (73, [(0, .ref 41), (1, .int ov)], [.ref 41], (sh, IQ17, LQ17, R))) (M := mr_111) rfl (show mcode 111 72 = some (72, .aload_n 0, 1, 0, 0, 0, _) from rfl) (Or.inl ⟨.ref 41, rfl, rfl⟩) ?_
        refine XW.call (d' := d) (mc' := 0) (ms' := 0) (av := [.ref 41]) (rest := []) (M := mr_111) (Ma := mr_102) rfl (show mcode 111 73 = some (73, .invokevirtual 50, 3, 102, 0, 0, _) from rfl) rfl (by decide) (by decide) ⟨rfl, 41, _, rfl, c41⟩ rfl rfl (show 0 ≤ 8 by decide) (tc_adv (d := d) (i := i) hT hwQ17 hfQ17 hkQ17 (hsQ17.1 rfl) (lt_N hN hle (by omega))) (by omega) (Nat.zero_le _) (Nat.zero_le _) (fun rQ18 wQ18 Q18 => ?_)
        obtain ⟨hrQ18, hfQ18, hwQ18, hkQ18, hsQ18⟩ := Q18
        subst hrQ18
        obtain ⟨shQ18, IQ18, LQ18, RQ18⟩ := wQ18
        obtain rfl : sh = shQ18 := hwQ18.2.2.2.1.symm
        obtain rfl : R = RQ18 := hwQ18.2.2.2.2.1.symm
        have hkQ18 : ∀ q k, inm mdT q k = false → IQ18 q k = J q k := hkQ18
        refine XW.fam (S' := (116, [(0, .ref 41), (1, .int ov)], [], (sh, IQ18, LQ18, R))) (M := mr_111) rfl (show mcode 111 76 = some (76, .goto 40, 3, 116, 0, 0, _) from rfl) (Or.inr (Or.inl ⟨116, [], rfl, rfl⟩)) ?_
        refine XW.ret (r := none) ⟨rfl, by decide +kernel⟩ ?_
        rw [gPx_0]
        unfold g0
        rw [if_pos (Or.inr ⟨by omega, by omega⟩)]
        exact ⟨rfl, hfQ18, hwQ18, hkQ18, hsQ18⟩
  | false =>
    have gk2 : ¬ (¬ (tk).toInt = 300) := icF (c := .ne) (a := (tk).toInt) (b := 300) rfl (by decide) k2
    refine XW.fam (S' := (18, [(0, .ref 41), (1, .int ov)], [], (sh, I, L, R))) (M := mr_111) rfl (show mcode 111 15 = some (15, .if_icmp .ne 24, 3, 39, 0, 0, _) from rfl) (Or.inr (Or.inl ⟨18, [], by simp [brn, k2], rfl⟩)) ?_
    refine XW.fam (S' := (19, [(0, .ref 41), (1, .int ov)], [.ref 41], (sh, I, L, R))) (M := mr_111) rfl (show mcode 111 18 = some (18, .aload_n 0, 1, 0, 0, 0, _) from rfl) (Or.inl ⟨.ref 41, rfl, rfl⟩) ?_
    refine XW.fam (S' := (20, [(0, .ref 41), (1, .int ov)], [.int 0, .ref 41], (sh, I, L, R))) (M := mr_111) rfl (show mcode 111 19 = some (19, .iconst 0, 1, 0, 0, 0, _) from rfl) (Or.inl ⟨.int 0, rfl, rfl⟩) ?_
    refine XW.fam (S' := (21, [(0, .ref 41), (1, .int ov)], [.ref 41, .int 0, .ref 41], (sh, I, L, R))) (M := mr_111) rfl (show mcode 111 20 = some (20, .aload_n 0, 1, 0, 0, 0, _) from rfl) (Or.inl ⟨.ref 41, rfl, rfl⟩) ?_
    refine XW.fam (S' := (24, [(0, .ref 41), (1, .int ov)], [.ref 45, .int 0, .ref 41], (sh, I, L, R))) (M := mr_111) rfl (show mcode 111 21 = some (21, .getfield 22, 3, 5, 4, 0, _) from rfl) (Or.inr (Or.inr (Or.inr (Or.inr (Or.inr (Or.inr (Or.inr (Or.inl ⟨_, _, rfl, fl_ld c41 r41_4 (by decide) (by decide), rfl⟩)))))))) ?_
    refine XW.fam (S' := (25, [(0, .ref 41), (1, .int ov)], [.ref 41, .ref 45, .int 0, .ref 41], (sh, I, L, R))) (M := mr_111) rfl (show mcode 111 24 = some (24, .aload_n 0, 1, 0, 0, 0, _) from rfl) (Or.inl ⟨.ref 41, rfl, rfl⟩) ?_
    refine XW.fam (S' := (28, [(0, .ref 41), (1, .int ov)], [.int (I 41 6), .ref 45, .int 0, .ref 41], (sh, I, L, R))) (M := mr_111) rfl (show mcode 111 25 = some (25, .getfield 35, 3, 5, 6, 0, _) from rfl) (Or.inr (Or.inr (Or.inr (Or.inr (Or.inr (Or.inr (Or.inr (Or.inl ⟨_, _, rfl, fl_ldI c41 (by decide) (by decide), rfl⟩)))))))) ?_
    rw [ea]
    have hab : 0 ≤ a.toInt ∧ a.toInt ≤ 240 := by omega
    have hin19 : inR a 241 = true := inR_of (by omega) (by omega)
    refine XW.fam (S' := (29, [(0, .ref 41), (1, .int ov)], [.int (I 45 (a).toNatClampNeg), .int 0, .ref 41], (sh, I, L, R))) (M := mr_111) rfl (show mcode 111 28 = some (28, .iaload, 1, 0, 0, 0, _) from rfl) (Or.inr (Or.inr (Or.inl ⟨_, lda_i c45 hin19, rfl⟩))) ?_
    refine XW.call (d' := d) (mc' := 0) (ms' := 0) (av := [.ref 41, .int 0, .int (I 45 (a).toNatClampNeg)]) (rest := []) (M := mr_111) (Ma := mr_107) rfl (show mcode 111 29 = some (29, .invokevirtual 108, 3, 107, 0, 0, _) from rfl) rfl (by decide) (by decide) ⟨rfl, 41, _, rfl, c41⟩ rfl rfl (show 0 ≤ 8 by decide) (tc_wrQ (d := d) (g := (true, i)) (show QW sh R J K S N (true, i) (sh, I, L, R) from ⟨hf, hw, hk, rsC_t hst⟩)) (by omega) (Nat.zero_le _) (Nat.zero_le _) (fun rQ20 wQ20 Q20 => ?_)
    obtain ⟨hrQ20, hfQ20, hwQ20, hkQ20, hsQ20⟩ := Q20
    subst hrQ20
    obtain ⟨shQ20, IQ20, LQ20, RQ20⟩ := wQ20
    obtain rfl : sh = shQ20 := hwQ20.2.2.2.1.symm
    obtain rfl : R = RQ20 := hwQ20.2.2.2.2.1.symm
    have hkQ20 : ∀ q k, inm mdT q k = false → IQ20 q k = J q k := hkQ20
    refine XW.fam (S' := (33, [(0, .ref 41), (1, .int ov)], [.ref 41], (sh, IQ20, LQ20, R))) (M := mr_111) rfl (show mcode 111 32 = some (32, .aload_n 0, 1, 0, 0, 0, _) from rfl) (Or.inl ⟨.ref 41, rfl, rfl⟩) ?_
    refine XW.call (d' := d) (mc' := 0) (ms' := 0) (av := [.ref 41]) (rest := []) (M := mr_111) (Ma := mr_102) rfl (show mcode 111 33 = some (33, .invokevirtual 50, 3, 102, 0, 0, _) from rfl) rfl (by decide) (by decide) ⟨rfl, 41, _, rfl, c41⟩ rfl rfl (show 0 ≤ 8 by decide) (tc_adv (d := d) (i := i) hT hwQ20 hfQ20 hkQ20 (hsQ20.1 rfl) (lt_N hN hle (by omega))) (by omega) (Nat.zero_le _) (Nat.zero_le _) (fun rQ21 wQ21 Q21 => ?_)
    obtain ⟨hrQ21, hfQ21, hwQ21, hkQ21, hsQ21⟩ := Q21
    subst hrQ21
    obtain ⟨shQ21, IQ21, LQ21, RQ21⟩ := wQ21
    obtain rfl : sh = shQ21 := hwQ21.2.2.2.1.symm
    obtain rfl : R = RQ21 := hwQ21.2.2.2.2.1.symm
    have hkQ21 : ∀ q k, inm mdT q k = false → IQ21 q k = J q k := hkQ21
    refine XW.fam (S' := (116, [(0, .ref 41), (1, .int ov)], [], (sh, IQ21, LQ21, R))) (M := mr_111) rfl (show mcode 111 36 = some (36, .goto 80, 3, 116, 0, 0, _) from rfl) (Or.inr (Or.inl ⟨116, [], rfl, rfl⟩)) ?_
    refine XW.ret (r := none) ⟨rfl, by decide +kernel⟩ ?_
    rw [gPx_0]
    unfold g0
    rw [if_pos (Or.inl (by omega))]
    exact ⟨rfl, hfQ21, hwQ21, hkQ21, hsQ21⟩
theorem prd_out {d : Nat} {sh : List mE} {I : Nat → Nat → Int32} {L : Nat → Nat → Int64} {R : Nat → Nat → Option Nat} {ov c : Int32} {Q : Option Value → mW → Prop} (hw : wOK (mkT vV []) (wE sh R) (sh, I, L, R)) (h8 : 0 ≤ (I 41 8).toInt) (hQ : Q none (sh, I, L, R)) : XW 110 mr_110 none d 0 0 Q (7, [(2, .int c), (0, .ref 41), (1, .int ov)], [], (sh, I, L, R)) := by
  have c41 : sh[41]? = some (.inr 5) := hw.1 41 _ rfl
  have z0 : (0 : Int32).toInt = 0 := rfl
  have z240 : (240 : Int32).toInt = 240 := rfl
  refine XW.fam (S' := (8, [(2, .int c), (0, .ref 41), (1, .int ov)], [.int c], (sh, I, L, R))) (M := mr_110) rfl (show mcode 110 7 = some (7, .iload_n 2, 1, 0, 0, 0, _) from rfl) (Or.inl ⟨.int c, rfl, rfl⟩) ?_
  refine XW.fam (S' := (11, [(2, .int c), (0, .ref 41), (1, .int ov)], [.int 240, .int c], (sh, I, L, R))) (M := mr_110) rfl (show mcode 110 8 = some (8, .sipush 240, 3, 0, 0, 0, _) from rfl) (Or.inl ⟨.int 240, rfl, rfl⟩) ?_
  cases k1 : bcmp .ge c 240 with
  | true =>
    have gk1 : 240 ≤ (c).toInt := icT (c := .ge) (a := (c).toInt) (b := 240) rfl (by decide) k1
    refine XW.fam (S' := (65, [(2, .int c), (0, .ref 41), (1, .int ov)], [], (sh, I, L, R))) (M := mr_110) rfl (show mcode 110 11 = some (11, .if_icmp .ge 54, 3, 65, 0, 0, _) from rfl) (Or.inr (Or.inl ⟨65, [], by simp [brn, k1], rfl⟩)) ?_
    refine XW.ret (r := none) ⟨rfl, by decide +kernel⟩ ?_
    exact hQ
  | false =>
    have gk1 : ¬ (240 ≤ (c).toInt) := icF (c := .ge) (a := (c).toInt) (b := 240) rfl (by decide) k1
    refine XW.fam (S' := (14, [(2, .int c), (0, .ref 41), (1, .int ov)], [], (sh, I, L, R))) (M := mr_110) rfl (show mcode 110 11 = some (11, .if_icmp .ge 54, 3, 65, 0, 0, _) from rfl) (Or.inr (Or.inl ⟨14, [], by simp [brn, k1], rfl⟩)) ?_
    refine XW.fam (S' := (15, [(2, .int c), (0, .ref 41), (1, .int ov)], [.ref 41], (sh, I, L, R))) (M := mr_110) rfl (show mcode 110 14 = some (14, .aload_n 0, 1, 0, 0, 0, _) from rfl) (Or.inl ⟨.ref 41, rfl, rfl⟩) ?_
    refine XW.fam (S' := (18, [(2, .int c), (0, .ref 41), (1, .int ov)], [.int (I 41 8)], (sh, I, L, R))) (M := mr_110) rfl (show mcode 110 15 = some (15, .getfield 44, 3, 5, 8, 0, _) from rfl) (Or.inr (Or.inr (Or.inr (Or.inr (Or.inr (Or.inr (Or.inr (Or.inl ⟨_, _, rfl, fl_ldI c41 (by decide) (by decide), rfl⟩)))))))) ?_
    have k2 : bcmp .ge (I 41 8) 0 = true := bcT (c := .ge) (a := ((I 41 8)).toInt) (b := 0) rfl (by decide) (by show 0 ≤ ((I 41 8)).toInt; omega)
    refine XW.fam (S' := (65, [(2, .int c), (0, .ref 41), (1, .int ov)], [], (sh, I, L, R))) (M := mr_110) rfl (show mcode 110 18 = some (18, .ifCond .ge 47, 3, 65, 0, 0, _) from rfl) (Or.inr (Or.inl ⟨65, [], by simp [brn, k2], rfl⟩)) ?_
    refine XW.ret (r := none) ⟨rfl, by decide +kernel⟩ ?_
    exact hQ
theorem prd_lp {d o : Nat} {sh : List mE} {J : Nat → Nat → Int32} {R : Nat → Nat → Option Nat} {K : Nat → Int} {S : Nat → Nat} {N : Nat} {ov : Int32} (hT : tvC J K S N) (hov : ov.toInt = (o : Int)) (ho : o ≤ 8) : ∀ (f : Nat) {I : Nat → Nat → Int32} {L : Nat → Nat → Int64} (c : Int32) (j : Nat), (∀ f2, f2 < f → CTx sh R J K S N d 111 1 0 f2) → wOK (mkT vV []) (wE sh R) (sh, I, L, R) → fresh (sh, I, L, R) → (∀ q k, inm mdT q k = false → I q k = J q k) → stt K N I j → (0 ≤ c.toInt ∧ c.toInt ≤ (j : Int)) → 10 * (N - j) + (1 + 1) ≤ f → XW 110 mr_110 none (d + 2 + (6 * (8 - o) + 2)) 0 0 (QT sh R J K S N (gPx K f 1 o j)) (7, [(2, .int c), (0, .ref 41), (1, .int ov)], [], (sh, I, L, R)) := by
  obtain ⟨⟨hN5, hN2⟩, hN, hTk⟩ := id hT
  have z0 : (0 : Int32).toInt = 0 := rfl
  have z2 : (2 : Int32).toInt = 2 := rfl
  have z42 : (42 : Int32).toInt = 42 := rfl
  have z47 : (47 : Int32).toInt = 47 := rfl
  have z240 : (240 : Int32).toInt = 240 := rfl
  intro f
  induction f with
  | zero =>
    intro I L c j H0 hw hf hk hst hc hmu
    exfalso
    omega
  | succ f ih =>
    intro I L c j H0 hw hf hk hst hc hmu
    have c41 : sh[41]? = some (.inr 5) := hw.1 41 _ rfl
    obtain ⟨a, ea⟩ : ∃ z : Int32, I 41 6 = z := ⟨_, rfl⟩
    have ha : a.toInt = (j : Int) := by rw [← ea]; exact hst.1
    obtain ⟨tk, etk⟩ : ∃ z : Int32, I 41 7 = z := ⟨_, rfl⟩
    have htk : tk.toInt = K j := by rw [← etk]; exact hst.2.1
    obtain ⟨fl, efl⟩ : ∃ z : Int32, I 41 8 = z := ⟨_, rfl⟩
    have hfl : fl.toInt = -1 := by rw [← efl]; exact hst.2.2.1
    have hle : j ≤ N := hst.2.2.2
    have hlt : ¬ K j = 302 → j < N := lt_N hN hle
    have hjN : j = N → K j = 302 := fun e => by rw [e]; exact hN
    refine XW.fam (S' := (8, [(2, .int c), (0, .ref 41), (1, .int ov)], [.int c], (sh, I, L, R))) (M := mr_110) rfl (show mcode 110 7 = some (7, .iload_n 2, 1, 0, 0, 0, _) from rfl) (Or.inl ⟨.int c, rfl, rfl⟩) ?_
    refine XW.fam (S' := (11, [(2, .int c), (0, .ref 41), (1, .int ov)], [.int 240, .int c], (sh, I, L, R))) (M := mr_110) rfl (show mcode 110 8 = some (8, .sipush 240, 3, 0, 0, 0, _) from rfl) (Or.inl ⟨.int 240, rfl, rfl⟩) ?_
    cases k1 : bcmp .ge c 240 with
    | true =>
      have gk1 : 240 ≤ (c).toInt := icT (c := .ge) (a := (c).toInt) (b := 240) rfl (by decide) k1
      refine XW.fam (S' := (65, [(2, .int c), (0, .ref 41), (1, .int ov)], [], (sh, I, L, R))) (M := mr_110) rfl (show mcode 110 11 = some (11, .if_icmp .ge 54, 3, 65, 0, 0, _) from rfl) (Or.inr (Or.inl ⟨65, [], by simp [brn, k1], rfl⟩)) ?_
      refine XW.ret (r := none) ⟨rfl, by decide +kernel⟩ ?_
      rw [gPx_1]
      unfold gLp
      rw [if_neg (fun q => by have q1 := of_decide_eq_true q; have q2 : K j = 42 ∨ K j = 47 := q1; omega)]
      exact ⟨rfl, hf, hw, hk, rsC_t hst⟩
    | false =>
      have gk1 : ¬ (240 ≤ (c).toInt) := icF (c := .ge) (a := (c).toInt) (b := 240) rfl (by decide) k1
      refine XW.fam (S' := (14, [(2, .int c), (0, .ref 41), (1, .int ov)], [], (sh, I, L, R))) (M := mr_110) rfl (show mcode 110 11 = some (11, .if_icmp .ge 54, 3, 65, 0, 0, _) from rfl) (Or.inr (Or.inl ⟨14, [], by simp [brn, k1], rfl⟩)) ?_
      refine XW.fam (S' := (15, [(2, .int c), (0, .ref 41), (1, .int ov)], [.ref 41], (sh, I, L, R))) (M := mr_110) rfl (show mcode 110 14 = some (14, .aload_n 0, 1, 0, 0, 0, _) from rfl) (Or.inl ⟨.ref 41, rfl, rfl⟩) ?_
      refine XW.fam (S' := (18, [(2, .int c), (0, .ref 41), (1, .int ov)], [.int (I 41 8)], (sh, I, L, R))) (M := mr_110) rfl (show mcode 110 15 = some (15, .getfield 44, 3, 5, 8, 0, _) from rfl) (Or.inr (Or.inr (Or.inr (Or.inr (Or.inr (Or.inr (Or.inr (Or.inl ⟨_, _, rfl, fl_ldI c41 (by decide) (by decide), rfl⟩)))))))) ?_
      rw [efl]
      have k2 : bcmp .ge fl 0 = false := bcF (c := .ge) (a := (fl).toInt) (b := 0) rfl (by decide) (by show ¬ (0 ≤ (fl).toInt); omega)
      refine XW.fam (S' := (21, [(2, .int c), (0, .ref 41), (1, .int ov)], [], (sh, I, L, R))) (M := mr_110) rfl (show mcode 110 18 = some (18, .ifCond .ge 47, 3, 65, 0, 0, _) from rfl) (Or.inr (Or.inl ⟨21, [], by simp [brn, k2], rfl⟩)) ?_
      refine XW.fam (S' := (22, [(2, .int c), (0, .ref 41), (1, .int ov)], [.ref 41], (sh, I, L, R))) (M := mr_110) rfl (show mcode 110 21 = some (21, .aload_n 0, 1, 0, 0, 0, _) from rfl) (Or.inl ⟨.ref 41, rfl, rfl⟩) ?_
      refine XW.fam (S' := (25, [(2, .int c), (0, .ref 41), (1, .int ov)], [.int (I 41 7)], (sh, I, L, R))) (M := mr_110) rfl (show mcode 110 22 = some (22, .getfield 38, 3, 5, 7, 0, _) from rfl) (Or.inr (Or.inr (Or.inr (Or.inr (Or.inr (Or.inr (Or.inr (Or.inl ⟨_, _, rfl, fl_ldI c41 (by decide) (by decide), rfl⟩)))))))) ?_
      rw [etk]
      refine XW.fam (S' := (27, [(2, .int c), (0, .ref 41), (1, .int ov)], [.int 42, .int tk], (sh, I, L, R))) (M := mr_110) rfl (show mcode 110 25 = some (25, .bipush 42, 2, 0, 0, 0, _) from rfl) (Or.inl ⟨.int 42, rfl, rfl⟩) ?_
      cases k3 : bcmp .eq tk 42 with
      | true =>
        have gk3 : (tk).toInt = 42 := icT (c := .eq) (a := (tk).toInt) (b := 42) rfl (by decide) k3
        refine XW.fam (S' := (39, [(2, .int c), (0, .ref 41), (1, .int ov)], [], (sh, I, L, R))) (M := mr_110) rfl (show mcode 110 27 = some (27, .if_icmp .eq 12, 3, 39, 0, 0, _) from rfl) (Or.inr (Or.inl ⟨39, [], by simp [brn, k3], rfl⟩)) ?_
        refine XW.fam (S' := (40, [(2, .int c), (0, .ref 41), (1, .int ov)], [.ref 41], (sh, I, L, R))) (M := mr_110) rfl (show mcode 110 39 = some (39, .aload_n 0, 1, 0, 0, 0, _) from rfl) (Or.inl ⟨.ref 41, rfl, rfl⟩) ?_
        refine XW.fam (S' := (43, [(2, .int c), (0, .ref 41), (1, .int ov)], [.int (I 41 7)], (sh, I, L, R))) (M := mr_110) rfl (show mcode 110 40 = some (40, .getfield 38, 3, 5, 7, 0, _) from rfl) (Or.inr (Or.inr (Or.inr (Or.inr (Or.inr (Or.inr (Or.inr (Or.inl ⟨_, _, rfl, fl_ldI c41 (by decide) (by decide), rfl⟩)))))))) ?_
        rw [etk]
        refine XW.fam (S' := (44, [(3, .int tk), (2, .int c), (0, .ref 41), (1, .int ov)], [], (sh, I, L, R))) (M := mr_110) rfl (show mcode 110 43 = some (43, .istore_n 3, 1, 0, 0, 0, _) from rfl) (Or.inr (Or.inr (Or.inr (Or.inr (Or.inr (Or.inr (Or.inl ⟨_, [], _, rfl, rfl, rfl⟩))))))) ?_
        refine XW.fam (S' := (45, [(3, .int tk), (2, .int c), (0, .ref 41), (1, .int ov)], [.ref 41], (sh, I, L, R))) (M := mr_110) rfl (show mcode 110 44 = some (44, .aload_n 0, 1, 0, 0, 0, _) from rfl) (Or.inl ⟨.ref 41, rfl, rfl⟩) ?_
        refine XW.call (d' := d) (mc' := 0) (ms' := 0) (av := [.ref 41]) (rest := []) (M := mr_110) (Ma := mr_102) rfl (show mcode 110 45 = some (45, .invokevirtual 50, 3, 102, 0, 0, _) from rfl) rfl (by decide) (by decide) ⟨rfl, 41, _, rfl, c41⟩ rfl rfl (show 0 ≤ 8 by decide) (tc_adv (d := d) hT hw hf hk hst (lt_N hN hle (by omega))) (by omega) (Nat.zero_le _) (Nat.zero_le _) (fun rQ4 wQ4 Q4 => ?_)
        obtain ⟨hrQ4, hfQ4, hwQ4, hkQ4, hsQ4⟩ := Q4
        subst hrQ4
        obtain ⟨shQ4, IQ4, LQ4, RQ4⟩ := wQ4
        obtain rfl : sh = shQ4 := hwQ4.2.2.2.1.symm
        obtain rfl : R = RQ4 := hwQ4.2.2.2.2.1.symm
        have hkQ4 : ∀ q k, inm mdT q k = false → IQ4 q k = J q k := hkQ4
        refine XW.fam (S' := (49, [(3, .int tk), (2, .int c), (0, .ref 41), (1, .int ov)], [.ref 41], (sh, IQ4, LQ4, R))) (M := mr_110) rfl (show mcode 110 48 = some (48, .aload_n 0, 1, 0, 0, 0, _) from rfl) (Or.inl ⟨.ref 41, rfl, rfl⟩) ?_
        refine XW.fam (S' := (50, [(3, .int tk), (2, .int c), (0, .ref 41), (1, .int ov)], [.int ov, .ref 41], (sh, IQ4, LQ4, R))) (M := mr_110) rfl (show mcode 110 49 = some (49, .iload_n 1, 1, 0, 0, 0, _) from rfl) (Or.inl ⟨.int ov, rfl, rfl⟩) ?_
        refine XW.call (d' := (d + 2 + (6 * (8 - o) + 1))) (mc' := 0) (ms' := 0) (av := [.ref 41, .int ov]) (rest := []) (M := mr_110) (Ma := mr_111) rfl (show mcode 110 50 = some (50, .invokevirtual 127, 3, 111, 0, 0, _) from rfl) rfl (by decide) (by decide) ⟨rfl, 41, _, rfl, c41⟩ rfl rfl (show 0 ≤ 8 by decide) (H0 f (by omega) o (j + 1) ov hov ho hwQ4 hfQ4 hkQ4 (hsQ4.1 rfl) (by have := lt_N hN hle (by omega); omega)) (by omega) (Nat.zero_le _) (Nat.zero_le _) (fun rQ5 wQ5 Q5 => ?_)
        obtain ⟨hrQ5, hfQ5, hwQ5, hkQ5, hsQ5⟩ := Q5
        subst hrQ5
        obtain ⟨shQ5, IQ5, LQ5, RQ5⟩ := wQ5
        obtain rfl : sh = shQ5 := hwQ5.2.2.2.1.symm
        obtain rfl : R = RQ5 := hwQ5.2.2.2.2.1.symm
        have hkQ5 : ∀ q k, inm mdT q k = false → IQ5 q k = J q k := hkQ5
        refine XW.fam (S' := (54, [(3, .int tk), (2, .int c), (0, .ref 41), (1, .int ov)], [.ref 41], (sh, IQ5, LQ5, R))) (M := mr_110) rfl (show mcode 110 53 = some (53, .aload_n 0, 1, 0, 0, 0, _) from rfl) (Or.inl ⟨.ref 41, rfl, rfl⟩) ?_
        refine XW.fam (S' := (55, [(3, .int tk), (2, .int c), (0, .ref 41), (1, .int ov)], [.int 2, .ref 41], (sh, IQ5, LQ5, R))) (M := mr_110) rfl (show mcode 110 54 = some (54, .iconst 2, 1, 0, 0, 0, _) from rfl) (Or.inl ⟨.int 2, rfl, rfl⟩) ?_
        refine XW.fam (S' := (56, [(3, .int tk), (2, .int c), (0, .ref 41), (1, .int ov)], [.int tk, .int 2, .ref 41], (sh, IQ5, LQ5, R))) (M := mr_110) rfl (show mcode 110 55 = some (55, .iload_n 3, 1, 0, 0, 0, _) from rfl) (Or.inl ⟨.int tk, rfl, rfl⟩) ?_
        refine XW.call (d' := d) (mc' := 0) (ms' := 0) (av := [.ref 41, .int 2, .int tk]) (rest := []) (M := mr_110) (Ma := mr_107) rfl (show mcode 110 56 = some (56, .invokevirtual 108, 3, 107, 0, 0, _) from rfl) rfl (by decide) (by decide) ⟨rfl, 41, _, rfl, c41⟩ rfl rfl (show 0 ≤ 8 by decide) (tc_wrQ (d := d) (show QW sh R J K S N (gPx K f 0 o (j + 1)) (sh, IQ5, LQ5, R) from ⟨hfQ5, hwQ5, hkQ5, hsQ5⟩)) (by omega) (Nat.zero_le _) (Nat.zero_le _) (fun rQ6 wQ6 Q6 => ?_)
        obtain ⟨hrQ6, hfQ6, hwQ6, hkQ6, hsQ6⟩ := Q6
        subst hrQ6
        obtain ⟨shQ6, IQ6, LQ6, RQ6⟩ := wQ6
        obtain rfl : sh = shQ6 := hwQ6.2.2.2.1.symm
        obtain rfl : R = RQ6 := hwQ6.2.2.2.2.1.symm
        have hkQ6 : ∀ q k, inm mdT q k = false → IQ6 q k = J q k := hkQ6
        refine XW.fam (S' := (62, [(2, .int (c + Int32.ofInt 1)), (3, .int tk), (0, .ref 41), (1, .int ov)], [], (sh, IQ6, LQ6, R))) (M := mr_110) rfl (show mcode 110 59 = some (59, .iinc 2 1, 3, 0, 0, 0, _) from rfl) (Or.inr (Or.inr (Or.inr (Or.inr (Or.inr (Or.inr (Or.inr (Or.inr (Or.inr ⟨2, 1, c, rfl, rfl, by decide, rfl⟩))))))))) ?_
        refine XW.fam (S' := (7, [(2, .int (c + Int32.ofInt 1)), (3, .int tk), (0, .ref 41), (1, .int ov)], [], (sh, IQ6, LQ6, R))) (M := mr_110) rfl (show mcode 110 62 = some (62, .goto (-55), 3, 7, 0, 0, _) from rfl) (Or.inr (Or.inl ⟨7, [], rfl, rfl⟩)) ?_
        have hgo := (gPx_ok hN f o (j + 1) (by have := lt_N hN hle (by omega); omega)).1 0 (by omega)
        have eo := incO (m := c) (by omega) (by omega)
        refine XW.sub (ls' := [(2, .int (c + Int32.ofInt 1)), (0, .ref 41), (1, .int ov)]) (List.forall_mem_cons.mpr ⟨List.mem_of_getElem? (i := 0) rfl, (List.forall_mem_cons.mpr ⟨List.mem_of_getElem? (i := 2) rfl, (List.forall_mem_cons.mpr ⟨List.mem_of_getElem? (i := 3) rfl, (fun _ h => absurd h List.not_mem_nil)⟩)⟩)⟩) ?_
        have eg : (gPx K (f + 1) 1 o j) = gB (gPx K f 0 o (j + 1)) (gPx K f 1 o) := by
          rw [gPx_1]
          unfold gLp
          exact if_pos (decide_eq_true (show K j = 42 ∨ K j = 47 by omega))
        rw [eg]
        cases e : (gPx K f 0 o (j + 1)).1 with
        | true =>
          rw [gB_t e]
          have g1 := hgo.1
          have g2 := hgo.2.2 e rfl
          exact ih (c + Int32.ofInt 1) _ (fun f2 h2 => H0 f2 (by omega)) hwQ6 hfQ6 hkQ6 (hsQ6.1 e) (by omega) (by have := hgo.2.1; omega)
        | false =>
          rw [gB_f e]
          exact prd_out hwQ6 (by have h8 := hsQ6.2 e; have h9 : (IQ6 41 8).toInt = _ := h8; omega) ⟨rfl, hfQ6, hwQ6, hkQ6, hsQ6⟩
      | false =>
        have gk3 : ¬ ((tk).toInt = 42) := icF (c := .eq) (a := (tk).toInt) (b := 42) rfl (by decide) k3
        refine XW.fam (S' := (30, [(2, .int c), (0, .ref 41), (1, .int ov)], [], (sh, I, L, R))) (M := mr_110) rfl (show mcode 110 27 = some (27, .if_icmp .eq 12, 3, 39, 0, 0, _) from rfl) (Or.inr (Or.inl ⟨30, [], by simp [brn, k3], rfl⟩)) ?_
        refine XW.fam (S' := (31, [(2, .int c), (0, .ref 41), (1, .int ov)], [.ref 41], (sh, I, L, R))) (M := mr_110) rfl (show mcode 110 30 = some (30, .aload_n 0, 1, 0, 0, 0, _) from rfl) (Or.inl ⟨.ref 41, rfl, rfl⟩) ?_
        refine XW.fam (S' := (34, [(2, .int c), (0, .ref 41), (1, .int ov)], [.int (I 41 7)], (sh, I, L, R))) (M := mr_110) rfl (show mcode 110 31 = some (31, .getfield 38, 3, 5, 7, 0, _) from rfl) (Or.inr (Or.inr (Or.inr (Or.inr (Or.inr (Or.inr (Or.inr (Or.inl ⟨_, _, rfl, fl_ldI c41 (by decide) (by decide), rfl⟩)))))))) ?_
        rw [etk]
        refine XW.fam (S' := (36, [(2, .int c), (0, .ref 41), (1, .int ov)], [.int 47, .int tk], (sh, I, L, R))) (M := mr_110) rfl (show mcode 110 34 = some (34, .bipush 47, 2, 0, 0, 0, _) from rfl) (Or.inl ⟨.int 47, rfl, rfl⟩) ?_
        cases k7 : bcmp .ne tk 47 with
        | true =>
          have gk7 : ¬ (tk).toInt = 47 := icT (c := .ne) (a := (tk).toInt) (b := 47) rfl (by decide) k7
          refine XW.fam (S' := (65, [(2, .int c), (0, .ref 41), (1, .int ov)], [], (sh, I, L, R))) (M := mr_110) rfl (show mcode 110 36 = some (36, .if_icmp .ne 29, 3, 65, 0, 0, _) from rfl) (Or.inr (Or.inl ⟨65, [], by simp [brn, k7], rfl⟩)) ?_
          refine XW.ret (r := none) ⟨rfl, by decide +kernel⟩ ?_
          rw [gPx_1]
          unfold gLp
          rw [if_neg (fun q => by have q1 := of_decide_eq_true q; have q2 : K j = 42 ∨ K j = 47 := q1; omega)]
          exact ⟨rfl, hf, hw, hk, rsC_t hst⟩
        | false =>
          have gk7 : ¬ (¬ (tk).toInt = 47) := icF (c := .ne) (a := (tk).toInt) (b := 47) rfl (by decide) k7
          refine XW.fam (S' := (39, [(2, .int c), (0, .ref 41), (1, .int ov)], [], (sh, I, L, R))) (M := mr_110) rfl (show mcode 110 36 = some (36, .if_icmp .ne 29, 3, 65, 0, 0, _) from rfl) (Or.inr (Or.inl ⟨39, [], by simp [brn, k7], rfl⟩)) ?_
          refine XW.fam (S' := (40, [(2, .int c), (0, .ref 41), (1, .int ov)], [.ref 41], (sh, I, L, R))) (M := mr_110) rfl (show mcode 110 39 = some (39, .aload_n 0, 1, 0, 0, 0, _) from rfl) (Or.inl ⟨.ref 41, rfl, rfl⟩) ?_
          refine XW.fam (S' := (43, [(2, .int c), (0, .ref 41), (1, .int ov)], [.int (I 41 7)], (sh, I, L, R))) (M := mr_110) rfl (show mcode 110 40 = some (40, .getfield 38, 3, 5, 7, 0, _) from rfl) (Or.inr (Or.inr (Or.inr (Or.inr (Or.inr (Or.inr (Or.inr (Or.inl ⟨_, _, rfl, fl_ldI c41 (by decide) (by decide), rfl⟩)))))))) ?_
          rw [etk]
          refine XW.fam (S' := (44, [(3, .int tk), (2, .int c), (0, .ref 41), (1, .int ov)], [], (sh, I, L, R))) (M := mr_110) rfl (show mcode 110 43 = some (43, .istore_n 3, 1, 0, 0, 0, _) from rfl) (Or.inr (Or.inr (Or.inr (Or.inr (Or.inr (Or.inr (Or.inl ⟨_, [], _, rfl, rfl, rfl⟩))))))) ?_
          refine XW.fam (S' := (45, [(3, .int tk), (2, .int c), (0, .ref 41), (1, .int ov)], [.ref 41], (sh, I, L, R))) (M := mr_110) rfl (show mcode 110 44 = some (44, .aload_n 0, 1, 0, 0, 0, _) from rfl) (Or.inl ⟨.ref 41, rfl, rfl⟩) ?_
          refine XW.call (d' := d) (mc' := 0) (ms' := 0) (av := [.ref 41]) (rest := []) (M := mr_110) (Ma := mr_102) rfl (show mcode 110 45 = some (45, .invokevirtual 50, 3, 102, 0, 0, _) from rfl) rfl (by decide) (by decide) ⟨rfl, 41, _, rfl, c41⟩ rfl rfl (show 0 ≤ 8 by decide) (tc_adv (d := d) hT hw hf hk hst (lt_N hN hle (by omega))) (by omega) (Nat.zero_le _) (Nat.zero_le _) (fun rQ8 wQ8 Q8 => ?_)
          obtain ⟨hrQ8, hfQ8, hwQ8, hkQ8, hsQ8⟩ := Q8
          subst hrQ8
          obtain ⟨shQ8, IQ8, LQ8, RQ8⟩ := wQ8
          obtain rfl : sh = shQ8 := hwQ8.2.2.2.1.symm
          obtain rfl : R = RQ8 := hwQ8.2.2.2.2.1.symm
          have hkQ8 : ∀ q k, inm mdT q k = false → IQ8 q k = J q k := hkQ8
          refine XW.fam (S' := (49, [(3, .int tk), (2, .int c), (0, .ref 41), (1, .int ov)], [.ref 41], (sh, IQ8, LQ8, R))) (M := mr_110) rfl (show mcode 110 48 = some (48, .aload_n 0, 1, 0, 0, 0, _) from rfl) (Or.inl ⟨.ref 41, rfl, rfl⟩) ?_
          refine XW.fam (S' := (50, [(3, .int tk), (2, .int c), (0, .ref 41), (1, .int ov)], [.int ov, .ref 41], (sh, IQ8, LQ8, R))) (M := mr_110) rfl (show mcode 110 49 = some (49, .iload_n 1, 1, 0, 0, 0, _) from rfl) (Or.inl ⟨.int ov, rfl, rfl⟩) ?_
          refine XW.call (d' := (d + 2 + (6 * (8 - o) + 1))) (mc' := 0) (ms' := 0) (av := [.ref 41, .int ov]) (rest := []) (M := mr_110) (Ma := mr_111) rfl (show mcode 110 50 = some (50, .invokevirtual 127, 3, 111, 0, 0, _) from rfl) rfl (by decide) (by decide) ⟨rfl, 41, _, rfl, c41⟩ rfl rfl (show 0 ≤ 8 by decide) (H0 f (by omega) o (j + 1) ov hov ho hwQ8 hfQ8 hkQ8 (hsQ8.1 rfl) (by have := lt_N hN hle (by omega); omega)) (by omega) (Nat.zero_le _) (Nat.zero_le _) (fun rQ9 wQ9 Q9 => ?_)
          obtain ⟨hrQ9, hfQ9, hwQ9, hkQ9, hsQ9⟩ := Q9
          subst hrQ9
          obtain ⟨shQ9, IQ9, LQ9, RQ9⟩ := wQ9
          obtain rfl : sh = shQ9 := hwQ9.2.2.2.1.symm
          obtain rfl : R = RQ9 := hwQ9.2.2.2.2.1.symm
          have hkQ9 : ∀ q k, inm mdT q k = false → IQ9 q k = J q k := hkQ9
          refine XW.fam (S' := (54, [(3, .int tk), (2, .int c), (0, .ref 41), (1, .int ov)], [.ref 41], (sh, IQ9, LQ9, R))) (M := mr_110) rfl (show mcode 110 53 = some (53, .aload_n 0, 1, 0, 0, 0, _) from rfl) (Or.inl ⟨.ref 41, rfl, rfl⟩) ?_
          refine XW.fam (S' := (55, [(3, .int tk), (2, .int c), (0, .ref 41), (1, .int ov)], [.int 2, .ref 41], (sh, IQ9, LQ9, R))) (M := mr_110) rfl (show mcode 110 54 = some (54, .iconst 2, 1, 0, 0, 0, _) from rfl) (Or.inl ⟨.int 2, rfl, rfl⟩) ?_
          refine XW.fam (S' := (56, [(3, .int tk), (2, .int c), (0, .ref 41), (1, .int ov)], [.int tk, .int 2, .ref 41], (sh, IQ9, LQ9, R))) (M := mr_110) rfl (show mcode 110 55 = some (55, .iload_n 3, 1, 0, 0, 0, _) from rfl) (Or.inl ⟨.int tk, rfl, rfl⟩) ?_
          refine XW.call (d' := d) (mc' := 0) (ms' := 0) (av := [.ref 41, .int 2, .int tk]) (rest := []) (M := mr_110) (Ma := mr_107) rfl (show mcode 110 56 = some (56, .invokevirtual 108, 3, 107, 0, 0, _) from rfl) rfl (by decide) (by decide) ⟨rfl, 41, _, rfl, c41⟩ rfl rfl (show 0 ≤ 8 by decide) (tc_wrQ (d := d) (show QW sh R J K S N (gPx K f 0 o (j + 1)) (sh, IQ9, LQ9, R) from ⟨hfQ9, hwQ9, hkQ9, hsQ9⟩)) (by omega) (Nat.zero_le _) (Nat.zero_le _) (fun rQ10 wQ10 Q10 => ?_)
          obtain ⟨hrQ10, hfQ10, hwQ10, hkQ10, hsQ10⟩ := Q10
          subst hrQ10
          obtain ⟨shQ10, IQ10, LQ10, RQ10⟩ := wQ10
          obtain rfl : sh = shQ10 := hwQ10.2.2.2.1.symm
          obtain rfl : R = RQ10 := hwQ10.2.2.2.2.1.symm
          have hkQ10 : ∀ q k, inm mdT q k = false → IQ10 q k = J q k := hkQ10
          refine XW.fam (S' := (62, [(2, .int (c + Int32.ofInt 1)), (3, .int tk), (0, .ref 41), (1, .int ov)], [], (sh, IQ10, LQ10, R))) (M := mr_110) rfl (show mcode 110 59 = some (59, .iinc 2 1, 3, 0, 0, 0, _) from rfl) (Or.inr (Or.inr (Or.inr (Or.inr (Or.inr (Or.inr (Or.inr (Or.inr (Or.inr ⟨2, 1, c, rfl, rfl, by decide, rfl⟩))))))))) ?_
          refine XW.fam (S' := (7, [(2, .int (c + Int32.ofInt 1)), (3, .int tk), (0, .ref 41), (1, .int ov)], [], (sh, IQ10, LQ10, R))) (M := mr_110) rfl (show mcode 110 62 = some (62, .goto (-55), 3, 7, 0, 0, _) from rfl) (Or.inr (Or.inl ⟨7, [], rfl, rfl⟩)) ?_
          have hgo := (gPx_ok hN f o (j + 1) (by have := lt_N hN hle (by omega); omega)).1 0 (by omega)
          have eo := incO (m := c) (by omega) (by omega)
          refine XW.sub (ls' := [(2, .int (c + Int32.ofInt 1)), (0, .ref 41), (1, .int ov)]) (List.forall_mem_cons.mpr ⟨List.mem_of_getElem? (i := 0) rfl, (List.forall_mem_cons.mpr ⟨List.mem_of_getElem? (i := 2) rfl, (List.forall_mem_cons.mpr ⟨List.mem_of_getElem? (i := 3) rfl, (fun _ h => absurd h List.not_mem_nil)⟩)⟩)⟩) ?_
          have eg : (gPx K (f + 1) 1 o j) = gB (gPx K f 0 o (j + 1)) (gPx K f 1 o) := by
            rw [gPx_1]
            unfold gLp
            exact if_pos (decide_eq_true (show K j = 42 ∨ K j = 47 by omega))
          rw [eg]
          cases e : (gPx K f 0 o (j + 1)).1 with
          | true =>
            rw [gB_t e]
            have g1 := hgo.1
            have g2 := hgo.2.2 e rfl
            exact ih (c + Int32.ofInt 1) _ (fun f2 h2 => H0 f2 (by omega)) hwQ10 hfQ10 hkQ10 (hsQ10.1 e) (by omega) (by have := hgo.2.1; omega)
          | false =>
            rw [gB_f e]
            exact prd_out hwQ10 (by have h8 := hsQ10.2 e; have h9 : (IQ10 41 8).toInt = _ := h8; omega) ⟨rfl, hfQ10, hwQ10, hkQ10, hsQ10⟩
theorem prd_of {d f : Nat} {sh : List mE} {J : Nat → Nat → Int32} {R : Nat → Nat → Option Nat} {K : Nat → Int} {S : Nat → Nat} {N : Nat} (hT : tvC J K S N) (H0 : ∀ f2, f2 < f + 1 → CTx sh R J K S N d 111 1 0 f2) : CTx sh R J K S N d 110 2 2 (f + 1) := by
  intro o i ov I L hov ho hw hf hk hst hmu
  obtain ⟨⟨hN5, hN2⟩, hN, hTk⟩ := id hT
  have c41 : sh[41]? = some (.inr 5) := hw.1 41 _ rfl
  have z0 : (0 : Int32).toInt = 0 := rfl
  refine Tc.of mr_110 rfl (show 2 ≤ mr_110.2.2.2.1 by decide) ?_
  refine XW.fam (S' := (1, [(0, .ref 41), (1, .int ov)], [.ref 41], (sh, I, L, R))) (M := mr_110) rfl (show mcode 110 0 = some (0, .aload_n 0, 1, 0, 0, 0, _) from rfl) (Or.inl ⟨.ref 41, rfl, rfl⟩) ?_
  refine XW.fam (S' := (2, [(0, .ref 41), (1, .int ov)], [.int ov, .ref 41], (sh, I, L, R))) (M := mr_110) rfl (show mcode 110 1 = some (1, .iload_n 1, 1, 0, 0, 0, _) from rfl) (Or.inl ⟨.int ov, rfl, rfl⟩) ?_
  refine XW.call (d' := (d + 2 + (6 * (8 - o) + 1))) (mc' := 0) (ms' := 0) (av := [.ref 41, .int ov]) (rest := []) (M := mr_110) (Ma := mr_111) rfl (show mcode 110 2 = some (2, .invokevirtual 127, 3, 111, 0, 0, _) from rfl) rfl (by decide) (by decide) ⟨rfl, 41, _, rfl, c41⟩ rfl rfl (show 0 ≤ 8 by decide) (H0 f (by omega) o i ov hov ho hw hf hk hst (by omega)) (by omega) (Nat.zero_le _) (Nat.zero_le _) (fun rQ1 wQ1 Q1 => ?_)
  obtain ⟨hrQ1, hfQ1, hwQ1, hkQ1, hsQ1⟩ := Q1
  subst hrQ1
  obtain ⟨shQ1, IQ1, LQ1, RQ1⟩ := wQ1
  obtain rfl : sh = shQ1 := hwQ1.2.2.2.1.symm
  obtain rfl : R = RQ1 := hwQ1.2.2.2.2.1.symm
  have hkQ1 : ∀ q k, inm mdT q k = false → IQ1 q k = J q k := hkQ1
  refine XW.fam (S' := (6, [(0, .ref 41), (1, .int ov)], [.int 0], (sh, IQ1, LQ1, R))) (M := mr_110) rfl (show mcode 110 5 = some (5, .iconst 0, 1, 0, 0, 0, _) from rfl) (Or.inl ⟨.int 0, rfl, rfl⟩) ?_
  refine XW.fam (S' := (7, [(2, .int 0), (0, .ref 41), (1, .int ov)], [], (sh, IQ1, LQ1, R))) (M := mr_110) rfl (show mcode 110 6 = some (6, .istore_n 2, 1, 0, 0, 0, _) from rfl) (Or.inr (Or.inr (Or.inr (Or.inr (Or.inr (Or.inr (Or.inl ⟨_, [], _, rfl, rfl, rfl⟩))))))) ?_
  refine XW.sub (ls' := [(2, .int 0), (0, .ref 41), (1, .int ov)]) (List.forall_mem_cons.mpr ⟨List.mem_of_getElem? (i := 0) rfl, (List.forall_mem_cons.mpr ⟨List.mem_of_getElem? (i := 1) rfl, (List.forall_mem_cons.mpr ⟨List.mem_of_getElem? (i := 2) rfl, (fun _ h => absurd h List.not_mem_nil)⟩)⟩)⟩) ?_
  have hgo := (gPx_ok hN f o i hst.2.2.2).1 0 (by omega)
  rw [gPx_2]
  cases e : (gPx K f 0 o i).1 with
  | true =>
    rw [gB_t e]
    have g2 := hgo.2.2 e rfl
    exact prd_lp hT hov ho f 0 _ (fun f2 h2 => H0 f2 (by omega)) hwQ1 hfQ1 hkQ1 (hsQ1.1 e) ⟨by decide, by have z0 : (0 : Int32).toInt = 0 := rfl; omega⟩ (by have := hgo.2.1; omega)
  | false =>
    rw [gB_f e]
    exact prd_out hwQ1 (by have h8 := hsQ1.2 e; have h9 : (IQ1 41 8).toInt = _ := h8; omega) ⟨rfl, hfQ1, hwQ1, hkQ1, hsQ1⟩
theorem sum_out {d : Nat} {sh : List mE} {I : Nat → Nat → Int32} {L : Nat → Nat → Int64} {R : Nat → Nat → Option Nat} {ov c : Int32} {Q : Option Value → mW → Prop} (hw : wOK (mkT vV []) (wE sh R) (sh, I, L, R)) (h8 : 0 ≤ (I 41 8).toInt) (hQ : Q none (sh, I, L, R)) : XW 109 mr_109 none d 0 0 Q (7, [(2, .int c), (0, .ref 41), (1, .int ov)], [], (sh, I, L, R)) := by
  have c41 : sh[41]? = some (.inr 5) := hw.1 41 _ rfl
  have z0 : (0 : Int32).toInt = 0 := rfl
  have z240 : (240 : Int32).toInt = 240 := rfl
  refine XW.fam (S' := (8, [(2, .int c), (0, .ref 41), (1, .int ov)], [.int c], (sh, I, L, R))) (M := mr_109) rfl (show mcode 109 7 = some (7, .iload_n 2, 1, 0, 0, 0, _) from rfl) (Or.inl ⟨.int c, rfl, rfl⟩) ?_
  refine XW.fam (S' := (11, [(2, .int c), (0, .ref 41), (1, .int ov)], [.int 240, .int c], (sh, I, L, R))) (M := mr_109) rfl (show mcode 109 8 = some (8, .sipush 240, 3, 0, 0, 0, _) from rfl) (Or.inl ⟨.int 240, rfl, rfl⟩) ?_
  cases k1 : bcmp .ge c 240 with
  | true =>
    have gk1 : 240 ≤ (c).toInt := icT (c := .ge) (a := (c).toInt) (b := 240) rfl (by decide) k1
    refine XW.fam (S' := (65, [(2, .int c), (0, .ref 41), (1, .int ov)], [], (sh, I, L, R))) (M := mr_109) rfl (show mcode 109 11 = some (11, .if_icmp .ge 54, 3, 65, 0, 0, _) from rfl) (Or.inr (Or.inl ⟨65, [], by simp [brn, k1], rfl⟩)) ?_
    refine XW.ret (r := none) ⟨rfl, by decide +kernel⟩ ?_
    exact hQ
  | false =>
    have gk1 : ¬ (240 ≤ (c).toInt) := icF (c := .ge) (a := (c).toInt) (b := 240) rfl (by decide) k1
    refine XW.fam (S' := (14, [(2, .int c), (0, .ref 41), (1, .int ov)], [], (sh, I, L, R))) (M := mr_109) rfl (show mcode 109 11 = some (11, .if_icmp .ge 54, 3, 65, 0, 0, _) from rfl) (Or.inr (Or.inl ⟨14, [], by simp [brn, k1], rfl⟩)) ?_
    refine XW.fam (S' := (15, [(2, .int c), (0, .ref 41), (1, .int ov)], [.ref 41], (sh, I, L, R))) (M := mr_109) rfl (show mcode 109 14 = some (14, .aload_n 0, 1, 0, 0, 0, _) from rfl) (Or.inl ⟨.ref 41, rfl, rfl⟩) ?_
    refine XW.fam (S' := (18, [(2, .int c), (0, .ref 41), (1, .int ov)], [.int (I 41 8)], (sh, I, L, R))) (M := mr_109) rfl (show mcode 109 15 = some (15, .getfield 44, 3, 5, 8, 0, _) from rfl) (Or.inr (Or.inr (Or.inr (Or.inr (Or.inr (Or.inr (Or.inr (Or.inl ⟨_, _, rfl, fl_ldI c41 (by decide) (by decide), rfl⟩)))))))) ?_
    have k2 : bcmp .ge (I 41 8) 0 = true := bcT (c := .ge) (a := ((I 41 8)).toInt) (b := 0) rfl (by decide) (by show 0 ≤ ((I 41 8)).toInt; omega)
    refine XW.fam (S' := (65, [(2, .int c), (0, .ref 41), (1, .int ov)], [], (sh, I, L, R))) (M := mr_109) rfl (show mcode 109 18 = some (18, .ifCond .ge 47, 3, 65, 0, 0, _) from rfl) (Or.inr (Or.inl ⟨65, [], by simp [brn, k2], rfl⟩)) ?_
    refine XW.ret (r := none) ⟨rfl, by decide +kernel⟩ ?_
    exact hQ
theorem sum_lp {d o : Nat} {sh : List mE} {J : Nat → Nat → Int32} {R : Nat → Nat → Option Nat} {K : Nat → Int} {S : Nat → Nat} {N : Nat} {ov : Int32} (hT : tvC J K S N) (hov : ov.toInt = (o : Int)) (ho : o ≤ 8) : ∀ (f : Nat) {I : Nat → Nat → Int32} {L : Nat → Nat → Int64} (c : Int32) (j : Nat), (∀ f2, f2 < f → CTx sh R J K S N d 110 2 2 f2) → wOK (mkT vV []) (wE sh R) (sh, I, L, R) → fresh (sh, I, L, R) → (∀ q k, inm mdT q k = false → I q k = J q k) → stt K N I j → (0 ≤ c.toInt ∧ c.toInt ≤ (j : Int)) → 10 * (N - j) + (3 + 1) ≤ f → XW 109 mr_109 none (d + 2 + (6 * (8 - o) + 3)) 0 0 (QT sh R J K S N (gPx K f 3 o j)) (7, [(2, .int c), (0, .ref 41), (1, .int ov)], [], (sh, I, L, R)) := by
  obtain ⟨⟨hN5, hN2⟩, hN, hTk⟩ := id hT
  have z0 : (0 : Int32).toInt = 0 := rfl
  have z2 : (2 : Int32).toInt = 2 := rfl
  have z43 : (43 : Int32).toInt = 43 := rfl
  have z45 : (45 : Int32).toInt = 45 := rfl
  have z240 : (240 : Int32).toInt = 240 := rfl
  intro f
  induction f with
  | zero =>
    intro I L c j H0 hw hf hk hst hc hmu
    exfalso
    omega
  | succ f ih =>
    intro I L c j H0 hw hf hk hst hc hmu
    have c41 : sh[41]? = some (.inr 5) := hw.1 41 _ rfl
    obtain ⟨a, ea⟩ : ∃ z : Int32, I 41 6 = z := ⟨_, rfl⟩
    have ha : a.toInt = (j : Int) := by rw [← ea]; exact hst.1
    obtain ⟨tk, etk⟩ : ∃ z : Int32, I 41 7 = z := ⟨_, rfl⟩
    have htk : tk.toInt = K j := by rw [← etk]; exact hst.2.1
    obtain ⟨fl, efl⟩ : ∃ z : Int32, I 41 8 = z := ⟨_, rfl⟩
    have hfl : fl.toInt = -1 := by rw [← efl]; exact hst.2.2.1
    have hle : j ≤ N := hst.2.2.2
    have hlt : ¬ K j = 302 → j < N := lt_N hN hle
    have hjN : j = N → K j = 302 := fun e => by rw [e]; exact hN
    refine XW.fam (S' := (8, [(2, .int c), (0, .ref 41), (1, .int ov)], [.int c], (sh, I, L, R))) (M := mr_109) rfl (show mcode 109 7 = some (7, .iload_n 2, 1, 0, 0, 0, _) from rfl) (Or.inl ⟨.int c, rfl, rfl⟩) ?_
    refine XW.fam (S' := (11, [(2, .int c), (0, .ref 41), (1, .int ov)], [.int 240, .int c], (sh, I, L, R))) (M := mr_109) rfl (show mcode 109 8 = some (8, .sipush 240, 3, 0, 0, 0, _) from rfl) (Or.inl ⟨.int 240, rfl, rfl⟩) ?_
    cases k1 : bcmp .ge c 240 with
    | true =>
      have gk1 : 240 ≤ (c).toInt := icT (c := .ge) (a := (c).toInt) (b := 240) rfl (by decide) k1
      refine XW.fam (S' := (65, [(2, .int c), (0, .ref 41), (1, .int ov)], [], (sh, I, L, R))) (M := mr_109) rfl (show mcode 109 11 = some (11, .if_icmp .ge 54, 3, 65, 0, 0, _) from rfl) (Or.inr (Or.inl ⟨65, [], by simp [brn, k1], rfl⟩)) ?_
      refine XW.ret (r := none) ⟨rfl, by decide +kernel⟩ ?_
      rw [gPx_3]
      unfold gLp
      rw [if_neg (fun q => by have q1 := of_decide_eq_true q; have q2 : K j = 43 ∨ K j = 45 := q1; omega)]
      exact ⟨rfl, hf, hw, hk, rsC_t hst⟩
    | false =>
      have gk1 : ¬ (240 ≤ (c).toInt) := icF (c := .ge) (a := (c).toInt) (b := 240) rfl (by decide) k1
      refine XW.fam (S' := (14, [(2, .int c), (0, .ref 41), (1, .int ov)], [], (sh, I, L, R))) (M := mr_109) rfl (show mcode 109 11 = some (11, .if_icmp .ge 54, 3, 65, 0, 0, _) from rfl) (Or.inr (Or.inl ⟨14, [], by simp [brn, k1], rfl⟩)) ?_
      refine XW.fam (S' := (15, [(2, .int c), (0, .ref 41), (1, .int ov)], [.ref 41], (sh, I, L, R))) (M := mr_109) rfl (show mcode 109 14 = some (14, .aload_n 0, 1, 0, 0, 0, _) from rfl) (Or.inl ⟨.ref 41, rfl, rfl⟩) ?_
      refine XW.fam (S' := (18, [(2, .int c), (0, .ref 41), (1, .int ov)], [.int (I 41 8)], (sh, I, L, R))) (M := mr_109) rfl (show mcode 109 15 = some (15, .getfield 44, 3, 5, 8, 0, _) from rfl) (Or.inr (Or.inr (Or.inr (Or.inr (Or.inr (Or.inr (Or.inr (Or.inl ⟨_, _, rfl, fl_ldI c41 (by decide) (by decide), rfl⟩)))))))) ?_
      rw [efl]
      have k2 : bcmp .ge fl 0 = false := bcF (c := .ge) (a := (fl).toInt) (b := 0) rfl (by decide) (by show ¬ (0 ≤ (fl).toInt); omega)
      refine XW.fam (S' := (21, [(2, .int c), (0, .ref 41), (1, .int ov)], [], (sh, I, L, R))) (M := mr_109) rfl (show mcode 109 18 = some (18, .ifCond .ge 47, 3, 65, 0, 0, _) from rfl) (Or.inr (Or.inl ⟨21, [], by simp [brn, k2], rfl⟩)) ?_
      refine XW.fam (S' := (22, [(2, .int c), (0, .ref 41), (1, .int ov)], [.ref 41], (sh, I, L, R))) (M := mr_109) rfl (show mcode 109 21 = some (21, .aload_n 0, 1, 0, 0, 0, _) from rfl) (Or.inl ⟨.ref 41, rfl, rfl⟩) ?_
      refine XW.fam (S' := (25, [(2, .int c), (0, .ref 41), (1, .int ov)], [.int (I 41 7)], (sh, I, L, R))) (M := mr_109) rfl (show mcode 109 22 = some (22, .getfield 38, 3, 5, 7, 0, _) from rfl) (Or.inr (Or.inr (Or.inr (Or.inr (Or.inr (Or.inr (Or.inr (Or.inl ⟨_, _, rfl, fl_ldI c41 (by decide) (by decide), rfl⟩)))))))) ?_
      rw [etk]
      refine XW.fam (S' := (27, [(2, .int c), (0, .ref 41), (1, .int ov)], [.int 43, .int tk], (sh, I, L, R))) (M := mr_109) rfl (show mcode 109 25 = some (25, .bipush 43, 2, 0, 0, 0, _) from rfl) (Or.inl ⟨.int 43, rfl, rfl⟩) ?_
      cases k3 : bcmp .eq tk 43 with
      | true =>
        have gk3 : (tk).toInt = 43 := icT (c := .eq) (a := (tk).toInt) (b := 43) rfl (by decide) k3
        refine XW.fam (S' := (39, [(2, .int c), (0, .ref 41), (1, .int ov)], [], (sh, I, L, R))) (M := mr_109) rfl (show mcode 109 27 = some (27, .if_icmp .eq 12, 3, 39, 0, 0, _) from rfl) (Or.inr (Or.inl ⟨39, [], by simp [brn, k3], rfl⟩)) ?_
        refine XW.fam (S' := (40, [(2, .int c), (0, .ref 41), (1, .int ov)], [.ref 41], (sh, I, L, R))) (M := mr_109) rfl (show mcode 109 39 = some (39, .aload_n 0, 1, 0, 0, 0, _) from rfl) (Or.inl ⟨.ref 41, rfl, rfl⟩) ?_
        refine XW.fam (S' := (43, [(2, .int c), (0, .ref 41), (1, .int ov)], [.int (I 41 7)], (sh, I, L, R))) (M := mr_109) rfl (show mcode 109 40 = some (40, .getfield 38, 3, 5, 7, 0, _) from rfl) (Or.inr (Or.inr (Or.inr (Or.inr (Or.inr (Or.inr (Or.inr (Or.inl ⟨_, _, rfl, fl_ldI c41 (by decide) (by decide), rfl⟩)))))))) ?_
        rw [etk]
        refine XW.fam (S' := (44, [(3, .int tk), (2, .int c), (0, .ref 41), (1, .int ov)], [], (sh, I, L, R))) (M := mr_109) rfl (show mcode 109 43 = some (43, .istore_n 3, 1, 0, 0, 0, _) from rfl) (Or.inr (Or.inr (Or.inr (Or.inr (Or.inr (Or.inr (Or.inl ⟨_, [], _, rfl, rfl, rfl⟩))))))) ?_
        refine XW.fam (S' := (45, [(3, .int tk), (2, .int c), (0, .ref 41), (1, .int ov)], [.ref 41], (sh, I, L, R))) (M := mr_109) rfl (show mcode 109 44 = some (44, .aload_n 0, 1, 0, 0, 0, _) from rfl) (Or.inl ⟨.ref 41, rfl, rfl⟩) ?_
        refine XW.call (d' := d) (mc' := 0) (ms' := 0) (av := [.ref 41]) (rest := []) (M := mr_109) (Ma := mr_102) rfl (show mcode 109 45 = some (45, .invokevirtual 50, 3, 102, 0, 0, _) from rfl) rfl (by decide) (by decide) ⟨rfl, 41, _, rfl, c41⟩ rfl rfl (show 0 ≤ 8 by decide) (tc_adv (d := d) hT hw hf hk hst (lt_N hN hle (by omega))) (by omega) (Nat.zero_le _) (Nat.zero_le _) (fun rQ4 wQ4 Q4 => ?_)
        obtain ⟨hrQ4, hfQ4, hwQ4, hkQ4, hsQ4⟩ := Q4
        subst hrQ4
        obtain ⟨shQ4, IQ4, LQ4, RQ4⟩ := wQ4
        obtain rfl : sh = shQ4 := hwQ4.2.2.2.1.symm
        obtain rfl : R = RQ4 := hwQ4.2.2.2.2.1.symm
        have hkQ4 : ∀ q k, inm mdT q k = false → IQ4 q k = J q k := hkQ4
        refine XW.fam (S' := (49, [(3, .int tk), (2, .int c), (0, .ref 41), (1, .int ov)], [.ref 41], (sh, IQ4, LQ4, R))) (M := mr_109) rfl (show mcode 109 48 = some (48, .aload_n 0, 1, 0, 0, 0, _) from rfl) (Or.inl ⟨.ref 41, rfl, rfl⟩) ?_
        refine XW.fam (S' := (50, [(3, .int tk), (2, .int c), (0, .ref 41), (1, .int ov)], [.int ov, .ref 41], (sh, IQ4, LQ4, R))) (M := mr_109) rfl (show mcode 109 49 = some (49, .iload_n 1, 1, 0, 0, 0, _) from rfl) (Or.inl ⟨.int ov, rfl, rfl⟩) ?_
        refine XW.call (d' := (d + 2 + (6 * (8 - o) + 2))) (mc' := 0) (ms' := 0) (av := [.ref 41, .int ov]) (rest := []) (M := mr_109) (Ma := mr_110) rfl (show mcode 109 50 = some (50, .invokevirtual 124, 3, 110, 0, 0, _) from rfl) rfl (by decide) (by decide) ⟨rfl, 41, _, rfl, c41⟩ rfl rfl (show 0 ≤ 8 by decide) (H0 f (by omega) o (j + 1) ov hov ho hwQ4 hfQ4 hkQ4 (hsQ4.1 rfl) (by have := lt_N hN hle (by omega); omega)) (by omega) (Nat.zero_le _) (Nat.zero_le _) (fun rQ5 wQ5 Q5 => ?_)
        obtain ⟨hrQ5, hfQ5, hwQ5, hkQ5, hsQ5⟩ := Q5
        subst hrQ5
        obtain ⟨shQ5, IQ5, LQ5, RQ5⟩ := wQ5
        obtain rfl : sh = shQ5 := hwQ5.2.2.2.1.symm
        obtain rfl : R = RQ5 := hwQ5.2.2.2.2.1.symm
        have hkQ5 : ∀ q k, inm mdT q k = false → IQ5 q k = J q k := hkQ5
        refine XW.fam (S' := (54, [(3, .int tk), (2, .int c), (0, .ref 41), (1, .int ov)], [.ref 41], (sh, IQ5, LQ5, R))) (M := mr_109) rfl (show mcode 109 53 = some (53, .aload_n 0, 1, 0, 0, 0, _) from rfl) (Or.inl ⟨.ref 41, rfl, rfl⟩) ?_
        refine XW.fam (S' := (55, [(3, .int tk), (2, .int c), (0, .ref 41), (1, .int ov)], [.int 2, .ref 41], (sh, IQ5, LQ5, R))) (M := mr_109) rfl (show mcode 109 54 = some (54, .iconst 2, 1, 0, 0, 0, _) from rfl) (Or.inl ⟨.int 2, rfl, rfl⟩) ?_
        refine XW.fam (S' := (56, [(3, .int tk), (2, .int c), (0, .ref 41), (1, .int ov)], [.int tk, .int 2, .ref 41], (sh, IQ5, LQ5, R))) (M := mr_109) rfl (show mcode 109 55 = some (55, .iload_n 3, 1, 0, 0, 0, _) from rfl) (Or.inl ⟨.int tk, rfl, rfl⟩) ?_
        refine XW.call (d' := d) (mc' := 0) (ms' := 0) (av := [.ref 41, .int 2, .int tk]) (rest := []) (M := mr_109) (Ma := mr_107) rfl (show mcode 109 56 = some (56, .invokevirtual 108, 3, 107, 0, 0, _) from rfl) rfl (by decide) (by decide) ⟨rfl, 41, _, rfl, c41⟩ rfl rfl (show 0 ≤ 8 by decide) (tc_wrQ (d := d) (show QW sh R J K S N (gPx K f 2 o (j + 1)) (sh, IQ5, LQ5, R) from ⟨hfQ5, hwQ5, hkQ5, hsQ5⟩)) (by omega) (Nat.zero_le _) (Nat.zero_le _) (fun rQ6 wQ6 Q6 => ?_)
        obtain ⟨hrQ6, hfQ6, hwQ6, hkQ6, hsQ6⟩ := Q6
        subst hrQ6
        obtain ⟨shQ6, IQ6, LQ6, RQ6⟩ := wQ6
        obtain rfl : sh = shQ6 := hwQ6.2.2.2.1.symm
        obtain rfl : R = RQ6 := hwQ6.2.2.2.2.1.symm
        have hkQ6 : ∀ q k, inm mdT q k = false → IQ6 q k = J q k := hkQ6
        refine XW.fam (S' := (62, [(2, .int (c + Int32.ofInt 1)), (3, .int tk), (0, .ref 41), (1, .int ov)], [], (sh, IQ6, LQ6, R))) (M := mr_109) rfl (show mcode 109 59 = some (59, .iinc 2 1, 3, 0, 0, 0, _) from rfl) (Or.inr (Or.inr (Or.inr (Or.inr (Or.inr (Or.inr (Or.inr (Or.inr (Or.inr ⟨2, 1, c, rfl, rfl, by decide, rfl⟩))))))))) ?_
        refine XW.fam (S' := (7, [(2, .int (c + Int32.ofInt 1)), (3, .int tk), (0, .ref 41), (1, .int ov)], [], (sh, IQ6, LQ6, R))) (M := mr_109) rfl (show mcode 109 62 = some (62, .goto (-55), 3, 7, 0, 0, _) from rfl) (Or.inr (Or.inl ⟨7, [], rfl, rfl⟩)) ?_
        have hgo := (gPx_ok hN f o (j + 1) (by have := lt_N hN hle (by omega); omega)).1 2 (by omega)
        have eo := incO (m := c) (by omega) (by omega)
        refine XW.sub (ls' := [(2, .int (c + Int32.ofInt 1)), (0, .ref 41), (1, .int ov)]) (List.forall_mem_cons.mpr ⟨List.mem_of_getElem? (i := 0) rfl, (List.forall_mem_cons.mpr ⟨List.mem_of_getElem? (i := 2) rfl, (List.forall_mem_cons.mpr ⟨List.mem_of_getElem? (i := 3) rfl, (fun _ h => absurd h List.not_mem_nil)⟩)⟩)⟩) ?_
        have eg : (gPx K (f + 1) 3 o j) = gB (gPx K f 2 o (j + 1)) (gPx K f 3 o) := by
          rw [gPx_3]
          unfold gLp
          exact if_pos (decide_eq_true (show K j = 43 ∨ K j = 45 by omega))
        rw [eg]
        cases e : (gPx K f 2 o (j + 1)).1 with
        | true =>
          rw [gB_t e]
          have g1 := hgo.1
          have g2 := hgo.2.2 e rfl
          exact ih (c + Int32.ofInt 1) _ (fun f2 h2 => H0 f2 (by omega)) hwQ6 hfQ6 hkQ6 (hsQ6.1 e) (by omega) (by have := hgo.2.1; omega)
        | false =>
          rw [gB_f e]
          exact sum_out hwQ6 (by have h8 := hsQ6.2 e; have h9 : (IQ6 41 8).toInt = _ := h8; omega) ⟨rfl, hfQ6, hwQ6, hkQ6, hsQ6⟩
      | false =>
        have gk3 : ¬ ((tk).toInt = 43) := icF (c := .eq) (a := (tk).toInt) (b := 43) rfl (by decide) k3
        refine XW.fam (S' := (30, [(2, .int c), (0, .ref 41), (1, .int ov)], [], (sh, I, L, R))) (M := mr_109) rfl (show mcode 109 27 = some (27, .if_icmp .eq 12, 3, 39, 0, 0, _) from rfl) (Or.inr (Or.inl ⟨30, [], by simp [brn, k3], rfl⟩)) ?_
        refine XW.fam (S' := (31, [(2, .int c), (0, .ref 41), (1, .int ov)], [.ref 41], (sh, I, L, R))) (M := mr_109) rfl (show mcode 109 30 = some (30, .aload_n 0, 1, 0, 0, 0, _) from rfl) (Or.inl ⟨.ref 41, rfl, rfl⟩) ?_
        refine XW.fam (S' := (34, [(2, .int c), (0, .ref 41), (1, .int ov)], [.int (I 41 7)], (sh, I, L, R))) (M := mr_109) rfl (show mcode 109 31 = some (31, .getfield 38, 3, 5, 7, 0, _) from rfl) (Or.inr (Or.inr (Or.inr (Or.inr (Or.inr (Or.inr (Or.inr (Or.inl ⟨_, _, rfl, fl_ldI c41 (by decide) (by decide), rfl⟩)))))))) ?_
        rw [etk]
        refine XW.fam (S' := (36, [(2, .int c), (0, .ref 41), (1, .int ov)], [.int 45, .int tk], (sh, I, L, R))) (M := mr_109) rfl (show mcode 109 34 = some (34, .bipush 45, 2, 0, 0, 0, _) from rfl) (Or.inl ⟨.int 45, rfl, rfl⟩) ?_
        cases k7 : bcmp .ne tk 45 with
        | true =>
          have gk7 : ¬ (tk).toInt = 45 := icT (c := .ne) (a := (tk).toInt) (b := 45) rfl (by decide) k7
          refine XW.fam (S' := (65, [(2, .int c), (0, .ref 41), (1, .int ov)], [], (sh, I, L, R))) (M := mr_109) rfl (show mcode 109 36 = some (36, .if_icmp .ne 29, 3, 65, 0, 0, _) from rfl) (Or.inr (Or.inl ⟨65, [], by simp [brn, k7], rfl⟩)) ?_
          refine XW.ret (r := none) ⟨rfl, by decide +kernel⟩ ?_
          rw [gPx_3]
          unfold gLp
          rw [if_neg (fun q => by have q1 := of_decide_eq_true q; have q2 : K j = 43 ∨ K j = 45 := q1; omega)]
          exact ⟨rfl, hf, hw, hk, rsC_t hst⟩
        | false =>
          have gk7 : ¬ (¬ (tk).toInt = 45) := icF (c := .ne) (a := (tk).toInt) (b := 45) rfl (by decide) k7
          refine XW.fam (S' := (39, [(2, .int c), (0, .ref 41), (1, .int ov)], [], (sh, I, L, R))) (M := mr_109) rfl (show mcode 109 36 = some (36, .if_icmp .ne 29, 3, 65, 0, 0, _) from rfl) (Or.inr (Or.inl ⟨39, [], by simp [brn, k7], rfl⟩)) ?_
          refine XW.fam (S' := (40, [(2, .int c), (0, .ref 41), (1, .int ov)], [.ref 41], (sh, I, L, R))) (M := mr_109) rfl (show mcode 109 39 = some (39, .aload_n 0, 1, 0, 0, 0, _) from rfl) (Or.inl ⟨.ref 41, rfl, rfl⟩) ?_
          refine XW.fam (S' := (43, [(2, .int c), (0, .ref 41), (1, .int ov)], [.int (I 41 7)], (sh, I, L, R))) (M := mr_109) rfl (show mcode 109 40 = some (40, .getfield 38, 3, 5, 7, 0, _) from rfl) (Or.inr (Or.inr (Or.inr (Or.inr (Or.inr (Or.inr (Or.inr (Or.inl ⟨_, _, rfl, fl_ldI c41 (by decide) (by decide), rfl⟩)))))))) ?_
          rw [etk]
          refine XW.fam (S' := (44, [(3, .int tk), (2, .int c), (0, .ref 41), (1, .int ov)], [], (sh, I, L, R))) (M := mr_109) rfl (show mcode 109 43 = some (43, .istore_n 3, 1, 0, 0, 0, _) from rfl) (Or.inr (Or.inr (Or.inr (Or.inr (Or.inr (Or.inr (Or.inl ⟨_, [], _, rfl, rfl, rfl⟩))))))) ?_
          refine XW.fam (S' := (45, [(3, .int tk), (2, .int c), (0, .ref 41), (1, .int ov)], [.ref 41], (sh, I, L, R))) (M := mr_109) rfl (show mcode 109 44 = some (44, .aload_n 0, 1, 0, 0, 0, _) from rfl) (Or.inl ⟨.ref 41, rfl, rfl⟩) ?_
          refine XW.call (d' := d) (mc' := 0) (ms' := 0) (av := [.ref 41]) (rest := []) (M := mr_109) (Ma := mr_102) rfl (show mcode 109 45 = some (45, .invokevirtual 50, 3, 102, 0, 0, _) from rfl) rfl (by decide) (by decide) ⟨rfl, 41, _, rfl, c41⟩ rfl rfl (show 0 ≤ 8 by decide) (tc_adv (d := d) hT hw hf hk hst (lt_N hN hle (by omega))) (by omega) (Nat.zero_le _) (Nat.zero_le _) (fun rQ8 wQ8 Q8 => ?_)
          obtain ⟨hrQ8, hfQ8, hwQ8, hkQ8, hsQ8⟩ := Q8
          subst hrQ8
          obtain ⟨shQ8, IQ8, LQ8, RQ8⟩ := wQ8
          obtain rfl : sh = shQ8 := hwQ8.2.2.2.1.symm
          obtain rfl : R = RQ8 := hwQ8.2.2.2.2.1.symm
          have hkQ8 : ∀ q k, inm mdT q k = false → IQ8 q k = J q k := hkQ8
          refine XW.fam (S' := (49, [(3, .int tk), (2, .int c), (0, .ref 41), (1, .int ov)], [.ref 41], (sh, IQ8, LQ8, R))) (M := mr_109) rfl (show mcode 109 48 = some (48, .aload_n 0, 1, 0, 0, 0, _) from rfl) (Or.inl ⟨.ref 41, rfl, rfl⟩) ?_
          refine XW.fam (S' := (50, [(3, .int tk), (2, .int c), (0, .ref 41), (1, .int ov)], [.int ov, .ref 41], (sh, IQ8, LQ8, R))) (M := mr_109) rfl (show mcode 109 49 = some (49, .iload_n 1, 1, 0, 0, 0, _) from rfl) (Or.inl ⟨.int ov, rfl, rfl⟩) ?_
          refine XW.call (d' := (d + 2 + (6 * (8 - o) + 2))) (mc' := 0) (ms' := 0) (av := [.ref 41, .int ov]) (rest := []) (M := mr_109) (Ma := mr_110) rfl (show mcode 109 50 = some (50, .invokevirtual 124, 3, 110, 0, 0, _) from rfl) rfl (by decide) (by decide) ⟨rfl, 41, _, rfl, c41⟩ rfl rfl (show 0 ≤ 8 by decide) (H0 f (by omega) o (j + 1) ov hov ho hwQ8 hfQ8 hkQ8 (hsQ8.1 rfl) (by have := lt_N hN hle (by omega); omega)) (by omega) (Nat.zero_le _) (Nat.zero_le _) (fun rQ9 wQ9 Q9 => ?_)
          obtain ⟨hrQ9, hfQ9, hwQ9, hkQ9, hsQ9⟩ := Q9
          subst hrQ9
          obtain ⟨shQ9, IQ9, LQ9, RQ9⟩ := wQ9
          obtain rfl : sh = shQ9 := hwQ9.2.2.2.1.symm
          obtain rfl : R = RQ9 := hwQ9.2.2.2.2.1.symm
          have hkQ9 : ∀ q k, inm mdT q k = false → IQ9 q k = J q k := hkQ9
          refine XW.fam (S' := (54, [(3, .int tk), (2, .int c), (0, .ref 41), (1, .int ov)], [.ref 41], (sh, IQ9, LQ9, R))) (M := mr_109) rfl (show mcode 109 53 = some (53, .aload_n 0, 1, 0, 0, 0, _) from rfl) (Or.inl ⟨.ref 41, rfl, rfl⟩) ?_
          refine XW.fam (S' := (55, [(3, .int tk), (2, .int c), (0, .ref 41), (1, .int ov)], [.int 2, .ref 41], (sh, IQ9, LQ9, R))) (M := mr_109) rfl (show mcode 109 54 = some (54, .iconst 2, 1, 0, 0, 0, _) from rfl) (Or.inl ⟨.int 2, rfl, rfl⟩) ?_
          refine XW.fam (S' := (56, [(3, .int tk), (2, .int c), (0, .ref 41), (1, .int ov)], [.int tk, .int 2, .ref 41], (sh, IQ9, LQ9, R))) (M := mr_109) rfl (show mcode 109 55 = some (55, .iload_n 3, 1, 0, 0, 0, _) from rfl) (Or.inl ⟨.int tk, rfl, rfl⟩) ?_
          refine XW.call (d' := d) (mc' := 0) (ms' := 0) (av := [.ref 41, .int 2, .int tk]) (rest := []) (M := mr_109) (Ma := mr_107) rfl (show mcode 109 56 = some (56, .invokevirtual 108, 3, 107, 0, 0, _) from rfl) rfl (by decide) (by decide) ⟨rfl, 41, _, rfl, c41⟩ rfl rfl (show 0 ≤ 8 by decide) (tc_wrQ (d := d) (show QW sh R J K S N (gPx K f 2 o (j + 1)) (sh, IQ9, LQ9, R) from ⟨hfQ9, hwQ9, hkQ9, hsQ9⟩)) (by omega) (Nat.zero_le _) (Nat.zero_le _) (fun rQ10 wQ10 Q10 => ?_)
          obtain ⟨hrQ10, hfQ10, hwQ10, hkQ10, hsQ10⟩ := Q10
          subst hrQ10
          obtain ⟨shQ10, IQ10, LQ10, RQ10⟩ := wQ10
          obtain rfl : sh = shQ10 := hwQ10.2.2.2.1.symm
          obtain rfl : R = RQ10 := hwQ10.2.2.2.2.1.symm
          have hkQ10 : ∀ q k, inm mdT q k = false → IQ10 q k = J q k := hkQ10
          refine XW.fam (S' := (62, [(2, .int (c + Int32.ofInt 1)), (3, .int tk), (0, .ref 41), (1, .int ov)], [], (sh, IQ10, LQ10, R))) (M := mr_109) rfl (show mcode 109 59 = some (59, .iinc 2 1, 3, 0, 0, 0, _) from rfl) (Or.inr (Or.inr (Or.inr (Or.inr (Or.inr (Or.inr (Or.inr (Or.inr (Or.inr ⟨2, 1, c, rfl, rfl, by decide, rfl⟩))))))))) ?_
          refine XW.fam (S' := (7, [(2, .int (c + Int32.ofInt 1)), (3, .int tk), (0, .ref 41), (1, .int ov)], [], (sh, IQ10, LQ10, R))) (M := mr_109) rfl (show mcode 109 62 = some (62, .goto (-55), 3, 7, 0, 0, _) from rfl) (Or.inr (Or.inl ⟨7, [], rfl, rfl⟩)) ?_
          have hgo := (gPx_ok hN f o (j + 1) (by have := lt_N hN hle (by omega); omega)).1 2 (by omega)
          have eo := incO (m := c) (by omega) (by omega)
          refine XW.sub (ls' := [(2, .int (c + Int32.ofInt 1)), (0, .ref 41), (1, .int ov)]) (List.forall_mem_cons.mpr ⟨List.mem_of_getElem? (i := 0) rfl, (List.forall_mem_cons.mpr ⟨List.mem_of_getElem? (i := 2) rfl, (List.forall_mem_cons.mpr ⟨List.mem_of_getElem? (i := 3) rfl, (fun _ h => absurd h List.not_mem_nil)⟩)⟩)⟩) ?_
          have eg : (gPx K (f + 1) 3 o j) = gB (gPx K f 2 o (j + 1)) (gPx K f 3 o) := by
            rw [gPx_3]
            unfold gLp
            exact if_pos (decide_eq_true (show K j = 43 ∨ K j = 45 by omega))
          rw [eg]
          cases e : (gPx K f 2 o (j + 1)).1 with
          | true =>
            rw [gB_t e]
            have g1 := hgo.1
            have g2 := hgo.2.2 e rfl
            exact ih (c + Int32.ofInt 1) _ (fun f2 h2 => H0 f2 (by omega)) hwQ10 hfQ10 hkQ10 (hsQ10.1 e) (by omega) (by have := hgo.2.1; omega)
          | false =>
            rw [gB_f e]
            exact sum_out hwQ10 (by have h8 := hsQ10.2 e; have h9 : (IQ10 41 8).toInt = _ := h8; omega) ⟨rfl, hfQ10, hwQ10, hkQ10, hsQ10⟩
theorem sum_of {d f : Nat} {sh : List mE} {J : Nat → Nat → Int32} {R : Nat → Nat → Option Nat} {K : Nat → Int} {S : Nat → Nat} {N : Nat} (hT : tvC J K S N) (H0 : ∀ f2, f2 < f + 1 → CTx sh R J K S N d 110 2 2 f2) : CTx sh R J K S N d 109 3 4 (f + 1) := by
  intro o i ov I L hov ho hw hf hk hst hmu
  obtain ⟨⟨hN5, hN2⟩, hN, hTk⟩ := id hT
  have c41 : sh[41]? = some (.inr 5) := hw.1 41 _ rfl
  have z0 : (0 : Int32).toInt = 0 := rfl
  refine Tc.of mr_109 rfl (show 2 ≤ mr_109.2.2.2.1 by decide) ?_
  refine XW.fam (S' := (1, [(0, .ref 41), (1, .int ov)], [.ref 41], (sh, I, L, R))) (M := mr_109) rfl (show mcode 109 0 = some (0, .aload_n 0, 1, 0, 0, 0, _) from rfl) (Or.inl ⟨.ref 41, rfl, rfl⟩) ?_
  refine XW.fam (S' := (2, [(0, .ref 41), (1, .int ov)], [.int ov, .ref 41], (sh, I, L, R))) (M := mr_109) rfl (show mcode 109 1 = some (1, .iload_n 1, 1, 0, 0, 0, _) from rfl) (Or.inl ⟨.int ov, rfl, rfl⟩) ?_
  refine XW.call (d' := (d + 2 + (6 * (8 - o) + 2))) (mc' := 0) (ms' := 0) (av := [.ref 41, .int ov]) (rest := []) (M := mr_109) (Ma := mr_110) rfl (show mcode 109 2 = some (2, .invokevirtual 124, 3, 110, 0, 0, _) from rfl) rfl (by decide) (by decide) ⟨rfl, 41, _, rfl, c41⟩ rfl rfl (show 0 ≤ 8 by decide) (H0 f (by omega) o i ov hov ho hw hf hk hst (by omega)) (by omega) (Nat.zero_le _) (Nat.zero_le _) (fun rQ1 wQ1 Q1 => ?_)
  obtain ⟨hrQ1, hfQ1, hwQ1, hkQ1, hsQ1⟩ := Q1
  subst hrQ1
  obtain ⟨shQ1, IQ1, LQ1, RQ1⟩ := wQ1
  obtain rfl : sh = shQ1 := hwQ1.2.2.2.1.symm
  obtain rfl : R = RQ1 := hwQ1.2.2.2.2.1.symm
  have hkQ1 : ∀ q k, inm mdT q k = false → IQ1 q k = J q k := hkQ1
  refine XW.fam (S' := (6, [(0, .ref 41), (1, .int ov)], [.int 0], (sh, IQ1, LQ1, R))) (M := mr_109) rfl (show mcode 109 5 = some (5, .iconst 0, 1, 0, 0, 0, _) from rfl) (Or.inl ⟨.int 0, rfl, rfl⟩) ?_
  refine XW.fam (S' := (7, [(2, .int 0), (0, .ref 41), (1, .int ov)], [], (sh, IQ1, LQ1, R))) (M := mr_109) rfl (show mcode 109 6 = some (6, .istore_n 2, 1, 0, 0, 0, _) from rfl) (Or.inr (Or.inr (Or.inr (Or.inr (Or.inr (Or.inr (Or.inl ⟨_, [], _, rfl, rfl, rfl⟩))))))) ?_
  refine XW.sub (ls' := [(2, .int 0), (0, .ref 41), (1, .int ov)]) (List.forall_mem_cons.mpr ⟨List.mem_of_getElem? (i := 0) rfl, (List.forall_mem_cons.mpr ⟨List.mem_of_getElem? (i := 1) rfl, (List.forall_mem_cons.mpr ⟨List.mem_of_getElem? (i := 2) rfl, (fun _ h => absurd h List.not_mem_nil)⟩)⟩)⟩) ?_
  have hgo := (gPx_ok hN f o i hst.2.2.2).1 2 (by omega)
  rw [gPx_4]
  cases e : (gPx K f 2 o i).1 with
  | true =>
    rw [gB_t e]
    have g2 := hgo.2.2 e rfl
    exact sum_lp hT hov ho f 0 _ (fun f2 h2 => H0 f2 (by omega)) hwQ1 hfQ1 hkQ1 (hsQ1.1 e) ⟨by decide, by have z0 : (0 : Int32).toInt = 0 := rfl; omega⟩ (by have := hgo.2.1; omega)
  | false =>
    rw [gB_f e]
    exact sum_out hwQ1 (by have h8 := hsQ1.2 e; have h9 : (IQ1 41 8).toInt = _ := h8; omega) ⟨rfl, hfQ1, hwQ1, hkQ1, hsQ1⟩
theorem all_out {d : Nat} {sh : List mE} {I : Nat → Nat → Int32} {L : Nat → Nat → Int64} {R : Nat → Nat → Option Nat} {ov c : Int32} {Q : Option Value → mW → Prop} (hw : wOK (mkT vV []) (wE sh R) (sh, I, L, R)) (h8 : 0 ≤ (I 41 8).toInt) (hQ : Q none (sh, I, L, R)) : XW 104 mr_104 none d 0 0 Q (7, [(2, .int c), (0, .ref 41), (1, .int ov)], [], (sh, I, L, R)) := by
  have c41 : sh[41]? = some (.inr 5) := hw.1 41 _ rfl
  have z0 : (0 : Int32).toInt = 0 := rfl
  have z240 : (240 : Int32).toInt = 240 := rfl
  refine XW.fam (S' := (8, [(2, .int c), (0, .ref 41), (1, .int ov)], [.int c], (sh, I, L, R))) (M := mr_104) rfl (show mcode 104 7 = some (7, .iload_n 2, 1, 0, 0, 0, _) from rfl) (Or.inl ⟨.int c, rfl, rfl⟩) ?_
  refine XW.fam (S' := (11, [(2, .int c), (0, .ref 41), (1, .int ov)], [.int 240, .int c], (sh, I, L, R))) (M := mr_104) rfl (show mcode 104 8 = some (8, .sipush 240, 3, 0, 0, 0, _) from rfl) (Or.inl ⟨.int 240, rfl, rfl⟩) ?_
  cases k1 : bcmp .ge c 240 with
  | true =>
    have gk1 : 240 ≤ (c).toInt := icT (c := .ge) (a := (c).toInt) (b := 240) rfl (by decide) k1
    refine XW.fam (S' := (52, [(2, .int c), (0, .ref 41), (1, .int ov)], [], (sh, I, L, R))) (M := mr_104) rfl (show mcode 104 11 = some (11, .if_icmp .ge 41, 3, 52, 0, 0, _) from rfl) (Or.inr (Or.inl ⟨52, [], by simp [brn, k1], rfl⟩)) ?_
    refine XW.ret (r := none) ⟨rfl, by decide +kernel⟩ ?_
    exact hQ
  | false =>
    have gk1 : ¬ (240 ≤ (c).toInt) := icF (c := .ge) (a := (c).toInt) (b := 240) rfl (by decide) k1
    refine XW.fam (S' := (14, [(2, .int c), (0, .ref 41), (1, .int ov)], [], (sh, I, L, R))) (M := mr_104) rfl (show mcode 104 11 = some (11, .if_icmp .ge 41, 3, 52, 0, 0, _) from rfl) (Or.inr (Or.inl ⟨14, [], by simp [brn, k1], rfl⟩)) ?_
    refine XW.fam (S' := (15, [(2, .int c), (0, .ref 41), (1, .int ov)], [.ref 41], (sh, I, L, R))) (M := mr_104) rfl (show mcode 104 14 = some (14, .aload_n 0, 1, 0, 0, 0, _) from rfl) (Or.inl ⟨.ref 41, rfl, rfl⟩) ?_
    refine XW.fam (S' := (18, [(2, .int c), (0, .ref 41), (1, .int ov)], [.int (I 41 8)], (sh, I, L, R))) (M := mr_104) rfl (show mcode 104 15 = some (15, .getfield 44, 3, 5, 8, 0, _) from rfl) (Or.inr (Or.inr (Or.inr (Or.inr (Or.inr (Or.inr (Or.inr (Or.inl ⟨_, _, rfl, fl_ldI c41 (by decide) (by decide), rfl⟩)))))))) ?_
    have k2 : bcmp .ge (I 41 8) 0 = true := bcT (c := .ge) (a := ((I 41 8)).toInt) (b := 0) rfl (by decide) (by show 0 ≤ ((I 41 8)).toInt; omega)
    refine XW.fam (S' := (52, [(2, .int c), (0, .ref 41), (1, .int ov)], [], (sh, I, L, R))) (M := mr_104) rfl (show mcode 104 18 = some (18, .ifCond .ge 34, 3, 52, 0, 0, _) from rfl) (Or.inr (Or.inl ⟨52, [], by simp [brn, k2], rfl⟩)) ?_
    refine XW.ret (r := none) ⟨rfl, by decide +kernel⟩ ?_
    exact hQ
theorem all_lp {d o : Nat} {sh : List mE} {J : Nat → Nat → Int32} {R : Nat → Nat → Option Nat} {K : Nat → Int} {S : Nat → Nat} {N : Nat} {ov : Int32} (hT : tvC J K S N) (hov : ov.toInt = (o : Int)) (ho : o ≤ 8) : ∀ (f : Nat) {I : Nat → Nat → Int32} {L : Nat → Nat → Int64} (c : Int32) (j : Nat), (∀ f2, f2 < f → CTx sh R J K S N d 105 4 5 f2) → wOK (mkT vV []) (wE sh R) (sh, I, L, R) → fresh (sh, I, L, R) → (∀ q k, inm mdT q k = false → I q k = J q k) → stt K N I j → (0 ≤ c.toInt ∧ c.toInt ≤ (j : Int)) → 10 * (N - j) + (6 + 1) ≤ f → XW 104 mr_104 none (d + 2 + (6 * (8 - o) + 5)) 0 0 (QT sh R J K S N (gPx K f 6 o j)) (7, [(2, .int c), (0, .ref 41), (1, .int ov)], [], (sh, I, L, R)) := by
  obtain ⟨⟨hN5, hN2⟩, hN, hTk⟩ := id hT
  have z0 : (0 : Int32).toInt = 0 := rfl
  have z4 : (4 : Int32).toInt = 4 := rfl
  have z240 : (240 : Int32).toInt = 240 := rfl
  have z262 : (262 : Int32).toInt = 262 := rfl
  intro f
  induction f with
  | zero =>
    intro I L c j H0 hw hf hk hst hc hmu
    exfalso
    omega
  | succ f ih =>
    intro I L c j H0 hw hf hk hst hc hmu
    have c41 : sh[41]? = some (.inr 5) := hw.1 41 _ rfl
    obtain ⟨a, ea⟩ : ∃ z : Int32, I 41 6 = z := ⟨_, rfl⟩
    have ha : a.toInt = (j : Int) := by rw [← ea]; exact hst.1
    obtain ⟨tk, etk⟩ : ∃ z : Int32, I 41 7 = z := ⟨_, rfl⟩
    have htk : tk.toInt = K j := by rw [← etk]; exact hst.2.1
    obtain ⟨fl, efl⟩ : ∃ z : Int32, I 41 8 = z := ⟨_, rfl⟩
    have hfl : fl.toInt = -1 := by rw [← efl]; exact hst.2.2.1
    have hle : j ≤ N := hst.2.2.2
    have hlt : ¬ K j = 302 → j < N := lt_N hN hle
    have hjN : j = N → K j = 302 := fun e => by rw [e]; exact hN
    refine XW.fam (S' := (8, [(2, .int c), (0, .ref 41), (1, .int ov)], [.int c], (sh, I, L, R))) (M := mr_104) rfl (show mcode 104 7 = some (7, .iload_n 2, 1, 0, 0, 0, _) from rfl) (Or.inl ⟨.int c, rfl, rfl⟩) ?_
    refine XW.fam (S' := (11, [(2, .int c), (0, .ref 41), (1, .int ov)], [.int 240, .int c], (sh, I, L, R))) (M := mr_104) rfl (show mcode 104 8 = some (8, .sipush 240, 3, 0, 0, 0, _) from rfl) (Or.inl ⟨.int 240, rfl, rfl⟩) ?_
    cases k1 : bcmp .ge c 240 with
    | true =>
      have gk1 : 240 ≤ (c).toInt := icT (c := .ge) (a := (c).toInt) (b := 240) rfl (by decide) k1
      refine XW.fam (S' := (52, [(2, .int c), (0, .ref 41), (1, .int ov)], [], (sh, I, L, R))) (M := mr_104) rfl (show mcode 104 11 = some (11, .if_icmp .ge 41, 3, 52, 0, 0, _) from rfl) (Or.inr (Or.inl ⟨52, [], by simp [brn, k1], rfl⟩)) ?_
      refine XW.ret (r := none) ⟨rfl, by decide +kernel⟩ ?_
      rw [gPx_6]
      unfold gLp
      rw [if_neg (fun q => by have q1 := of_decide_eq_true q; have q2 : K j = 262 := q1; omega)]
      exact ⟨rfl, hf, hw, hk, rsC_t hst⟩
    | false =>
      have gk1 : ¬ (240 ≤ (c).toInt) := icF (c := .ge) (a := (c).toInt) (b := 240) rfl (by decide) k1
      refine XW.fam (S' := (14, [(2, .int c), (0, .ref 41), (1, .int ov)], [], (sh, I, L, R))) (M := mr_104) rfl (show mcode 104 11 = some (11, .if_icmp .ge 41, 3, 52, 0, 0, _) from rfl) (Or.inr (Or.inl ⟨14, [], by simp [brn, k1], rfl⟩)) ?_
      refine XW.fam (S' := (15, [(2, .int c), (0, .ref 41), (1, .int ov)], [.ref 41], (sh, I, L, R))) (M := mr_104) rfl (show mcode 104 14 = some (14, .aload_n 0, 1, 0, 0, 0, _) from rfl) (Or.inl ⟨.ref 41, rfl, rfl⟩) ?_
      refine XW.fam (S' := (18, [(2, .int c), (0, .ref 41), (1, .int ov)], [.int (I 41 8)], (sh, I, L, R))) (M := mr_104) rfl (show mcode 104 15 = some (15, .getfield 44, 3, 5, 8, 0, _) from rfl) (Or.inr (Or.inr (Or.inr (Or.inr (Or.inr (Or.inr (Or.inr (Or.inl ⟨_, _, rfl, fl_ldI c41 (by decide) (by decide), rfl⟩)))))))) ?_
      rw [efl]
      have k2 : bcmp .ge fl 0 = false := bcF (c := .ge) (a := (fl).toInt) (b := 0) rfl (by decide) (by show ¬ (0 ≤ (fl).toInt); omega)
      refine XW.fam (S' := (21, [(2, .int c), (0, .ref 41), (1, .int ov)], [], (sh, I, L, R))) (M := mr_104) rfl (show mcode 104 18 = some (18, .ifCond .ge 34, 3, 52, 0, 0, _) from rfl) (Or.inr (Or.inl ⟨21, [], by simp [brn, k2], rfl⟩)) ?_
      refine XW.fam (S' := (22, [(2, .int c), (0, .ref 41), (1, .int ov)], [.ref 41], (sh, I, L, R))) (M := mr_104) rfl (show mcode 104 21 = some (21, .aload_n 0, 1, 0, 0, 0, _) from rfl) (Or.inl ⟨.ref 41, rfl, rfl⟩) ?_
      refine XW.fam (S' := (25, [(2, .int c), (0, .ref 41), (1, .int ov)], [.int (I 41 7)], (sh, I, L, R))) (M := mr_104) rfl (show mcode 104 22 = some (22, .getfield 38, 3, 5, 7, 0, _) from rfl) (Or.inr (Or.inr (Or.inr (Or.inr (Or.inr (Or.inr (Or.inr (Or.inl ⟨_, _, rfl, fl_ldI c41 (by decide) (by decide), rfl⟩)))))))) ?_
      rw [etk]
      refine XW.fam (S' := (28, [(2, .int c), (0, .ref 41), (1, .int ov)], [.int 262, .int tk], (sh, I, L, R))) (M := mr_104) rfl (show mcode 104 25 = some (25, .sipush 262, 3, 0, 0, 0, _) from rfl) (Or.inl ⟨.int 262, rfl, rfl⟩) ?_
      cases k3 : bcmp .ne tk 262 with
      | true =>
        have gk3 : ¬ (tk).toInt = 262 := icT (c := .ne) (a := (tk).toInt) (b := 262) rfl (by decide) k3
        refine XW.fam (S' := (52, [(2, .int c), (0, .ref 41), (1, .int ov)], [], (sh, I, L, R))) (M := mr_104) rfl (show mcode 104 28 = some (28, .if_icmp .ne 24, 3, 52, 0, 0, _) from rfl) (Or.inr (Or.inl ⟨52, [], by simp [brn, k3], rfl⟩)) ?_
        refine XW.ret (r := none) ⟨rfl, by decide +kernel⟩ ?_
        rw [gPx_6]
        unfold gLp
        rw [if_neg (fun q => by have q1 := of_decide_eq_true q; have q2 : K j = 262 := q1; omega)]
        exact ⟨rfl, hf, hw, hk, rsC_t hst⟩
      | false =>
        have gk3 : ¬ (¬ (tk).toInt = 262) := icF (c := .ne) (a := (tk).toInt) (b := 262) rfl (by decide) k3
        refine XW.fam (S' := (31, [(2, .int c), (0, .ref 41), (1, .int ov)], [], (sh, I, L, R))) (M := mr_104) rfl (show mcode 104 28 = some (28, .if_icmp .ne 24, 3, 52, 0, 0, _) from rfl) (Or.inr (Or.inl ⟨31, [], by simp [brn, k3], rfl⟩)) ?_
        refine XW.fam (S' := (32, [(2, .int c), (0, .ref 41), (1, .int ov)], [.ref 41], (sh, I, L, R))) (M := mr_104) rfl (show mcode 104 31 = some (31, .aload_n 0, 1, 0, 0, 0, _) from rfl) (Or.inl ⟨.ref 41, rfl, rfl⟩) ?_
        refine XW.call (d' := d) (mc' := 0) (ms' := 0) (av := [.ref 41]) (rest := []) (M := mr_104) (Ma := mr_102) rfl (show mcode 104 32 = some (32, .invokevirtual 50, 3, 102, 0, 0, _) from rfl) rfl (by decide) (by decide) ⟨rfl, 41, _, rfl, c41⟩ rfl rfl (show 0 ≤ 8 by decide) (tc_adv (d := d) hT hw hf hk hst (lt_N hN hle (by omega))) (by omega) (Nat.zero_le _) (Nat.zero_le _) (fun rQ4 wQ4 Q4 => ?_)
        obtain ⟨hrQ4, hfQ4, hwQ4, hkQ4, hsQ4⟩ := Q4
        subst hrQ4
        obtain ⟨shQ4, IQ4, LQ4, RQ4⟩ := wQ4
        obtain rfl : sh = shQ4 := hwQ4.2.2.2.1.symm
        obtain rfl : R = RQ4 := hwQ4.2.2.2.2.1.symm
        have hkQ4 : ∀ q k, inm mdT q k = false → IQ4 q k = J q k := hkQ4
        refine XW.fam (S' := (36, [(2, .int c), (0, .ref 41), (1, .int ov)], [.ref 41], (sh, IQ4, LQ4, R))) (M := mr_104) rfl (show mcode 104 35 = some (35, .aload_n 0, 1, 0, 0, 0, _) from rfl) (Or.inl ⟨.ref 41, rfl, rfl⟩) ?_
        refine XW.fam (S' := (37, [(2, .int c), (0, .ref 41), (1, .int ov)], [.int ov, .ref 41], (sh, IQ4, LQ4, R))) (M := mr_104) rfl (show mcode 104 36 = some (36, .iload_n 1, 1, 0, 0, 0, _) from rfl) (Or.inl ⟨.int ov, rfl, rfl⟩) ?_
        refine XW.call (d' := (d + 2 + (6 * (8 - o) + 4))) (mc' := 0) (ms' := 0) (av := [.ref 41, .int ov]) (rest := []) (M := mr_104) (Ma := mr_105) rfl (show mcode 104 37 = some (37, .invokevirtual 115, 3, 105, 0, 0, _) from rfl) rfl (by decide) (by decide) ⟨rfl, 41, _, rfl, c41⟩ rfl rfl (show 0 ≤ 8 by decide) (H0 f (by omega) o (j + 1) ov hov ho hwQ4 hfQ4 hkQ4 (hsQ4.1 rfl) (by have := lt_N hN hle (by omega); omega)) (by omega) (Nat.zero_le _) (Nat.zero_le _) (fun rQ5 wQ5 Q5 => ?_)
        obtain ⟨hrQ5, hfQ5, hwQ5, hkQ5, hsQ5⟩ := Q5
        subst hrQ5
        obtain ⟨shQ5, IQ5, LQ5, RQ5⟩ := wQ5
        obtain rfl : sh = shQ5 := hwQ5.2.2.2.1.symm
        obtain rfl : R = RQ5 := hwQ5.2.2.2.2.1.symm
        have hkQ5 : ∀ q k, inm mdT q k = false → IQ5 q k = J q k := hkQ5
        refine XW.fam (S' := (41, [(2, .int c), (0, .ref 41), (1, .int ov)], [.ref 41], (sh, IQ5, LQ5, R))) (M := mr_104) rfl (show mcode 104 40 = some (40, .aload_n 0, 1, 0, 0, 0, _) from rfl) (Or.inl ⟨.ref 41, rfl, rfl⟩) ?_
        refine XW.fam (S' := (42, [(2, .int c), (0, .ref 41), (1, .int ov)], [.int 4, .ref 41], (sh, IQ5, LQ5, R))) (M := mr_104) rfl (show mcode 104 41 = some (41, .iconst 4, 1, 0, 0, 0, _) from rfl) (Or.inl ⟨.int 4, rfl, rfl⟩) ?_
        refine XW.fam (S' := (43, [(2, .int c), (0, .ref 41), (1, .int ov)], [.int 0, .int 4, .ref 41], (sh, IQ5, LQ5, R))) (M := mr_104) rfl (show mcode 104 42 = some (42, .iconst 0, 1, 0, 0, 0, _) from rfl) (Or.inl ⟨.int 0, rfl, rfl⟩) ?_
        refine XW.call (d' := d) (mc' := 0) (ms' := 0) (av := [.ref 41, .int 4, .int 0]) (rest := []) (M := mr_104) (Ma := mr_107) rfl (show mcode 104 43 = some (43, .invokevirtual 108, 3, 107, 0, 0, _) from rfl) rfl (by decide) (by decide) ⟨rfl, 41, _, rfl, c41⟩ rfl rfl (show 0 ≤ 8 by decide) (tc_wrQ (d := d) (show QW sh R J K S N (gPx K f 5 o (j + 1)) (sh, IQ5, LQ5, R) from ⟨hfQ5, hwQ5, hkQ5, hsQ5⟩)) (by omega) (Nat.zero_le _) (Nat.zero_le _) (fun rQ6 wQ6 Q6 => ?_)
        obtain ⟨hrQ6, hfQ6, hwQ6, hkQ6, hsQ6⟩ := Q6
        subst hrQ6
        obtain ⟨shQ6, IQ6, LQ6, RQ6⟩ := wQ6
        obtain rfl : sh = shQ6 := hwQ6.2.2.2.1.symm
        obtain rfl : R = RQ6 := hwQ6.2.2.2.2.1.symm
        have hkQ6 : ∀ q k, inm mdT q k = false → IQ6 q k = J q k := hkQ6
        refine XW.fam (S' := (49, [(2, .int (c + Int32.ofInt 1)), (0, .ref 41), (1, .int ov)], [], (sh, IQ6, LQ6, R))) (M := mr_104) rfl (show mcode 104 46 = some (46, .iinc 2 1, 3, 0, 0, 0, _) from rfl) (Or.inr (Or.inr (Or.inr (Or.inr (Or.inr (Or.inr (Or.inr (Or.inr (Or.inr ⟨2, 1, c, rfl, rfl, by decide, rfl⟩))))))))) ?_
        refine XW.fam (S' := (7, [(2, .int (c + Int32.ofInt 1)), (0, .ref 41), (1, .int ov)], [], (sh, IQ6, LQ6, R))) (M := mr_104) rfl (show mcode 104 49 = some (49, .goto (-42), 3, 7, 0, 0, _) from rfl) (Or.inr (Or.inl ⟨7, [], rfl, rfl⟩)) ?_
        have hgo := (gPx_ok hN f o (j + 1) (by have := lt_N hN hle (by omega); omega)).1 5 (by omega)
        have eo := incO (m := c) (by omega) (by omega)
        refine XW.sub (ls' := [(2, .int (c + Int32.ofInt 1)), (0, .ref 41), (1, .int ov)]) (List.forall_mem_cons.mpr ⟨List.mem_of_getElem? (i := 0) rfl, (List.forall_mem_cons.mpr ⟨List.mem_of_getElem? (i := 1) rfl, (List.forall_mem_cons.mpr ⟨List.mem_of_getElem? (i := 2) rfl, (fun _ h => absurd h List.not_mem_nil)⟩)⟩)⟩) ?_
        have eg : (gPx K (f + 1) 6 o j) = gB (gPx K f 5 o (j + 1)) (gPx K f 6 o) := by
          rw [gPx_6]
          unfold gLp
          exact if_pos (decide_eq_true (show K j = 262 by omega))
        rw [eg]
        cases e : (gPx K f 5 o (j + 1)).1 with
        | true =>
          rw [gB_t e]
          have g1 := hgo.1
          have g2 := hgo.2.2 e rfl
          exact ih (c + Int32.ofInt 1) _ (fun f2 h2 => H0 f2 (by omega)) hwQ6 hfQ6 hkQ6 (hsQ6.1 e) (by omega) (by have := hgo.2.1; omega)
        | false =>
          rw [gB_f e]
          exact all_out hwQ6 (by have h8 := hsQ6.2 e; have h9 : (IQ6 41 8).toInt = _ := h8; omega) ⟨rfl, hfQ6, hwQ6, hkQ6, hsQ6⟩
theorem all_of {d f : Nat} {sh : List mE} {J : Nat → Nat → Int32} {R : Nat → Nat → Option Nat} {K : Nat → Int} {S : Nat → Nat} {N : Nat} (hT : tvC J K S N) (H0 : ∀ f2, f2 < f + 1 → CTx sh R J K S N d 105 4 5 f2) : CTx sh R J K S N d 104 5 7 (f + 1) := by
  intro o i ov I L hov ho hw hf hk hst hmu
  obtain ⟨⟨hN5, hN2⟩, hN, hTk⟩ := id hT
  have c41 : sh[41]? = some (.inr 5) := hw.1 41 _ rfl
  have z0 : (0 : Int32).toInt = 0 := rfl
  refine Tc.of mr_104 rfl (show 2 ≤ mr_104.2.2.2.1 by decide) ?_
  refine XW.fam (S' := (1, [(0, .ref 41), (1, .int ov)], [.ref 41], (sh, I, L, R))) (M := mr_104) rfl (show mcode 104 0 = some (0, .aload_n 0, 1, 0, 0, 0, _) from rfl) (Or.inl ⟨.ref 41, rfl, rfl⟩) ?_
  refine XW.fam (S' := (2, [(0, .ref 41), (1, .int ov)], [.int ov, .ref 41], (sh, I, L, R))) (M := mr_104) rfl (show mcode 104 1 = some (1, .iload_n 1, 1, 0, 0, 0, _) from rfl) (Or.inl ⟨.int ov, rfl, rfl⟩) ?_
  refine XW.call (d' := (d + 2 + (6 * (8 - o) + 4))) (mc' := 0) (ms' := 0) (av := [.ref 41, .int ov]) (rest := []) (M := mr_104) (Ma := mr_105) rfl (show mcode 104 2 = some (2, .invokevirtual 115, 3, 105, 0, 0, _) from rfl) rfl (by decide) (by decide) ⟨rfl, 41, _, rfl, c41⟩ rfl rfl (show 0 ≤ 8 by decide) (H0 f (by omega) o i ov hov ho hw hf hk hst (by omega)) (by omega) (Nat.zero_le _) (Nat.zero_le _) (fun rQ1 wQ1 Q1 => ?_)
  obtain ⟨hrQ1, hfQ1, hwQ1, hkQ1, hsQ1⟩ := Q1
  subst hrQ1
  obtain ⟨shQ1, IQ1, LQ1, RQ1⟩ := wQ1
  obtain rfl : sh = shQ1 := hwQ1.2.2.2.1.symm
  obtain rfl : R = RQ1 := hwQ1.2.2.2.2.1.symm
  have hkQ1 : ∀ q k, inm mdT q k = false → IQ1 q k = J q k := hkQ1
  refine XW.fam (S' := (6, [(0, .ref 41), (1, .int ov)], [.int 0], (sh, IQ1, LQ1, R))) (M := mr_104) rfl (show mcode 104 5 = some (5, .iconst 0, 1, 0, 0, 0, _) from rfl) (Or.inl ⟨.int 0, rfl, rfl⟩) ?_
  refine XW.fam (S' := (7, [(2, .int 0), (0, .ref 41), (1, .int ov)], [], (sh, IQ1, LQ1, R))) (M := mr_104) rfl (show mcode 104 6 = some (6, .istore_n 2, 1, 0, 0, 0, _) from rfl) (Or.inr (Or.inr (Or.inr (Or.inr (Or.inr (Or.inr (Or.inl ⟨_, [], _, rfl, rfl, rfl⟩))))))) ?_
  refine XW.sub (ls' := [(2, .int 0), (0, .ref 41), (1, .int ov)]) (List.forall_mem_cons.mpr ⟨List.mem_of_getElem? (i := 0) rfl, (List.forall_mem_cons.mpr ⟨List.mem_of_getElem? (i := 1) rfl, (List.forall_mem_cons.mpr ⟨List.mem_of_getElem? (i := 2) rfl, (fun _ h => absurd h List.not_mem_nil)⟩)⟩)⟩) ?_
  have hgo := (gPx_ok hN f o i hst.2.2.2).1 5 (by omega)
  rw [gPx_7]
  cases e : (gPx K f 5 o i).1 with
  | true =>
    rw [gB_t e]
    have g2 := hgo.2.2 e rfl
    exact all_lp hT hov ho f 0 _ (fun f2 h2 => H0 f2 (by omega)) hwQ1 hfQ1 hkQ1 (hsQ1.1 e) ⟨by decide, by have z0 : (0 : Int32).toInt = 0 := rfl; omega⟩ (by have := hgo.2.1; omega)
  | false =>
    rw [gB_f e]
    exact all_out hwQ1 (by have h8 := hsQ1.2 e; have h9 : (IQ1 41 8).toInt = _ := h8; omega) ⟨rfl, hfQ1, hwQ1, hkQ1, hsQ1⟩
theorem any_out {d : Nat} {sh : List mE} {I : Nat → Nat → Int32} {L : Nat → Nat → Int64} {R : Nat → Nat → Option Nat} {ov c : Int32} {Q : Option Value → mW → Prop} (hw : wOK (mkT vV []) (wE sh R) (sh, I, L, R)) (h8 : 0 ≤ (I 41 8).toInt) (hQ : Q none (sh, I, L, R)) : XW 103 mr_103 none d 0 0 Q (7, [(2, .int c), (0, .ref 41), (1, .int ov)], [], (sh, I, L, R)) := by
  have c41 : sh[41]? = some (.inr 5) := hw.1 41 _ rfl
  have z0 : (0 : Int32).toInt = 0 := rfl
  have z240 : (240 : Int32).toInt = 240 := rfl
  refine XW.fam (S' := (8, [(2, .int c), (0, .ref 41), (1, .int ov)], [.int c], (sh, I, L, R))) (M := mr_103) rfl (show mcode 103 7 = some (7, .iload_n 2, 1, 0, 0, 0, _) from rfl) (Or.inl ⟨.int c, rfl, rfl⟩) ?_
  refine XW.fam (S' := (11, [(2, .int c), (0, .ref 41), (1, .int ov)], [.int 240, .int c], (sh, I, L, R))) (M := mr_103) rfl (show mcode 103 8 = some (8, .sipush 240, 3, 0, 0, 0, _) from rfl) (Or.inl ⟨.int 240, rfl, rfl⟩) ?_
  cases k1 : bcmp .ge c 240 with
  | true =>
    have gk1 : 240 ≤ (c).toInt := icT (c := .ge) (a := (c).toInt) (b := 240) rfl (by decide) k1
    refine XW.fam (S' := (52, [(2, .int c), (0, .ref 41), (1, .int ov)], [], (sh, I, L, R))) (M := mr_103) rfl (show mcode 103 11 = some (11, .if_icmp .ge 41, 3, 52, 0, 0, _) from rfl) (Or.inr (Or.inl ⟨52, [], by simp [brn, k1], rfl⟩)) ?_
    refine XW.ret (r := none) ⟨rfl, by decide +kernel⟩ ?_
    exact hQ
  | false =>
    have gk1 : ¬ (240 ≤ (c).toInt) := icF (c := .ge) (a := (c).toInt) (b := 240) rfl (by decide) k1
    refine XW.fam (S' := (14, [(2, .int c), (0, .ref 41), (1, .int ov)], [], (sh, I, L, R))) (M := mr_103) rfl (show mcode 103 11 = some (11, .if_icmp .ge 41, 3, 52, 0, 0, _) from rfl) (Or.inr (Or.inl ⟨14, [], by simp [brn, k1], rfl⟩)) ?_
    refine XW.fam (S' := (15, [(2, .int c), (0, .ref 41), (1, .int ov)], [.ref 41], (sh, I, L, R))) (M := mr_103) rfl (show mcode 103 14 = some (14, .aload_n 0, 1, 0, 0, 0, _) from rfl) (Or.inl ⟨.ref 41, rfl, rfl⟩) ?_
    refine XW.fam (S' := (18, [(2, .int c), (0, .ref 41), (1, .int ov)], [.int (I 41 8)], (sh, I, L, R))) (M := mr_103) rfl (show mcode 103 15 = some (15, .getfield 44, 3, 5, 8, 0, _) from rfl) (Or.inr (Or.inr (Or.inr (Or.inr (Or.inr (Or.inr (Or.inr (Or.inl ⟨_, _, rfl, fl_ldI c41 (by decide) (by decide), rfl⟩)))))))) ?_
    have k2 : bcmp .ge (I 41 8) 0 = true := bcT (c := .ge) (a := ((I 41 8)).toInt) (b := 0) rfl (by decide) (by show 0 ≤ ((I 41 8)).toInt; omega)
    refine XW.fam (S' := (52, [(2, .int c), (0, .ref 41), (1, .int ov)], [], (sh, I, L, R))) (M := mr_103) rfl (show mcode 103 18 = some (18, .ifCond .ge 34, 3, 52, 0, 0, _) from rfl) (Or.inr (Or.inl ⟨52, [], by simp [brn, k2], rfl⟩)) ?_
    refine XW.ret (r := none) ⟨rfl, by decide +kernel⟩ ?_
    exact hQ
theorem any_lp {d o : Nat} {sh : List mE} {J : Nat → Nat → Int32} {R : Nat → Nat → Option Nat} {K : Nat → Int} {S : Nat → Nat} {N : Nat} {ov : Int32} (hT : tvC J K S N) (hov : ov.toInt = (o : Int)) (ho : o ≤ 8) : ∀ (f : Nat) {I : Nat → Nat → Int32} {L : Nat → Nat → Int64} (c : Int32) (j : Nat), (∀ f2, f2 < f → CTx sh R J K S N d 104 5 7 f2) → wOK (mkT vV []) (wE sh R) (sh, I, L, R) → fresh (sh, I, L, R) → (∀ q k, inm mdT q k = false → I q k = J q k) → stt K N I j → (0 ≤ c.toInt ∧ c.toInt ≤ (j : Int)) → 10 * (N - j) + (8 + 1) ≤ f → XW 103 mr_103 none (d + 2 + (6 * (8 - o) + 6)) 0 0 (QT sh R J K S N (gPx K f 8 o j)) (7, [(2, .int c), (0, .ref 41), (1, .int ov)], [], (sh, I, L, R)) := by
  obtain ⟨⟨hN5, hN2⟩, hN, hTk⟩ := id hT
  have z0 : (0 : Int32).toInt = 0 := rfl
  have z3 : (3 : Int32).toInt = 3 := rfl
  have z240 : (240 : Int32).toInt = 240 := rfl
  have z261 : (261 : Int32).toInt = 261 := rfl
  intro f
  induction f with
  | zero =>
    intro I L c j H0 hw hf hk hst hc hmu
    exfalso
    omega
  | succ f ih =>
    intro I L c j H0 hw hf hk hst hc hmu
    have c41 : sh[41]? = some (.inr 5) := hw.1 41 _ rfl
    obtain ⟨a, ea⟩ : ∃ z : Int32, I 41 6 = z := ⟨_, rfl⟩
    have ha : a.toInt = (j : Int) := by rw [← ea]; exact hst.1
    obtain ⟨tk, etk⟩ : ∃ z : Int32, I 41 7 = z := ⟨_, rfl⟩
    have htk : tk.toInt = K j := by rw [← etk]; exact hst.2.1
    obtain ⟨fl, efl⟩ : ∃ z : Int32, I 41 8 = z := ⟨_, rfl⟩
    have hfl : fl.toInt = -1 := by rw [← efl]; exact hst.2.2.1
    have hle : j ≤ N := hst.2.2.2
    have hlt : ¬ K j = 302 → j < N := lt_N hN hle
    have hjN : j = N → K j = 302 := fun e => by rw [e]; exact hN
    refine XW.fam (S' := (8, [(2, .int c), (0, .ref 41), (1, .int ov)], [.int c], (sh, I, L, R))) (M := mr_103) rfl (show mcode 103 7 = some (7, .iload_n 2, 1, 0, 0, 0, _) from rfl) (Or.inl ⟨.int c, rfl, rfl⟩) ?_
    refine XW.fam (S' := (11, [(2, .int c), (0, .ref 41), (1, .int ov)], [.int 240, .int c], (sh, I, L, R))) (M := mr_103) rfl (show mcode 103 8 = some (8, .sipush 240, 3, 0, 0, 0, _) from rfl) (Or.inl ⟨.int 240, rfl, rfl⟩) ?_
    cases k1 : bcmp .ge c 240 with
    | true =>
      have gk1 : 240 ≤ (c).toInt := icT (c := .ge) (a := (c).toInt) (b := 240) rfl (by decide) k1
      refine XW.fam (S' := (52, [(2, .int c), (0, .ref 41), (1, .int ov)], [], (sh, I, L, R))) (M := mr_103) rfl (show mcode 103 11 = some (11, .if_icmp .ge 41, 3, 52, 0, 0, _) from rfl) (Or.inr (Or.inl ⟨52, [], by simp [brn, k1], rfl⟩)) ?_
      refine XW.ret (r := none) ⟨rfl, by decide +kernel⟩ ?_
      rw [gPx_8]
      unfold gLp
      rw [if_neg (fun q => by have q1 := of_decide_eq_true q; have q2 : K j = 261 := q1; omega)]
      exact ⟨rfl, hf, hw, hk, rsC_t hst⟩
    | false =>
      have gk1 : ¬ (240 ≤ (c).toInt) := icF (c := .ge) (a := (c).toInt) (b := 240) rfl (by decide) k1
      refine XW.fam (S' := (14, [(2, .int c), (0, .ref 41), (1, .int ov)], [], (sh, I, L, R))) (M := mr_103) rfl (show mcode 103 11 = some (11, .if_icmp .ge 41, 3, 52, 0, 0, _) from rfl) (Or.inr (Or.inl ⟨14, [], by simp [brn, k1], rfl⟩)) ?_
      refine XW.fam (S' := (15, [(2, .int c), (0, .ref 41), (1, .int ov)], [.ref 41], (sh, I, L, R))) (M := mr_103) rfl (show mcode 103 14 = some (14, .aload_n 0, 1, 0, 0, 0, _) from rfl) (Or.inl ⟨.ref 41, rfl, rfl⟩) ?_
      refine XW.fam (S' := (18, [(2, .int c), (0, .ref 41), (1, .int ov)], [.int (I 41 8)], (sh, I, L, R))) (M := mr_103) rfl (show mcode 103 15 = some (15, .getfield 44, 3, 5, 8, 0, _) from rfl) (Or.inr (Or.inr (Or.inr (Or.inr (Or.inr (Or.inr (Or.inr (Or.inl ⟨_, _, rfl, fl_ldI c41 (by decide) (by decide), rfl⟩)))))))) ?_
      rw [efl]
      have k2 : bcmp .ge fl 0 = false := bcF (c := .ge) (a := (fl).toInt) (b := 0) rfl (by decide) (by show ¬ (0 ≤ (fl).toInt); omega)
      refine XW.fam (S' := (21, [(2, .int c), (0, .ref 41), (1, .int ov)], [], (sh, I, L, R))) (M := mr_103) rfl (show mcode 103 18 = some (18, .ifCond .ge 34, 3, 52, 0, 0, _) from rfl) (Or.inr (Or.inl ⟨21, [], by simp [brn, k2], rfl⟩)) ?_
      refine XW.fam (S' := (22, [(2, .int c), (0, .ref 41), (1, .int ov)], [.ref 41], (sh, I, L, R))) (M := mr_103) rfl (show mcode 103 21 = some (21, .aload_n 0, 1, 0, 0, 0, _) from rfl) (Or.inl ⟨.ref 41, rfl, rfl⟩) ?_
      refine XW.fam (S' := (25, [(2, .int c), (0, .ref 41), (1, .int ov)], [.int (I 41 7)], (sh, I, L, R))) (M := mr_103) rfl (show mcode 103 22 = some (22, .getfield 38, 3, 5, 7, 0, _) from rfl) (Or.inr (Or.inr (Or.inr (Or.inr (Or.inr (Or.inr (Or.inr (Or.inl ⟨_, _, rfl, fl_ldI c41 (by decide) (by decide), rfl⟩)))))))) ?_
      rw [etk]
      refine XW.fam (S' := (28, [(2, .int c), (0, .ref 41), (1, .int ov)], [.int 261, .int tk], (sh, I, L, R))) (M := mr_103) rfl (show mcode 103 25 = some (25, .sipush 261, 3, 0, 0, 0, _) from rfl) (Or.inl ⟨.int 261, rfl, rfl⟩) ?_
      cases k3 : bcmp .ne tk 261 with
      | true =>
        have gk3 : ¬ (tk).toInt = 261 := icT (c := .ne) (a := (tk).toInt) (b := 261) rfl (by decide) k3
        refine XW.fam (S' := (52, [(2, .int c), (0, .ref 41), (1, .int ov)], [], (sh, I, L, R))) (M := mr_103) rfl (show mcode 103 28 = some (28, .if_icmp .ne 24, 3, 52, 0, 0, _) from rfl) (Or.inr (Or.inl ⟨52, [], by simp [brn, k3], rfl⟩)) ?_
        refine XW.ret (r := none) ⟨rfl, by decide +kernel⟩ ?_
        rw [gPx_8]
        unfold gLp
        rw [if_neg (fun q => by have q1 := of_decide_eq_true q; have q2 : K j = 261 := q1; omega)]
        exact ⟨rfl, hf, hw, hk, rsC_t hst⟩
      | false =>
        have gk3 : ¬ (¬ (tk).toInt = 261) := icF (c := .ne) (a := (tk).toInt) (b := 261) rfl (by decide) k3
        refine XW.fam (S' := (31, [(2, .int c), (0, .ref 41), (1, .int ov)], [], (sh, I, L, R))) (M := mr_103) rfl (show mcode 103 28 = some (28, .if_icmp .ne 24, 3, 52, 0, 0, _) from rfl) (Or.inr (Or.inl ⟨31, [], by simp [brn, k3], rfl⟩)) ?_
        refine XW.fam (S' := (32, [(2, .int c), (0, .ref 41), (1, .int ov)], [.ref 41], (sh, I, L, R))) (M := mr_103) rfl (show mcode 103 31 = some (31, .aload_n 0, 1, 0, 0, 0, _) from rfl) (Or.inl ⟨.ref 41, rfl, rfl⟩) ?_
        refine XW.call (d' := d) (mc' := 0) (ms' := 0) (av := [.ref 41]) (rest := []) (M := mr_103) (Ma := mr_102) rfl (show mcode 103 32 = some (32, .invokevirtual 50, 3, 102, 0, 0, _) from rfl) rfl (by decide) (by decide) ⟨rfl, 41, _, rfl, c41⟩ rfl rfl (show 0 ≤ 8 by decide) (tc_adv (d := d) hT hw hf hk hst (lt_N hN hle (by omega))) (by omega) (Nat.zero_le _) (Nat.zero_le _) (fun rQ4 wQ4 Q4 => ?_)
        obtain ⟨hrQ4, hfQ4, hwQ4, hkQ4, hsQ4⟩ := Q4
        subst hrQ4
        obtain ⟨shQ4, IQ4, LQ4, RQ4⟩ := wQ4
        obtain rfl : sh = shQ4 := hwQ4.2.2.2.1.symm
        obtain rfl : R = RQ4 := hwQ4.2.2.2.2.1.symm
        have hkQ4 : ∀ q k, inm mdT q k = false → IQ4 q k = J q k := hkQ4
        refine XW.fam (S' := (36, [(2, .int c), (0, .ref 41), (1, .int ov)], [.ref 41], (sh, IQ4, LQ4, R))) (M := mr_103) rfl (show mcode 103 35 = some (35, .aload_n 0, 1, 0, 0, 0, _) from rfl) (Or.inl ⟨.ref 41, rfl, rfl⟩) ?_
        refine XW.fam (S' := (37, [(2, .int c), (0, .ref 41), (1, .int ov)], [.int ov, .ref 41], (sh, IQ4, LQ4, R))) (M := mr_103) rfl (show mcode 103 36 = some (36, .iload_n 1, 1, 0, 0, 0, _) from rfl) (Or.inl ⟨.int ov, rfl, rfl⟩) ?_
        refine XW.call (d' := (d + 2 + (6 * (8 - o) + 5))) (mc' := 0) (ms' := 0) (av := [.ref 41, .int ov]) (rest := []) (M := mr_103) (Ma := mr_104) rfl (show mcode 103 37 = some (37, .invokevirtual 112, 3, 104, 0, 0, _) from rfl) rfl (by decide) (by decide) ⟨rfl, 41, _, rfl, c41⟩ rfl rfl (show 0 ≤ 8 by decide) (H0 f (by omega) o (j + 1) ov hov ho hwQ4 hfQ4 hkQ4 (hsQ4.1 rfl) (by have := lt_N hN hle (by omega); omega)) (by omega) (Nat.zero_le _) (Nat.zero_le _) (fun rQ5 wQ5 Q5 => ?_)
        obtain ⟨hrQ5, hfQ5, hwQ5, hkQ5, hsQ5⟩ := Q5
        subst hrQ5
        obtain ⟨shQ5, IQ5, LQ5, RQ5⟩ := wQ5
        obtain rfl : sh = shQ5 := hwQ5.2.2.2.1.symm
        obtain rfl : R = RQ5 := hwQ5.2.2.2.2.1.symm
        have hkQ5 : ∀ q k, inm mdT q k = false → IQ5 q k = J q k := hkQ5
        refine XW.fam (S' := (41, [(2, .int c), (0, .ref 41), (1, .int ov)], [.ref 41], (sh, IQ5, LQ5, R))) (M := mr_103) rfl (show mcode 103 40 = some (40, .aload_n 0, 1, 0, 0, 0, _) from rfl) (Or.inl ⟨.ref 41, rfl, rfl⟩) ?_
        refine XW.fam (S' := (42, [(2, .int c), (0, .ref 41), (1, .int ov)], [.int 3, .ref 41], (sh, IQ5, LQ5, R))) (M := mr_103) rfl (show mcode 103 41 = some (41, .iconst 3, 1, 0, 0, 0, _) from rfl) (Or.inl ⟨.int 3, rfl, rfl⟩) ?_
        refine XW.fam (S' := (43, [(2, .int c), (0, .ref 41), (1, .int ov)], [.int 0, .int 3, .ref 41], (sh, IQ5, LQ5, R))) (M := mr_103) rfl (show mcode 103 42 = some (42, .iconst 0, 1, 0, 0, 0, _) from rfl) (Or.inl ⟨.int 0, rfl, rfl⟩) ?_
        refine XW.call (d' := d) (mc' := 0) (ms' := 0) (av := [.ref 41, .int 3, .int 0]) (rest := []) (M := mr_103) (Ma := mr_107) rfl (show mcode 103 43 = some (43, .invokevirtual 108, 3, 107, 0, 0, _) from rfl) rfl (by decide) (by decide) ⟨rfl, 41, _, rfl, c41⟩ rfl rfl (show 0 ≤ 8 by decide) (tc_wrQ (d := d) (show QW sh R J K S N (gPx K f 7 o (j + 1)) (sh, IQ5, LQ5, R) from ⟨hfQ5, hwQ5, hkQ5, hsQ5⟩)) (by omega) (Nat.zero_le _) (Nat.zero_le _) (fun rQ6 wQ6 Q6 => ?_)
        obtain ⟨hrQ6, hfQ6, hwQ6, hkQ6, hsQ6⟩ := Q6
        subst hrQ6
        obtain ⟨shQ6, IQ6, LQ6, RQ6⟩ := wQ6
        obtain rfl : sh = shQ6 := hwQ6.2.2.2.1.symm
        obtain rfl : R = RQ6 := hwQ6.2.2.2.2.1.symm
        have hkQ6 : ∀ q k, inm mdT q k = false → IQ6 q k = J q k := hkQ6
        refine XW.fam (S' := (49, [(2, .int (c + Int32.ofInt 1)), (0, .ref 41), (1, .int ov)], [], (sh, IQ6, LQ6, R))) (M := mr_103) rfl (show mcode 103 46 = some (46, .iinc 2 1, 3, 0, 0, 0, _) from rfl) (Or.inr (Or.inr (Or.inr (Or.inr (Or.inr (Or.inr (Or.inr (Or.inr (Or.inr ⟨2, 1, c, rfl, rfl, by decide, rfl⟩))))))))) ?_
        refine XW.fam (S' := (7, [(2, .int (c + Int32.ofInt 1)), (0, .ref 41), (1, .int ov)], [], (sh, IQ6, LQ6, R))) (M := mr_103) rfl (show mcode 103 49 = some (49, .goto (-42), 3, 7, 0, 0, _) from rfl) (Or.inr (Or.inl ⟨7, [], rfl, rfl⟩)) ?_
        have hgo := (gPx_ok hN f o (j + 1) (by have := lt_N hN hle (by omega); omega)).1 7 (by omega)
        have eo := incO (m := c) (by omega) (by omega)
        refine XW.sub (ls' := [(2, .int (c + Int32.ofInt 1)), (0, .ref 41), (1, .int ov)]) (List.forall_mem_cons.mpr ⟨List.mem_of_getElem? (i := 0) rfl, (List.forall_mem_cons.mpr ⟨List.mem_of_getElem? (i := 1) rfl, (List.forall_mem_cons.mpr ⟨List.mem_of_getElem? (i := 2) rfl, (fun _ h => absurd h List.not_mem_nil)⟩)⟩)⟩) ?_
        have eg : (gPx K (f + 1) 8 o j) = gB (gPx K f 7 o (j + 1)) (gPx K f 8 o) := by
          rw [gPx_8]
          unfold gLp
          exact if_pos (decide_eq_true (show K j = 261 by omega))
        rw [eg]
        cases e : (gPx K f 7 o (j + 1)).1 with
        | true =>
          rw [gB_t e]
          have g1 := hgo.1
          have g2 := hgo.2.2 e rfl
          exact ih (c + Int32.ofInt 1) _ (fun f2 h2 => H0 f2 (by omega)) hwQ6 hfQ6 hkQ6 (hsQ6.1 e) (by omega) (by have := hgo.2.1; omega)
        | false =>
          rw [gB_f e]
          exact any_out hwQ6 (by have h8 := hsQ6.2 e; have h9 : (IQ6 41 8).toInt = _ := h8; omega) ⟨rfl, hfQ6, hwQ6, hkQ6, hsQ6⟩
theorem any_of {d f : Nat} {sh : List mE} {J : Nat → Nat → Int32} {R : Nat → Nat → Option Nat} {K : Nat → Int} {S : Nat → Nat} {N : Nat} (hT : tvC J K S N) (H0 : ∀ f2, f2 < f + 1 → CTx sh R J K S N d 104 5 7 f2) : CTx sh R J K S N d 103 6 9 (f + 1) := by
  intro o i ov I L hov ho hw hf hk hst hmu
  obtain ⟨⟨hN5, hN2⟩, hN, hTk⟩ := id hT
  have c41 : sh[41]? = some (.inr 5) := hw.1 41 _ rfl
  have z0 : (0 : Int32).toInt = 0 := rfl
  refine Tc.of mr_103 rfl (show 2 ≤ mr_103.2.2.2.1 by decide) ?_
  refine XW.fam (S' := (1, [(0, .ref 41), (1, .int ov)], [.ref 41], (sh, I, L, R))) (M := mr_103) rfl (show mcode 103 0 = some (0, .aload_n 0, 1, 0, 0, 0, _) from rfl) (Or.inl ⟨.ref 41, rfl, rfl⟩) ?_
  refine XW.fam (S' := (2, [(0, .ref 41), (1, .int ov)], [.int ov, .ref 41], (sh, I, L, R))) (M := mr_103) rfl (show mcode 103 1 = some (1, .iload_n 1, 1, 0, 0, 0, _) from rfl) (Or.inl ⟨.int ov, rfl, rfl⟩) ?_
  refine XW.call (d' := (d + 2 + (6 * (8 - o) + 5))) (mc' := 0) (ms' := 0) (av := [.ref 41, .int ov]) (rest := []) (M := mr_103) (Ma := mr_104) rfl (show mcode 103 2 = some (2, .invokevirtual 112, 3, 104, 0, 0, _) from rfl) rfl (by decide) (by decide) ⟨rfl, 41, _, rfl, c41⟩ rfl rfl (show 0 ≤ 8 by decide) (H0 f (by omega) o i ov hov ho hw hf hk hst (by omega)) (by omega) (Nat.zero_le _) (Nat.zero_le _) (fun rQ1 wQ1 Q1 => ?_)
  obtain ⟨hrQ1, hfQ1, hwQ1, hkQ1, hsQ1⟩ := Q1
  subst hrQ1
  obtain ⟨shQ1, IQ1, LQ1, RQ1⟩ := wQ1
  obtain rfl : sh = shQ1 := hwQ1.2.2.2.1.symm
  obtain rfl : R = RQ1 := hwQ1.2.2.2.2.1.symm
  have hkQ1 : ∀ q k, inm mdT q k = false → IQ1 q k = J q k := hkQ1
  refine XW.fam (S' := (6, [(0, .ref 41), (1, .int ov)], [.int 0], (sh, IQ1, LQ1, R))) (M := mr_103) rfl (show mcode 103 5 = some (5, .iconst 0, 1, 0, 0, 0, _) from rfl) (Or.inl ⟨.int 0, rfl, rfl⟩) ?_
  refine XW.fam (S' := (7, [(2, .int 0), (0, .ref 41), (1, .int ov)], [], (sh, IQ1, LQ1, R))) (M := mr_103) rfl (show mcode 103 6 = some (6, .istore_n 2, 1, 0, 0, 0, _) from rfl) (Or.inr (Or.inr (Or.inr (Or.inr (Or.inr (Or.inr (Or.inl ⟨_, [], _, rfl, rfl, rfl⟩))))))) ?_
  refine XW.sub (ls' := [(2, .int 0), (0, .ref 41), (1, .int ov)]) (List.forall_mem_cons.mpr ⟨List.mem_of_getElem? (i := 0) rfl, (List.forall_mem_cons.mpr ⟨List.mem_of_getElem? (i := 1) rfl, (List.forall_mem_cons.mpr ⟨List.mem_of_getElem? (i := 2) rfl, (fun _ h => absurd h List.not_mem_nil)⟩)⟩)⟩) ?_
  have hgo := (gPx_ok hN f o i hst.2.2.2).1 7 (by omega)
  rw [gPx_9]
  cases e : (gPx K f 7 o i).1 with
  | true =>
    rw [gB_t e]
    have g2 := hgo.2.2 e rfl
    exact any_lp hT hov ho f 0 _ (fun f2 h2 => H0 f2 (by omega)) hwQ1 hfQ1 hkQ1 (hsQ1.1 e) ⟨by decide, by have z0 : (0 : Int32).toInt = 0 := rfl; omega⟩ (by have := hgo.2.1; omega)
  | false =>
    rw [gB_f e]
    exact any_out hwQ1 (by have h8 := hsQ1.2 e; have h9 : (IQ1 41 8).toInt = _ := h8; omega) ⟨rfl, hfQ1, hwQ1, hkQ1, hsQ1⟩
theorem tst_of {d f : Nat} {sh : List mE} {J : Nat → Nat → Int32} {R : Nat → Nat → Option Nat} {K : Nat → Int} {S : Nat → Nat} {N : Nat} (hT : tvC J K S N) (Ht : CTx sh R J K S N d 105 4 5 f) (Ha : CTx sh R J K S N d 103 6 9 f) (Hs : CTx sh R J K S N d 109 3 4 f) : CTx sh R J K S N d 105 4 5 (f + 1) := by
  intro o i ov I L hov ho hw hf hk hst hmu
  obtain ⟨⟨hN5, hN2⟩, hN, hTk⟩ := id hT
  have c41 : sh[41]? = some (.inr 5) := hw.1 41 _ rfl
  have z0 : (0 : Int32).toInt = 0 := rfl
  have z1 : (1 : Int32).toInt = 1 := rfl
  have z2 : (2 : Int32).toInt = 2 := rfl
  have z5 : (5 : Int32).toInt = 5 := rfl
  have z60 : (60 : Int32).toInt = 60 := rfl
  have z61 : (61 : Int32).toInt = 61 := rfl
  have z62 : (62 : Int32).toInt = 62 := rfl
  have z91 : (91 : Int32).toInt = 91 := rfl
  have z93 : (93 : Int32).toInt = 93 := rfl
  have z263 : (263 : Int32).toInt = 263 := rfl
  obtain ⟨a, ea⟩ : ∃ z : Int32, I 41 6 = z := ⟨_, rfl⟩
  have ha : a.toInt = (i : Int) := by rw [← ea]; exact hst.1
  obtain ⟨tk, etk⟩ : ∃ z : Int32, I 41 7 = z := ⟨_, rfl⟩
  have htk : tk.toInt = K i := by rw [← etk]; exact hst.2.1
  obtain ⟨fl, efl⟩ : ∃ z : Int32, I 41 8 = z := ⟨_, rfl⟩
  have hfl : fl.toInt = -1 := by rw [← efl]; exact hst.2.2.1
  have hle : i ≤ N := hst.2.2.2
  have hlt : ¬ K i = 302 → i < N := lt_N hN hle
  refine Tc.of mr_105 rfl (show 2 ≤ mr_105.2.2.2.1 by decide) ?_
  refine XW.fam (S' := (1, [(0, .ref 41), (1, .int ov)], [.ref 41], (sh, I, L, R))) (M := mr_105) rfl (show mcode 105 0 = some (0, .aload_n 0, 1, 0, 0, 0, _) from rfl) (Or.inl ⟨.ref 41, rfl, rfl⟩) ?_
  refine XW.fam (S' := (4, [(0, .ref 41), (1, .int ov)], [.int (I 41 8)], (sh, I, L, R))) (M := mr_105) rfl (show mcode 105 1 = some (1, .getfield 44, 3, 5, 8, 0, _) from rfl) (Or.inr (Or.inr (Or.inr (Or.inr (Or.inr (Or.inr (Or.inr (Or.inl ⟨_, _, rfl, fl_ldI c41 (by decide) (by decide), rfl⟩)))))))) ?_
  rw [efl]
  have k1 : bcmp .lt fl 0 = true := bcT (c := .lt) (a := (fl).toInt) (b := 0) rfl (by decide) (by show (fl).toInt < 0; omega)
  refine XW.fam (S' := (8, [(0, .ref 41), (1, .int ov)], [], (sh, I, L, R))) (M := mr_105) rfl (show mcode 105 4 = some (4, .ifCond .lt 4, 3, 8, 0, 0, _) from rfl) (Or.inr (Or.inl ⟨8, [], by simp [brn, k1], rfl⟩)) ?_
  refine XW.fam (S' := (9, [(0, .ref 41), (1, .int ov)], [.ref 41], (sh, I, L, R))) (M := mr_105) rfl (show mcode 105 8 = some (8, .aload_n 0, 1, 0, 0, 0, _) from rfl) (Or.inl ⟨.ref 41, rfl, rfl⟩) ?_
  refine XW.fam (S' := (12, [(0, .ref 41), (1, .int ov)], [.int (I 41 7)], (sh, I, L, R))) (M := mr_105) rfl (show mcode 105 9 = some (9, .getfield 38, 3, 5, 7, 0, _) from rfl) (Or.inr (Or.inr (Or.inr (Or.inr (Or.inr (Or.inr (Or.inr (Or.inl ⟨_, _, rfl, fl_ldI c41 (by decide) (by decide), rfl⟩)))))))) ?_
  rw [etk]
  refine XW.fam (S' := (15, [(0, .ref 41), (1, .int ov)], [.int 263, .int tk], (sh, I, L, R))) (M := mr_105) rfl (show mcode 105 12 = some (12, .sipush 263, 3, 0, 0, 0, _) from rfl) (Or.inl ⟨.int 263, rfl, rfl⟩) ?_
  cases k2 : bcmp .ne tk 263 with
  | true =>
    have gk2 : ¬ (tk).toInt = 263 := icT (c := .ne) (a := (tk).toInt) (b := 263) rfl (by decide) k2
    refine XW.fam (S' := (42, [(0, .ref 41), (1, .int ov)], [], (sh, I, L, R))) (M := mr_105) rfl (show mcode 105 15 = some (15, .if_icmp .ne 27, 3, 42, 0, 0, _) from rfl) (Or.inr (Or.inl ⟨42, [], by simp [brn, k2], rfl⟩)) ?_
    refine XW.fam (S' := (43, [(0, .ref 41), (1, .int ov)], [.ref 41], (sh, I, L, R))) (M := mr_105) rfl (show mcode 105 42 = some (42, .aload_n 0, 1, 0, 0, 0, _) from rfl) (Or.inl ⟨.ref 41, rfl, rfl⟩) ?_
    refine XW.fam (S' := (46, [(0, .ref 41), (1, .int ov)], [.int (I 41 7)], (sh, I, L, R))) (M := mr_105) rfl (show mcode 105 43 = some (43, .getfield 38, 3, 5, 7, 0, _) from rfl) (Or.inr (Or.inr (Or.inr (Or.inr (Or.inr (Or.inr (Or.inr (Or.inl ⟨_, _, rfl, fl_ldI c41 (by decide) (by decide), rfl⟩)))))))) ?_
    rw [etk]
    refine XW.fam (S' := (48, [(0, .ref 41), (1, .int ov)], [.int 91, .int tk], (sh, I, L, R))) (M := mr_105) rfl (show mcode 105 46 = some (46, .bipush 91, 2, 0, 0, 0, _) from rfl) (Or.inl ⟨.int 91, rfl, rfl⟩) ?_
    cases k3 : bcmp .ne tk 91 with
    | true =>
      have gk3 : ¬ (tk).toInt = 91 := icT (c := .ne) (a := (tk).toInt) (b := 91) rfl (by decide) k3
      refine XW.fam (S' := (75, [(0, .ref 41), (1, .int ov)], [], (sh, I, L, R))) (M := mr_105) rfl (show mcode 105 48 = some (48, .if_icmp .ne 27, 3, 75, 0, 0, _) from rfl) (Or.inr (Or.inl ⟨75, [], by simp [brn, k3], rfl⟩)) ?_
      refine XW.fam (S' := (76, [(0, .ref 41), (1, .int ov)], [.ref 41], (sh, I, L, R))) (M := mr_105) rfl (show mcode 105 75 = some (75, .aload_n 0, 1, 0, 0, 0, _) from rfl) (Or.inl ⟨.ref 41, rfl, rfl⟩) ?_
      refine XW.fam (S' := (77, [(0, .ref 41), (1, .int ov)], [.int ov, .ref 41], (sh, I, L, R))) (M := mr_105) rfl (show mcode 105 76 = some (76, .iload_n 1, 1, 0, 0, 0, _) from rfl) (Or.inl ⟨.int ov, rfl, rfl⟩) ?_
      refine XW.call (d' := (d + 2 + (6 * (8 - o) + 3))) (mc' := 0) (ms' := 0) (av := [.ref 41, .int ov]) (rest := []) (M := mr_105) (Ma := mr_109) rfl (show mcode 105 77 = some (77, .invokevirtual 105, 3, 109, 0, 0, _) from rfl) rfl (by decide) (by decide) ⟨rfl, 41, _, rfl, c41⟩ rfl rfl (show 0 ≤ 8 by decide) (Hs o i ov hov ho hw hf hk hst (by omega)) (by omega) (Nat.zero_le _) (Nat.zero_le _) (fun rQ4 wQ4 Q4 => ?_)
      obtain ⟨hrQ4, hfQ4, hwQ4, hkQ4, hsQ4⟩ := Q4
      subst hrQ4
      obtain ⟨shQ4, IQ4, LQ4, RQ4⟩ := wQ4
      obtain rfl : sh = shQ4 := hwQ4.2.2.2.1.symm
      obtain rfl : R = RQ4 := hwQ4.2.2.2.2.1.symm
      have hkQ4 : ∀ q k, inm mdT q k = false → IQ4 q k = J q k := hkQ4
      have hgo := (gPx_ok hN f o i hle).1 4 (by omega)
      cases e : (gPx K f 4 o i).1 with
      | true =>
        have hst2 := hsQ4.1 e
        obtain ⟨a2, ea2⟩ : ∃ z : Int32, IQ4 41 6 = z := ⟨_, rfl⟩
        have ha2 : a2.toInt = ((gPx K f 4 o i).2 : Int) := by rw [← ea2]; exact hst2.1
        obtain ⟨tk2, etk2⟩ : ∃ z : Int32, IQ4 41 7 = z := ⟨_, rfl⟩
        have htk2 : tk2.toInt = K (gPx K f 4 o i).2 := by rw [← etk2]; exact hst2.2.1
        obtain ⟨fl2, efl2⟩ : ∃ z : Int32, IQ4 41 8 = z := ⟨_, rfl⟩
        have hfl2 : fl2.toInt = -1 := by rw [← efl2]; exact hst2.2.2.1
        have hle2 : (gPx K f 4 o i).2 ≤ N := hst2.2.2.2
        have hlt2 : ¬ K (gPx K f 4 o i).2 = 302 → (gPx K f 4 o i).2 < N := lt_N hN hle2
        refine XW.fam (S' := (81, [(0, .ref 41), (1, .int ov)], [.ref 41], (sh, IQ4, LQ4, R))) (M := mr_105) rfl (show mcode 105 80 = some (80, .aload_n 0, 1, 0, 0, 0, _) from rfl) (Or.inl ⟨.ref 41, rfl, rfl⟩) ?_
        refine XW.fam (S' := (84, [(0, .ref 41), (1, .int ov)], [.int (IQ4 41 7)], (sh, IQ4, LQ4, R))) (M := mr_105) rfl (show mcode 105 81 = some (81, .getfield 38, 3, 5, 7, 0, _) from rfl) (Or.inr (Or.inr (Or.inr (Or.inr (Or.inr (Or.inr (Or.inr (Or.inl ⟨_, _, rfl, fl_ldI c41 (by decide) (by decide), rfl⟩)))))))) ?_
        rw [etk2]
        refine XW.fam (S' := (85, [(2, .int tk2), (0, .ref 41), (1, .int ov)], [], (sh, IQ4, LQ4, R))) (M := mr_105) rfl (show mcode 105 84 = some (84, .istore_n 2, 1, 0, 0, 0, _) from rfl) (Or.inr (Or.inr (Or.inr (Or.inr (Or.inr (Or.inr (Or.inl ⟨_, [], _, rfl, rfl, rfl⟩))))))) ?_
        refine XW.fam (S' := (86, [(2, .int tk2), (0, .ref 41), (1, .int ov)], [.int tk2], (sh, IQ4, LQ4, R))) (M := mr_105) rfl (show mcode 105 85 = some (85, .iload_n 2, 1, 0, 0, 0, _) from rfl) (Or.inl ⟨.int tk2, rfl, rfl⟩) ?_
        refine XW.fam (S' := (88, [(2, .int tk2), (0, .ref 41), (1, .int ov)], [.int 60, .int tk2], (sh, IQ4, LQ4, R))) (M := mr_105) rfl (show mcode 105 86 = some (86, .bipush 60, 2, 0, 0, 0, _) from rfl) (Or.inl ⟨.int 60, rfl, rfl⟩) ?_
        cases k5 : bcmp .eq tk2 60 with
        | true =>
          have gk5 : (tk2).toInt = 60 := icT (c := .eq) (a := (tk2).toInt) (b := 60) rfl (by decide) k5
          refine XW.fam (S' := (107, [(2, .int tk2), (0, .ref 41), (1, .int ov)], [], (sh, IQ4, LQ4, R))) (M := mr_105) rfl (show mcode 105 88 = some (88, .if_icmp .eq 19, 3, 107, 0, 0, _) from rfl) (Or.inr (Or.inl ⟨107, [], by simp [brn, k5], rfl⟩)) ?_
          refine XW.fam (S' := (108, [(2, .int tk2), (0, .ref 41), (1, .int ov)], [.ref 41], (sh, IQ4, LQ4, R))) (M := mr_105) rfl (show mcode 105 107 = some (107, .aload_n 0, 1, 0, 0, 0, _) from rfl) (Or.inl ⟨.ref 41, rfl, rfl⟩) ?_
          refine XW.fam (S' := (111, [(2, .int tk2), (0, .ref 41), (1, .int ov)], [.int (IQ4 41 8)], (sh, IQ4, LQ4, R))) (M := mr_105) rfl (show mcode 105 108 = some (108, .getfield 44, 3, 5, 8, 0, _) from rfl) (Or.inr (Or.inr (Or.inr (Or.inr (Or.inr (Or.inr (Or.inr (Or.inl ⟨_, _, rfl, fl_ldI c41 (by decide) (by decide), rfl⟩)))))))) ?_
          rw [efl2]
          have k6 : bcmp .ge fl2 0 = false := bcF (c := .ge) (a := (fl2).toInt) (b := 0) rfl (by decide) (by show ¬ (0 ≤ (fl2).toInt); omega)
          refine XW.fam (S' := (114, [(2, .int tk2), (0, .ref 41), (1, .int ov)], [], (sh, IQ4, LQ4, R))) (M := mr_105) rfl (show mcode 105 111 = some (111, .ifCond .ge 18, 3, 129, 0, 0, _) from rfl) (Or.inr (Or.inl ⟨114, [], by simp [brn, k6], rfl⟩)) ?_
          refine XW.fam (S' := (115, [(2, .int tk2), (0, .ref 41), (1, .int ov)], [.ref 41], (sh, IQ4, LQ4, R))) (M := mr_105) rfl (show mcode 105 114 = some (114, .aload_n 0, 1, 0, 0, 0, _) from rfl) (Or.inl ⟨.ref 41, rfl, rfl⟩) ?_
          refine XW.call (d' := d) (mc' := 0) (ms' := 0) (av := [.ref 41]) (rest := []) (M := mr_105) (Ma := mr_102) rfl (show mcode 105 115 = some (115, .invokevirtual 50, 3, 102, 0, 0, _) from rfl) rfl (by decide) (by decide) ⟨rfl, 41, _, rfl, c41⟩ rfl rfl (show 0 ≤ 8 by decide) (tc_adv (d := d) hT hwQ4 hfQ4 hkQ4 hst2 (lt_N hN hst2.2.2.2 (by omega))) (by omega) (Nat.zero_le _) (Nat.zero_le _) (fun rQ7 wQ7 Q7 => ?_)
          obtain ⟨hrQ7, hfQ7, hwQ7, hkQ7, hsQ7⟩ := Q7
          subst hrQ7
          obtain ⟨shQ7, IQ7, LQ7, RQ7⟩ := wQ7
          obtain rfl : sh = shQ7 := hwQ7.2.2.2.1.symm
          obtain rfl : R = RQ7 := hwQ7.2.2.2.2.1.symm
          have hkQ7 : ∀ q k, inm mdT q k = false → IQ7 q k = J q k := hkQ7
          refine XW.fam (S' := (119, [(2, .int tk2), (0, .ref 41), (1, .int ov)], [.ref 41], (sh, IQ7, LQ7, R))) (M := mr_105) rfl (show mcode 105 118 = some (118, .aload_n 0, 1, 0, 0, 0, _) from rfl) (Or.inl ⟨.ref 41, rfl, rfl⟩) ?_
          refine XW.fam (S' := (120, [(2, .int tk2), (0, .ref 41), (1, .int ov)], [.int ov, .ref 41], (sh, IQ7, LQ7, R))) (M := mr_105) rfl (show mcode 105 119 = some (119, .iload_n 1, 1, 0, 0, 0, _) from rfl) (Or.inl ⟨.int ov, rfl, rfl⟩) ?_
          refine XW.call (d' := (d + 2 + (6 * (8 - o) + 3))) (mc' := 0) (ms' := 0) (av := [.ref 41, .int ov]) (rest := []) (M := mr_105) (Ma := mr_109) rfl (show mcode 105 120 = some (120, .invokevirtual 105, 3, 109, 0, 0, _) from rfl) rfl (by decide) (by decide) ⟨rfl, 41, _, rfl, c41⟩ rfl rfl (show 0 ≤ 8 by decide) (Hs o ((gPx K f 4 o i).2 + 1) ov hov ho hwQ7 hfQ7 hkQ7 (hsQ7.1 rfl) (by have g1 := lt_N hN hst2.2.2.2 (by omega); have g2 := hgo.2.2 e rfl; omega)) (by omega) (Nat.zero_le _) (Nat.zero_le _) (fun rQ8 wQ8 Q8 => ?_)
          obtain ⟨hrQ8, hfQ8, hwQ8, hkQ8, hsQ8⟩ := Q8
          subst hrQ8
          obtain ⟨shQ8, IQ8, LQ8, RQ8⟩ := wQ8
          obtain rfl : sh = shQ8 := hwQ8.2.2.2.1.symm
          obtain rfl : R = RQ8 := hwQ8.2.2.2.2.1.symm
          have hkQ8 : ∀ q k, inm mdT q k = false → IQ8 q k = J q k := hkQ8
          refine XW.fam (S' := (124, [(2, .int tk2), (0, .ref 41), (1, .int ov)], [.ref 41], (sh, IQ8, LQ8, R))) (M := mr_105) rfl (show mcode 105 123 = some (123, .aload_n 0, 1, 0, 0, 0, _) from rfl) (Or.inl ⟨.ref 41, rfl, rfl⟩) ?_
          refine XW.fam (S' := (125, [(2, .int tk2), (0, .ref 41), (1, .int ov)], [.int 2, .ref 41], (sh, IQ8, LQ8, R))) (M := mr_105) rfl (show mcode 105 124 = some (124, .iconst 2, 1, 0, 0, 0, _) from rfl) (Or.inl ⟨.int 2, rfl, rfl⟩) ?_
          refine XW.fam (S' := (126, [(2, .int tk2), (0, .ref 41), (1, .int ov)], [.int tk2, .int 2, .ref 41], (sh, IQ8, LQ8, R))) (M := mr_105) rfl (show mcode 105 125 = some (125, .iload_n 2, 1, 0, 0, 0, _) from rfl) (Or.inl ⟨.int tk2, rfl, rfl⟩) ?_
          refine XW.call (d' := d) (mc' := 0) (ms' := 0) (av := [.ref 41, .int 2, .int tk2]) (rest := []) (M := mr_105) (Ma := mr_107) rfl (show mcode 105 126 = some (126, .invokevirtual 108, 3, 107, 0, 0, _) from rfl) rfl (by decide) (by decide) ⟨rfl, 41, _, rfl, c41⟩ rfl rfl (show 0 ≤ 8 by decide) (tc_wrQ (d := d) (show QW sh R J K S N (gPx K f 4 o ((gPx K f 4 o i).2 + 1)) (sh, IQ8, LQ8, R) from ⟨hfQ8, hwQ8, hkQ8, hsQ8⟩)) (by omega) (Nat.zero_le _) (Nat.zero_le _) (fun rQ9 wQ9 Q9 => ?_)
          obtain ⟨hrQ9, hfQ9, hwQ9, hkQ9, hsQ9⟩ := Q9
          subst hrQ9
          obtain ⟨shQ9, IQ9, LQ9, RQ9⟩ := wQ9
          obtain rfl : sh = shQ9 := hwQ9.2.2.2.1.symm
          obtain rfl : R = RQ9 := hwQ9.2.2.2.2.1.symm
          have hkQ9 : ∀ q k, inm mdT q k = false → IQ9 q k = J q k := hkQ9
          refine XW.ret (r := none) ⟨rfl, by decide +kernel⟩ ?_
          rw [gPx_5]
          unfold g5
          rw [if_neg (by omega), if_neg (by omega), gB_t e, if_pos (by omega)]
          exact ⟨rfl, hfQ9, hwQ9, hkQ9, hsQ9⟩
        | false =>
          have gk5 : ¬ ((tk2).toInt = 60) := icF (c := .eq) (a := (tk2).toInt) (b := 60) rfl (by decide) k5
          refine XW.fam (S' := (91, [(2, .int tk2), (0, .ref 41), (1, .int ov)], [], (sh, IQ4, LQ4, R))) (M := mr_105) rfl (show mcode 105 88 = some (88, .if_icmp .eq 19, 3, 107, 0, 0, _) from rfl) (Or.inr (Or.inl ⟨91, [], by simp [brn, k5], rfl⟩)) ?_
          refine XW.fam (S' := (92, [(2, .int tk2), (0, .ref 41), (1, .int ov)], [.int tk2], (sh, IQ4, LQ4, R))) (M := mr_105) rfl (show mcode 105 91 = some (91, .iload_n 2, 1, 0, 0, 0, _) from rfl) (Or.inl ⟨.int tk2, rfl, rfl⟩) ?_
          refine XW.fam (S' := (94, [(2, .int tk2), (0, .ref 41), (1, .int ov)], [.int 61, .int tk2], (sh, IQ4, LQ4, R))) (M := mr_105) rfl (show mcode 105 92 = some (92, .bipush 61, 2, 0, 0, 0, _) from rfl) (Or.inl ⟨.int 61, rfl, rfl⟩) ?_
          cases k10 : bcmp .eq tk2 61 with
          | true =>
            have gk10 : (tk2).toInt = 61 := icT (c := .eq) (a := (tk2).toInt) (b := 61) rfl (by decide) k10
            refine XW.fam (S' := (107, [(2, .int tk2), (0, .ref 41), (1, .int ov)], [], (sh, IQ4, LQ4, R))) (M := mr_105) rfl (show mcode 105 94 = some (94, .if_icmp .eq 13, 3, 107, 0, 0, _) from rfl) (Or.inr (Or.inl ⟨107, [], by simp [brn, k10], rfl⟩)) ?_
            refine XW.fam (S' := (108, [(2, .int tk2), (0, .ref 41), (1, .int ov)], [.ref 41], (sh, IQ4, LQ4, R))) (M := mr_105) rfl (show mcode 105 107 = some (107, .aload_n 0, 1, 0, 0, 0, _) from rfl) (Or.inl ⟨.ref 41, rfl, rfl⟩) ?_
            refine XW.fam (S' := (111, [(2, .int tk2), (0, .ref 41), (1, .int ov)], [.int (IQ4 41 8)], (sh, IQ4, LQ4, R))) (M := mr_105) rfl (show mcode 105 108 = some (108, .getfield 44, 3, 5, 8, 0, _) from rfl) (Or.inr (Or.inr (Or.inr (Or.inr (Or.inr (Or.inr (Or.inr (Or.inl ⟨_, _, rfl, fl_ldI c41 (by decide) (by decide), rfl⟩)))))))) ?_
            rw [efl2]
            have k11 : bcmp .ge fl2 0 = false := bcF (c := .ge) (a := (fl2).toInt) (b := 0) rfl (by decide) (by show ¬ (0 ≤ (fl2).toInt); omega)
            refine XW.fam (S' := (114, [(2, .int tk2), (0, .ref 41), (1, .int ov)], [], (sh, IQ4, LQ4, R))) (M := mr_105) rfl (show mcode 105 111 = some (111, .ifCond .ge 18, 3, 129, 0, 0, _) from rfl) (Or.inr (Or.inl ⟨114, [], by simp [brn, k11], rfl⟩)) ?_
            refine XW.fam (S' := (115, [(2, .int tk2), (0, .ref 41), (1, .int ov)], [.ref 41], (sh, IQ4, LQ4, R))) (M := mr_105) rfl (show mcode 105 114 = some (114, .aload_n 0, 1, 0, 0, 0, _) from rfl) (Or.inl ⟨.ref 41, rfl, rfl⟩) ?_
            refine XW.call (d' := d) (mc' := 0) (ms' := 0) (av := [.ref 41]) (rest := []) (M := mr_105) (Ma := mr_102) rfl (show mcode 105 115 = some (115, .invokevirtual 50, 3, 102, 0, 0, _) from rfl) rfl (by decide) (by decide) ⟨rfl, 41, _, rfl, c41⟩ rfl rfl (show 0 ≤ 8 by decide) (tc_adv (d := d) hT hwQ4 hfQ4 hkQ4 hst2 (lt_N hN hst2.2.2.2 (by omega))) (by omega) (Nat.zero_le _) (Nat.zero_le _) (fun rQ12 wQ12 Q12 => ?_)
            obtain ⟨hrQ12, hfQ12, hwQ12, hkQ12, hsQ12⟩ := Q12
            subst hrQ12
            obtain ⟨shQ12, IQ12, LQ12, RQ12⟩ := wQ12
            obtain rfl : sh = shQ12 := hwQ12.2.2.2.1.symm
            obtain rfl : R = RQ12 := hwQ12.2.2.2.2.1.symm
            have hkQ12 : ∀ q k, inm mdT q k = false → IQ12 q k = J q k := hkQ12
            refine XW.fam (S' := (119, [(2, .int tk2), (0, .ref 41), (1, .int ov)], [.ref 41], (sh, IQ12, LQ12, R))) (M := mr_105) rfl (show mcode 105 118 = some (118, .aload_n 0, 1, 0, 0, 0, _) from rfl) (Or.inl ⟨.ref 41, rfl, rfl⟩) ?_
            refine XW.fam (S' := (120, [(2, .int tk2), (0, .ref 41), (1, .int ov)], [.int ov, .ref 41], (sh, IQ12, LQ12, R))) (M := mr_105) rfl (show mcode 105 119 = some (119, .iload_n 1, 1, 0, 0, 0, _) from rfl) (Or.inl ⟨.int ov, rfl, rfl⟩) ?_
            refine XW.call (d' := (d + 2 + (6 * (8 - o) + 3))) (mc' := 0) (ms' := 0) (av := [.ref 41, .int ov]) (rest := []) (M := mr_105) (Ma := mr_109) rfl (show mcode 105 120 = some (120, .invokevirtual 105, 3, 109, 0, 0, _) from rfl) rfl (by decide) (by decide) ⟨rfl, 41, _, rfl, c41⟩ rfl rfl (show 0 ≤ 8 by decide) (Hs o ((gPx K f 4 o i).2 + 1) ov hov ho hwQ12 hfQ12 hkQ12 (hsQ12.1 rfl) (by have g1 := lt_N hN hst2.2.2.2 (by omega); have g2 := hgo.2.2 e rfl; omega)) (by omega) (Nat.zero_le _) (Nat.zero_le _) (fun rQ13 wQ13 Q13 => ?_)
            obtain ⟨hrQ13, hfQ13, hwQ13, hkQ13, hsQ13⟩ := Q13
            subst hrQ13
            obtain ⟨shQ13, IQ13, LQ13, RQ13⟩ := wQ13
            obtain rfl : sh = shQ13 := hwQ13.2.2.2.1.symm
            obtain rfl : R = RQ13 := hwQ13.2.2.2.2.1.symm
            have hkQ13 : ∀ q k, inm mdT q k = false → IQ13 q k = J q k := hkQ13
            refine XW.fam (S' := (124, [(2, .int tk2), (0, .ref 41), (1, .int ov)], [.ref 41], (sh, IQ13, LQ13, R))) (M := mr_105) rfl (show mcode 105 123 = some (123, .aload_n 0, 1, 0, 0, 0, _) from rfl) (Or.inl ⟨.ref 41, rfl, rfl⟩) ?_
            refine XW.fam (S' := (125, [(2, .int tk2), (0, .ref 41), (1, .int ov)], [.int 2, .ref 41], (sh, IQ13, LQ13, R))) (M := mr_105) rfl (show mcode 105 124 = some (124, .iconst 2, 1, 0, 0, 0, _) from rfl) (Or.inl ⟨.int 2, rfl, rfl⟩) ?_
            refine XW.fam (S' := (126, [(2, .int tk2), (0, .ref 41), (1, .int ov)], [.int tk2, .int 2, .ref 41], (sh, IQ13, LQ13, R))) (M := mr_105) rfl (show mcode 105 125 = some (125, .iload_n 2, 1, 0, 0, 0, _) from rfl) (Or.inl ⟨.int tk2, rfl, rfl⟩) ?_
            refine XW.call (d' := d) (mc' := 0) (ms' := 0) (av := [.ref 41, .int 2, .int tk2]) (rest := []) (M := mr_105) (Ma := mr_107) rfl (show mcode 105 126 = some (126, .invokevirtual 108, 3, 107, 0, 0, _) from rfl) rfl (by decide) (by decide) ⟨rfl, 41, _, rfl, c41⟩ rfl rfl (show 0 ≤ 8 by decide) (tc_wrQ (d := d) (show QW sh R J K S N (gPx K f 4 o ((gPx K f 4 o i).2 + 1)) (sh, IQ13, LQ13, R) from ⟨hfQ13, hwQ13, hkQ13, hsQ13⟩)) (by omega) (Nat.zero_le _) (Nat.zero_le _) (fun rQ14 wQ14 Q14 => ?_)
            obtain ⟨hrQ14, hfQ14, hwQ14, hkQ14, hsQ14⟩ := Q14
            subst hrQ14
            obtain ⟨shQ14, IQ14, LQ14, RQ14⟩ := wQ14
            obtain rfl : sh = shQ14 := hwQ14.2.2.2.1.symm
            obtain rfl : R = RQ14 := hwQ14.2.2.2.2.1.symm
            have hkQ14 : ∀ q k, inm mdT q k = false → IQ14 q k = J q k := hkQ14
            refine XW.ret (r := none) ⟨rfl, by decide +kernel⟩ ?_
            rw [gPx_5]
            unfold g5
            rw [if_neg (by omega), if_neg (by omega), gB_t e, if_pos (by omega)]
            exact ⟨rfl, hfQ14, hwQ14, hkQ14, hsQ14⟩
          | false =>
            have gk10 : ¬ ((tk2).toInt = 61) := icF (c := .eq) (a := (tk2).toInt) (b := 61) rfl (by decide) k10
            refine XW.fam (S' := (97, [(2, .int tk2), (0, .ref 41), (1, .int ov)], [], (sh, IQ4, LQ4, R))) (M := mr_105) rfl (show mcode 105 94 = some (94, .if_icmp .eq 13, 3, 107, 0, 0, _) from rfl) (Or.inr (Or.inl ⟨97, [], by simp [brn, k10], rfl⟩)) ?_
            refine XW.fam (S' := (98, [(2, .int tk2), (0, .ref 41), (1, .int ov)], [.int tk2], (sh, IQ4, LQ4, R))) (M := mr_105) rfl (show mcode 105 97 = some (97, .iload_n 2, 1, 0, 0, 0, _) from rfl) (Or.inl ⟨.int tk2, rfl, rfl⟩) ?_
            refine XW.fam (S' := (100, [(2, .int tk2), (0, .ref 41), (1, .int ov)], [.int 62, .int tk2], (sh, IQ4, LQ4, R))) (M := mr_105) rfl (show mcode 105 98 = some (98, .bipush 62, 2, 0, 0, 0, _) from rfl) (Or.inl ⟨.int 62, rfl, rfl⟩) ?_
            cases k15 : bcmp .eq tk2 62 with
            | true =>
              have gk15 : (tk2).toInt = 62 := icT (c := .eq) (a := (tk2).toInt) (b := 62) rfl (by decide) k15
              refine XW.fam (S' := (107, [(2, .int tk2), (0, .ref 41), (1, .int ov)], [], (sh, IQ4, LQ4, R))) (M := mr_105) rfl (show mcode 105 100 = some (100, .if_icmp .eq 7, 3, 107, 0, 0, _) from rfl) (Or.inr (Or.inl ⟨107, [], by simp [brn, k15], rfl⟩)) ?_
              refine XW.fam (S' := (108, [(2, .int tk2), (0, .ref 41), (1, .int ov)], [.ref 41], (sh, IQ4, LQ4, R))) (M := mr_105) rfl (show mcode 105 107 = some (107, .aload_n 0, 1, 0, 0, 0, _) from rfl) (Or.inl ⟨.ref 41, rfl, rfl⟩) ?_
              refine XW.fam (S' := (111, [(2, .int tk2), (0, .ref 41), (1, .int ov)], [.int (IQ4 41 8)], (sh, IQ4, LQ4, R))) (M := mr_105) rfl (show mcode 105 108 = some (108, .getfield 44, 3, 5, 8, 0, _) from rfl) (Or.inr (Or.inr (Or.inr (Or.inr (Or.inr (Or.inr (Or.inr (Or.inl ⟨_, _, rfl, fl_ldI c41 (by decide) (by decide), rfl⟩)))))))) ?_
              rw [efl2]
              have k16 : bcmp .ge fl2 0 = false := bcF (c := .ge) (a := (fl2).toInt) (b := 0) rfl (by decide) (by show ¬ (0 ≤ (fl2).toInt); omega)
              refine XW.fam (S' := (114, [(2, .int tk2), (0, .ref 41), (1, .int ov)], [], (sh, IQ4, LQ4, R))) (M := mr_105) rfl (show mcode 105 111 = some (111, .ifCond .ge 18, 3, 129, 0, 0, _) from rfl) (Or.inr (Or.inl ⟨114, [], by simp [brn, k16], rfl⟩)) ?_
              refine XW.fam (S' := (115, [(2, .int tk2), (0, .ref 41), (1, .int ov)], [.ref 41], (sh, IQ4, LQ4, R))) (M := mr_105) rfl (show mcode 105 114 = some (114, .aload_n 0, 1, 0, 0, 0, _) from rfl) (Or.inl ⟨.ref 41, rfl, rfl⟩) ?_
              refine XW.call (d' := d) (mc' := 0) (ms' := 0) (av := [.ref 41]) (rest := []) (M := mr_105) (Ma := mr_102) rfl (show mcode 105 115 = some (115, .invokevirtual 50, 3, 102, 0, 0, _) from rfl) rfl (by decide) (by decide) ⟨rfl, 41, _, rfl, c41⟩ rfl rfl (show 0 ≤ 8 by decide) (tc_adv (d := d) hT hwQ4 hfQ4 hkQ4 hst2 (lt_N hN hst2.2.2.2 (by omega))) (by omega) (Nat.zero_le _) (Nat.zero_le _) (fun rQ17 wQ17 Q17 => ?_)
              obtain ⟨hrQ17, hfQ17, hwQ17, hkQ17, hsQ17⟩ := Q17
              subst hrQ17
              obtain ⟨shQ17, IQ17, LQ17, RQ17⟩ := wQ17
              obtain rfl : sh = shQ17 := hwQ17.2.2.2.1.symm
              obtain rfl : R = RQ17 := hwQ17.2.2.2.2.1.symm
              have hkQ17 : ∀ q k, inm mdT q k = false → IQ17 q k = J q k := hkQ17
              refine XW.fam (S' := (119, [(2, .int tk2), (0, .ref 41), (1, .int ov)], [.ref 41], (sh, IQ17, LQ17, R))) (M := mr_105) rfl (show mcode 105 118 = some (118, .aload_n 0, 1, 0, 0, 0, _) from rfl) (Or.inl ⟨.ref 41, rfl, rfl⟩) ?_
              refine XW.fam (S' := (120, [(2, .int tk2), (0, .ref 41), (1, .int ov)], [.int ov, .ref 41], (sh, IQ17, LQ17, R))) (M := mr_105) rfl (show mcode 105 119 = some (119, .iload_n 1, 1, 0, 0, 0, _) from rfl) (Or.inl ⟨.int ov, rfl, rfl⟩) ?_
              refine XW.call (d' := (d + 2 + (6 * (8 - o) + 3))) (mc' := 0) (ms' := 0) (av := [.ref 41, .int ov]) (rest := []) (M := mr_105) (Ma := mr_109) rfl (show mcode 105 120 = some (120, .invokevirtual 105, 3, 109, 0, 0, _) from rfl) rfl (by decide) (by decide) ⟨rfl, 41, _, rfl, c41⟩ rfl rfl (show 0 ≤ 8 by decide) (Hs o ((gPx K f 4 o i).2 + 1) ov hov ho hwQ17 hfQ17 hkQ17 (hsQ17.1 rfl) (by have g1 := lt_N hN hst2.2.2.2 (by omega); have g2 := hgo.2.2 e rfl; omega)) (by omega) (Nat.zero_le _) (Nat.zero_le _) (fun rQ18 wQ18 Q18 => ?_)
              obtain ⟨hrQ18, hfQ18, hwQ18, hkQ18, hsQ18⟩ := Q18
              subst hrQ18
              obtain ⟨shQ18, IQ18, LQ18, RQ18⟩ := wQ18
              obtain rfl : sh = shQ18 := hwQ18.2.2.2.1.symm
              obtain rfl : R = RQ18 := hwQ18.2.2.2.2.1.symm
              have hkQ18 : ∀ q k, inm mdT q k = false → IQ18 q k = J q k := hkQ18
              refine XW.fam (S' := (124, [(2, .int tk2), (0, .ref 41), (1, .int ov)], [.ref 41], (sh, IQ18, LQ18, R))) (M := mr_105) rfl (show mcode 105 123 = some (123, .aload_n 0, 1, 0, 0, 0, _) from rfl) (Or.inl ⟨.ref 41, rfl, rfl⟩) ?_
              refine XW.fam (S' := (125, [(2, .int tk2), (0, .ref 41), (1, .int ov)], [.int 2, .ref 41], (sh, IQ18, LQ18, R))) (M := mr_105) rfl (show mcode 105 124 = some (124, .iconst 2, 1, 0, 0, 0, _) from rfl) (Or.inl ⟨.int 2, rfl, rfl⟩) ?_
              refine XW.fam (S' := (126, [(2, .int tk2), (0, .ref 41), (1, .int ov)], [.int tk2, .int 2, .ref 41], (sh, IQ18, LQ18, R))) (M := mr_105) rfl (show mcode 105 125 = some (125, .iload_n 2, 1, 0, 0, 0, _) from rfl) (Or.inl ⟨.int tk2, rfl, rfl⟩) ?_
              refine XW.call (d' := d) (mc' := 0) (ms' := 0) (av := [.ref 41, .int 2, .int tk2]) (rest := []) (M := mr_105) (Ma := mr_107) rfl (show mcode 105 126 = some (126, .invokevirtual 108, 3, 107, 0, 0, _) from rfl) rfl (by decide) (by decide) ⟨rfl, 41, _, rfl, c41⟩ rfl rfl (show 0 ≤ 8 by decide) (tc_wrQ (d := d) (show QW sh R J K S N (gPx K f 4 o ((gPx K f 4 o i).2 + 1)) (sh, IQ18, LQ18, R) from ⟨hfQ18, hwQ18, hkQ18, hsQ18⟩)) (by omega) (Nat.zero_le _) (Nat.zero_le _) (fun rQ19 wQ19 Q19 => ?_)
              obtain ⟨hrQ19, hfQ19, hwQ19, hkQ19, hsQ19⟩ := Q19
              subst hrQ19
              obtain ⟨shQ19, IQ19, LQ19, RQ19⟩ := wQ19
              obtain rfl : sh = shQ19 := hwQ19.2.2.2.1.symm
              obtain rfl : R = RQ19 := hwQ19.2.2.2.2.1.symm
              have hkQ19 : ∀ q k, inm mdT q k = false → IQ19 q k = J q k := hkQ19
              refine XW.ret (r := none) ⟨rfl, by decide +kernel⟩ ?_
              rw [gPx_5]
              unfold g5
              rw [if_neg (by omega), if_neg (by omega), gB_t e, if_pos (by omega)]
              exact ⟨rfl, hfQ19, hwQ19, hkQ19, hsQ19⟩
            | false =>
              have gk15 : ¬ ((tk2).toInt = 62) := icF (c := .eq) (a := (tk2).toInt) (b := 62) rfl (by decide) k15
              refine XW.fam (S' := (103, [(2, .int tk2), (0, .ref 41), (1, .int ov)], [], (sh, IQ4, LQ4, R))) (M := mr_105) rfl (show mcode 105 100 = some (100, .if_icmp .eq 7, 3, 107, 0, 0, _) from rfl) (Or.inr (Or.inl ⟨103, [], by simp [brn, k15], rfl⟩)) ?_
              refine XW.fam (S' := (104, [(2, .int tk2), (0, .ref 41), (1, .int ov)], [.ref 41], (sh, IQ4, LQ4, R))) (M := mr_105) rfl (show mcode 105 103 = some (103, .aload_n 0, 1, 0, 0, 0, _) from rfl) (Or.inl ⟨.ref 41, rfl, rfl⟩) ?_
              refine XW.call (d' := d) (mc' := 0) (ms' := 0) (av := [.ref 41]) (rest := []) (M := mr_105) (Ma := mr_101) rfl (show mcode 105 104 = some (104, .invokevirtual 53, 3, 101, 0, 0, _) from rfl) rfl (by decide) (by decide) ⟨rfl, 41, _, rfl, c41⟩ rfl rfl (show 0 ≤ 8 by decide) (tc_fail (d := d) hT hwQ4 hfQ4 hkQ4 hst2) (by omega) (Nat.zero_le _) (Nat.zero_le _) (fun rQ20 wQ20 Q20 => ?_)
              obtain ⟨hrQ20, hfQ20, hwQ20, hkQ20, hsQ20⟩ := Q20
              subst hrQ20
              obtain ⟨shQ20, IQ20, LQ20, RQ20⟩ := wQ20
              obtain rfl : sh = shQ20 := hwQ20.2.2.2.1.symm
              obtain rfl : R = RQ20 := hwQ20.2.2.2.2.1.symm
              have hkQ20 : ∀ q k, inm mdT q k = false → IQ20 q k = J q k := hkQ20
              obtain ⟨fl3, efl3⟩ : ∃ z : Int32, IQ20 41 8 = z := ⟨_, rfl⟩
              have hfl3 : (IQ20 41 8).toInt = _ := hsQ20.2 rfl
              rw [efl3] at hfl3
              refine XW.fam (S' := (108, [(2, .int tk2), (0, .ref 41), (1, .int ov)], [.ref 41], (sh, IQ20, LQ20, R))) (M := mr_105) rfl (show mcode 105 107 = some (107, .aload_n 0, 1, 0, 0, 0, _) from rfl) (Or.inl ⟨.ref 41, rfl, rfl⟩) ?_
              refine XW.fam (S' := (111, [(2, .int tk2), (0, .ref 41), (1, .int ov)], [.int (IQ20 41 8)], (sh, IQ20, LQ20, R))) (M := mr_105) rfl (show mcode 105 108 = some (108, .getfield 44, 3, 5, 8, 0, _) from rfl) (Or.inr (Or.inr (Or.inr (Or.inr (Or.inr (Or.inr (Or.inr (Or.inl ⟨_, _, rfl, fl_ldI c41 (by decide) (by decide), rfl⟩)))))))) ?_
              rw [efl3]
              have k21 : bcmp .ge fl3 0 = true := bcT (c := .ge) (a := (fl3).toInt) (b := 0) rfl (by decide) (by show 0 ≤ (fl3).toInt; omega)
              refine XW.fam (S' := (129, [(2, .int tk2), (0, .ref 41), (1, .int ov)], [], (sh, IQ20, LQ20, R))) (M := mr_105) rfl (show mcode 105 111 = some (111, .ifCond .ge 18, 3, 129, 0, 0, _) from rfl) (Or.inr (Or.inl ⟨129, [], by simp [brn, k21], rfl⟩)) ?_
              refine XW.ret (r := none) ⟨rfl, by decide +kernel⟩ ?_
              rw [gPx_5]
              unfold g5
              rw [if_neg (by omega), if_neg (by omega), gB_t e, if_neg (by omega)]
              exact ⟨rfl, hfQ20, hwQ20, hkQ20, hsQ20⟩
      | false =>
        obtain ⟨fl4, efl4⟩ : ∃ z : Int32, IQ4 41 8 = z := ⟨_, rfl⟩
        have h8 : (IQ4 41 8).toInt = _ := hsQ4.2 e
        have hfl4 := h8
        rw [efl4] at hfl4
        refine XW.fam (S' := (81, [(0, .ref 41), (1, .int ov)], [.ref 41], (sh, IQ4, LQ4, R))) (M := mr_105) rfl (show mcode 105 80 = some (80, .aload_n 0, 1, 0, 0, 0, _) from rfl) (Or.inl ⟨.ref 41, rfl, rfl⟩) ?_
        refine XW.fam (S' := (84, [(0, .ref 41), (1, .int ov)], [.int (IQ4 41 7)], (sh, IQ4, LQ4, R))) (M := mr_105) rfl (show mcode 105 81 = some (81, .getfield 38, 3, 5, 7, 0, _) from rfl) (Or.inr (Or.inr (Or.inr (Or.inr (Or.inr (Or.inr (Or.inr (Or.inl ⟨_, _, rfl, fl_ldI c41 (by decide) (by decide), rfl⟩)))))))) ?_
        refine XW.fam (S' := (85, [(2, .int (IQ4 41 7)), (0, .ref 41), (1, .int ov)], [], (sh, IQ4, LQ4, R))) (M := mr_105) rfl (show mcode 105 84 = some (84, .istore_n 2, 1, 0, 0, 0, _) from rfl) (Or.inr (Or.inr (Or.inr (Or.inr (Or.inr (Or.inr (Or.inl ⟨_, [], _, rfl, rfl, rfl⟩))))))) ?_
        refine XW.fam (S' := (86, [(2, .int (IQ4 41 7)), (0, .ref 41), (1, .int ov)], [.int (IQ4 41 7)], (sh, IQ4, LQ4, R))) (M := mr_105) rfl (show mcode 105 85 = some (85, .iload_n 2, 1, 0, 0, 0, _) from rfl) (Or.inl ⟨.int (IQ4 41 7), rfl, rfl⟩) ?_
        refine XW.fam (S' := (88, [(2, .int (IQ4 41 7)), (0, .ref 41), (1, .int ov)], [.int 60, .int (IQ4 41 7)], (sh, IQ4, LQ4, R))) (M := mr_105) rfl (show mcode 105 86 = some (86, .bipush 60, 2, 0, 0, 0, _) from rfl) (Or.inl ⟨.int 60, rfl, rfl⟩) ?_
        cases k22 : bcmp .eq (IQ4 41 7) 60 with
        | true =>
          have gk22 : ((IQ4 41 7)).toInt = 60 := icT (c := .eq) (a := ((IQ4 41 7)).toInt) (b := 60) rfl (by decide) k22
          refine XW.fam (S' := (107, [(2, .int (IQ4 41 7)), (0, .ref 41), (1, .int ov)], [], (sh, IQ4, LQ4, R))) (M := mr_105) rfl (show mcode 105 88 = some (88, .if_icmp .eq 19, 3, 107, 0, 0, _) from rfl) (Or.inr (Or.inl ⟨107, [], by simp [brn, k22], rfl⟩)) ?_
          refine XW.fam (S' := (108, [(2, .int (IQ4 41 7)), (0, .ref 41), (1, .int ov)], [.ref 41], (sh, IQ4, LQ4, R))) (M := mr_105) rfl (show mcode 105 107 = some (107, .aload_n 0, 1, 0, 0, 0, _) from rfl) (Or.inl ⟨.ref 41, rfl, rfl⟩) ?_
          refine XW.fam (S' := (111, [(2, .int (IQ4 41 7)), (0, .ref 41), (1, .int ov)], [.int (IQ4 41 8)], (sh, IQ4, LQ4, R))) (M := mr_105) rfl (show mcode 105 108 = some (108, .getfield 44, 3, 5, 8, 0, _) from rfl) (Or.inr (Or.inr (Or.inr (Or.inr (Or.inr (Or.inr (Or.inr (Or.inl ⟨_, _, rfl, fl_ldI c41 (by decide) (by decide), rfl⟩)))))))) ?_
          rw [efl4]
          have k23 : bcmp .ge fl4 0 = true := bcT (c := .ge) (a := (fl4).toInt) (b := 0) rfl (by decide) (by show 0 ≤ (fl4).toInt; omega)
          refine XW.fam (S' := (129, [(2, .int (IQ4 41 7)), (0, .ref 41), (1, .int ov)], [], (sh, IQ4, LQ4, R))) (M := mr_105) rfl (show mcode 105 111 = some (111, .ifCond .ge 18, 3, 129, 0, 0, _) from rfl) (Or.inr (Or.inl ⟨129, [], by simp [brn, k23], rfl⟩)) ?_
          refine XW.ret (r := none) ⟨rfl, by decide +kernel⟩ ?_
          rw [gPx_5]
          unfold g5
          rw [if_neg (by omega), if_neg (by omega), gB_f e]
          exact ⟨rfl, hfQ4, hwQ4, hkQ4, hsQ4⟩
        | false =>
          have gk22 : ¬ (((IQ4 41 7)).toInt = 60) := icF (c := .eq) (a := ((IQ4 41 7)).toInt) (b := 60) rfl (by decide) k22
          refine XW.fam (S' := (91, [(2, .int (IQ4 41 7)), (0, .ref 41), (1, .int ov)], [], (sh, IQ4, LQ4, R))) (M := mr_105) rfl (show mcode 105 88 = some (88, .if_icmp .eq 19, 3, 107, 0, 0, _) from rfl) (Or.inr (Or.inl ⟨91, [], by simp [brn, k22], rfl⟩)) ?_
          refine XW.fam (S' := (92, [(2, .int (IQ4 41 7)), (0, .ref 41), (1, .int ov)], [.int (IQ4 41 7)], (sh, IQ4, LQ4, R))) (M := mr_105) rfl (show mcode 105 91 = some (91, .iload_n 2, 1, 0, 0, 0, _) from rfl) (Or.inl ⟨.int (IQ4 41 7), rfl, rfl⟩) ?_
          refine XW.fam (S' := (94, [(2, .int (IQ4 41 7)), (0, .ref 41), (1, .int ov)], [.int 61, .int (IQ4 41 7)], (sh, IQ4, LQ4, R))) (M := mr_105) rfl (show mcode 105 92 = some (92, .bipush 61, 2, 0, 0, 0, _) from rfl) (Or.inl ⟨.int 61, rfl, rfl⟩) ?_
          cases k24 : bcmp .eq (IQ4 41 7) 61 with
          | true =>
            have gk24 : ((IQ4 41 7)).toInt = 61 := icT (c := .eq) (a := ((IQ4 41 7)).toInt) (b := 61) rfl (by decide) k24
            refine XW.fam (S' := (107, [(2, .int (IQ4 41 7)), (0, .ref 41), (1, .int ov)], [], (sh, IQ4, LQ4, R))) (M := mr_105) rfl (show mcode 105 94 = some (94, .if_icmp .eq 13, 3, 107, 0, 0, _) from rfl) (Or.inr (Or.inl ⟨107, [], by simp [brn, k24], rfl⟩)) ?_
            refine XW.fam (S' := (108, [(2, .int (IQ4 41 7)), (0, .ref 41), (1, .int ov)], [.ref 41], (sh, IQ4, LQ4, R))) (M := mr_105) rfl (show mcode 105 107 = some (107, .aload_n 0, 1, 0, 0, 0, _) from rfl) (Or.inl ⟨.ref 41, rfl, rfl⟩) ?_
            refine XW.fam (S' := (111, [(2, .int (IQ4 41 7)), (0, .ref 41), (1, .int ov)], [.int (IQ4 41 8)], (sh, IQ4, LQ4, R))) (M := mr_105) rfl (show mcode 105 108 = some (108, .getfield 44, 3, 5, 8, 0, _) from rfl) (Or.inr (Or.inr (Or.inr (Or.inr (Or.inr (Or.inr (Or.inr (Or.inl ⟨_, _, rfl, fl_ldI c41 (by decide) (by decide), rfl⟩)))))))) ?_
            rw [efl4]
            have k25 : bcmp .ge fl4 0 = true := bcT (c := .ge) (a := (fl4).toInt) (b := 0) rfl (by decide) (by show 0 ≤ (fl4).toInt; omega)
            refine XW.fam (S' := (129, [(2, .int (IQ4 41 7)), (0, .ref 41), (1, .int ov)], [], (sh, IQ4, LQ4, R))) (M := mr_105) rfl (show mcode 105 111 = some (111, .ifCond .ge 18, 3, 129, 0, 0, _) from rfl) (Or.inr (Or.inl ⟨129, [], by simp [brn, k25], rfl⟩)) ?_
            refine XW.ret (r := none) ⟨rfl, by decide +kernel⟩ ?_
            rw [gPx_5]
            unfold g5
            rw [if_neg (by omega), if_neg (by omega), gB_f e]
            exact ⟨rfl, hfQ4, hwQ4, hkQ4, hsQ4⟩
          | false =>
            have gk24 : ¬ (((IQ4 41 7)).toInt = 61) := icF (c := .eq) (a := ((IQ4 41 7)).toInt) (b := 61) rfl (by decide) k24
            refine XW.fam (S' := (97, [(2, .int (IQ4 41 7)), (0, .ref 41), (1, .int ov)], [], (sh, IQ4, LQ4, R))) (M := mr_105) rfl (show mcode 105 94 = some (94, .if_icmp .eq 13, 3, 107, 0, 0, _) from rfl) (Or.inr (Or.inl ⟨97, [], by simp [brn, k24], rfl⟩)) ?_
            refine XW.fam (S' := (98, [(2, .int (IQ4 41 7)), (0, .ref 41), (1, .int ov)], [.int (IQ4 41 7)], (sh, IQ4, LQ4, R))) (M := mr_105) rfl (show mcode 105 97 = some (97, .iload_n 2, 1, 0, 0, 0, _) from rfl) (Or.inl ⟨.int (IQ4 41 7), rfl, rfl⟩) ?_
            refine XW.fam (S' := (100, [(2, .int (IQ4 41 7)), (0, .ref 41), (1, .int ov)], [.int 62, .int (IQ4 41 7)], (sh, IQ4, LQ4, R))) (M := mr_105) rfl (show mcode 105 98 = some (98, .bipush 62, 2, 0, 0, 0, _) from rfl) (Or.inl ⟨.int 62, rfl, rfl⟩) ?_
            cases k26 : bcmp .eq (IQ4 41 7) 62 with
            | true =>
              have gk26 : ((IQ4 41 7)).toInt = 62 := icT (c := .eq) (a := ((IQ4 41 7)).toInt) (b := 62) rfl (by decide) k26
              refine XW.fam (S' := (107, [(2, .int (IQ4 41 7)), (0, .ref 41), (1, .int ov)], [], (sh, IQ4, LQ4, R))) (M := mr_105) rfl (show mcode 105 100 = some (100, .if_icmp .eq 7, 3, 107, 0, 0, _) from rfl) (Or.inr (Or.inl ⟨107, [], by simp [brn, k26], rfl⟩)) ?_
              refine XW.fam (S' := (108, [(2, .int (IQ4 41 7)), (0, .ref 41), (1, .int ov)], [.ref 41], (sh, IQ4, LQ4, R))) (M := mr_105) rfl (show mcode 105 107 = some (107, .aload_n 0, 1, 0, 0, 0, _) from rfl) (Or.inl ⟨.ref 41, rfl, rfl⟩) ?_
              refine XW.fam (S' := (111, [(2, .int (IQ4 41 7)), (0, .ref 41), (1, .int ov)], [.int (IQ4 41 8)], (sh, IQ4, LQ4, R))) (M := mr_105) rfl (show mcode 105 108 = some (108, .getfield 44, 3, 5, 8, 0, _) from rfl) (Or.inr (Or.inr (Or.inr (Or.inr (Or.inr (Or.inr (Or.inr (Or.inl ⟨_, _, rfl, fl_ldI c41 (by decide) (by decide), rfl⟩)))))))) ?_
              rw [efl4]
              have k27 : bcmp .ge fl4 0 = true := bcT (c := .ge) (a := (fl4).toInt) (b := 0) rfl (by decide) (by show 0 ≤ (fl4).toInt; omega)
              refine XW.fam (S' := (129, [(2, .int (IQ4 41 7)), (0, .ref 41), (1, .int ov)], [], (sh, IQ4, LQ4, R))) (M := mr_105) rfl (show mcode 105 111 = some (111, .ifCond .ge 18, 3, 129, 0, 0, _) from rfl) (Or.inr (Or.inl ⟨129, [], by simp [brn, k27], rfl⟩)) ?_
              refine XW.ret (r := none) ⟨rfl, by decide +kernel⟩ ?_
              rw [gPx_5]
              unfold g5
              rw [if_neg (by omega), if_neg (by omega), gB_f e]
              exact ⟨rfl, hfQ4, hwQ4, hkQ4, hsQ4⟩
            | false =>
              have gk26 : ¬ (((IQ4 41 7)).toInt = 62) := icF (c := .eq) (a := ((IQ4 41 7)).toInt) (b := 62) rfl (by decide) k26
              refine XW.fam (S' := (103, [(2, .int (IQ4 41 7)), (0, .ref 41), (1, .int ov)], [], (sh, IQ4, LQ4, R))) (M := mr_105) rfl (show mcode 105 100 = some (100, .if_icmp .eq 7, 3, 107, 0, 0, _) from rfl) (Or.inr (Or.inl ⟨103, [], by simp [brn, k26], rfl⟩)) ?_
              refine XW.fam (S' := (104, [(2, .int (IQ4 41 7)), (0, .ref 41), (1, .int ov)], [.ref 41], (sh, IQ4, LQ4, R))) (M := mr_105) rfl (show mcode 105 103 = some (103, .aload_n 0, 1, 0, 0, 0, _) from rfl) (Or.inl ⟨.ref 41, rfl, rfl⟩) ?_
              refine XW.call (d' := d) (mc' := 0) (ms' := 0) (av := [.ref 41]) (rest := []) (M := mr_105) (Ma := mr_101) rfl (show mcode 105 104 = some (104, .invokevirtual 53, 3, 101, 0, 0, _) from rfl) rfl (by decide) (by decide) ⟨rfl, 41, _, rfl, c41⟩ rfl rfl (show 0 ≤ 8 by decide) (tc_failN (d := d) hwQ4 (by omega)) (by omega) (Nat.zero_le _) (Nat.zero_le _) (fun rQ28 wQ28 Q28 => ?_)
              obtain ⟨rfl, rfl⟩ := Q28
              refine XW.fam (S' := (108, [(2, .int (IQ4 41 7)), (0, .ref 41), (1, .int ov)], [.ref 41], (sh, IQ4, LQ4, R))) (M := mr_105) rfl (show mcode 105 107 = some (107, .aload_n 0, 1, 0, 0, 0, _) from rfl) (Or.inl ⟨.ref 41, rfl, rfl⟩) ?_
              refine XW.fam (S' := (111, [(2, .int (IQ4 41 7)), (0, .ref 41), (1, .int ov)], [.int (IQ4 41 8)], (sh, IQ4, LQ4, R))) (M := mr_105) rfl (show mcode 105 108 = some (108, .getfield 44, 3, 5, 8, 0, _) from rfl) (Or.inr (Or.inr (Or.inr (Or.inr (Or.inr (Or.inr (Or.inr (Or.inl ⟨_, _, rfl, fl_ldI c41 (by decide) (by decide), rfl⟩)))))))) ?_
              rw [efl4]
              have k29 : bcmp .ge fl4 0 = true := bcT (c := .ge) (a := (fl4).toInt) (b := 0) rfl (by decide) (by show 0 ≤ (fl4).toInt; omega)
              refine XW.fam (S' := (129, [(2, .int (IQ4 41 7)), (0, .ref 41), (1, .int ov)], [], (sh, IQ4, LQ4, R))) (M := mr_105) rfl (show mcode 105 111 = some (111, .ifCond .ge 18, 3, 129, 0, 0, _) from rfl) (Or.inr (Or.inl ⟨129, [], by simp [brn, k29], rfl⟩)) ?_
              refine XW.ret (r := none) ⟨rfl, by decide +kernel⟩ ?_
              rw [gPx_5]
              unfold g5
              rw [if_neg (by omega), if_neg (by omega), gB_f e]
              exact ⟨rfl, hfQ4, hwQ4, hkQ4, hsQ4⟩
    | false =>
      have gk3 : ¬ (¬ (tk).toInt = 91) := icF (c := .ne) (a := (tk).toInt) (b := 91) rfl (by decide) k3
      refine XW.fam (S' := (51, [(0, .ref 41), (1, .int ov)], [], (sh, I, L, R))) (M := mr_105) rfl (show mcode 105 48 = some (48, .if_icmp .ne 27, 3, 75, 0, 0, _) from rfl) (Or.inr (Or.inl ⟨51, [], by simp [brn, k3], rfl⟩)) ?_
      by_cases h8 : 8 ≤ o
      · skip
        refine XW.fam (S' := (52, [(0, .ref 41), (1, .int ov)], [.ref 41], (sh, I, L, R))) (M := mr_105) rfl (show mcode 105 51 = some (51, .aload_n 0, 1, 0, 0, 0, _) from rfl) (Or.inl ⟨.ref 41, rfl, rfl⟩) ?_
        refine XW.fam (S' := (53, [(0, .ref 41), (1, .int ov)], [.int ov, .ref 41], (sh, I, L, R))) (M := mr_105) rfl (show mcode 105 52 = some (52, .iload_n 1, 1, 0, 0, 0, _) from rfl) (Or.inl ⟨.int ov, rfl, rfl⟩) ?_
        refine XW.call (d' := d + 1) (mc' := 0) (ms' := 0) (av := [.ref 41, .int ov]) (rest := []) (M := mr_105) (Ma := mr_106) rfl (show mcode 105 53 = some (53, .invokevirtual 118, 3, 106, 0, 0, _) from rfl) rfl (by decide) (by decide) ⟨rfl, 41, _, rfl, c41⟩ rfl rfl (show 0 ≤ 8 by decide) (tc_mayN (d := d) hT hw hf hk hst (by omega)) (by omega) (Nat.zero_le _) (Nat.zero_le _) (fun rQ30 wQ30 Q30 => ?_)
        obtain ⟨hrQ30, hfQ30, hwQ30, hkQ30, hsQ30⟩ := Q30
        subst hrQ30
        obtain ⟨shQ30, IQ30, LQ30, RQ30⟩ := wQ30
        obtain rfl : sh = shQ30 := hwQ30.2.2.2.1.symm
        obtain rfl : R = RQ30 := hwQ30.2.2.2.2.1.symm
        have hkQ30 : ∀ q k, inm mdT q k = false → IQ30 q k = J q k := hkQ30
        refine XW.fam (S' := (129, [(0, .ref 41), (1, .int ov)], [], (sh, IQ30, LQ30, R))) (M := mr_105) rfl (show mcode 105 56 = some (56, .ifCond .eq 73, 3, 129, 0, 0, _) from rfl) (Or.inr (Or.inl ⟨129, [], rfl, rfl⟩)) ?_
        refine XW.ret (r := none) ⟨rfl, by decide +kernel⟩ ?_
        rw [gPx_5]
        unfold g5
        rw [if_neg (by omega), if_pos (by omega), if_pos (by omega)]
        exact ⟨rfl, hfQ30, hwQ30, hkQ30, hsQ30⟩
      · skip
        refine XW.fam (S' := (52, [(0, .ref 41), (1, .int ov)], [.ref 41], (sh, I, L, R))) (M := mr_105) rfl (show mcode 105 51 = some (51, .aload_n 0, 1, 0, 0, 0, _) from rfl) (Or.inl ⟨.ref 41, rfl, rfl⟩) ?_
        refine XW.fam (S' := (53, [(0, .ref 41), (1, .int ov)], [.int ov, .ref 41], (sh, I, L, R))) (M := mr_105) rfl (show mcode 105 52 = some (52, .iload_n 1, 1, 0, 0, 0, _) from rfl) (Or.inl ⟨.int ov, rfl, rfl⟩) ?_
        refine XW.call (d' := d + 1) (mc' := 0) (ms' := 0) (av := [.ref 41, .int ov]) (rest := []) (M := mr_105) (Ma := mr_106) rfl (show mcode 105 53 = some (53, .invokevirtual 118, 3, 106, 0, 0, _) from rfl) rfl (by decide) (by decide) ⟨rfl, 41, _, rfl, c41⟩ rfl rfl (show 0 ≤ 8 by decide) (tc_mayY (d := d) hT hw hf hk hst (by omega) (lt_N hN hle (by omega))) (by omega) (Nat.zero_le _) (Nat.zero_le _) (fun rQ31 wQ31 Q31 => ?_)
        obtain ⟨hrQ31, hfQ31, hwQ31, hkQ31, hsQ31⟩ := Q31
        subst hrQ31
        obtain ⟨shQ31, IQ31, LQ31, RQ31⟩ := wQ31
        obtain rfl : sh = shQ31 := hwQ31.2.2.2.1.symm
        obtain rfl : R = RQ31 := hwQ31.2.2.2.2.1.symm
        have hkQ31 : ∀ q k, inm mdT q k = false → IQ31 q k = J q k := hkQ31
        refine XW.fam (S' := (59, [(0, .ref 41), (1, .int ov)], [], (sh, IQ31, LQ31, R))) (M := mr_105) rfl (show mcode 105 56 = some (56, .ifCond .eq 73, 3, 129, 0, 0, _) from rfl) (Or.inr (Or.inl ⟨59, [], rfl, rfl⟩)) ?_
        refine XW.fam (S' := (60, [(0, .ref 41), (1, .int ov)], [.ref 41], (sh, IQ31, LQ31, R))) (M := mr_105) rfl (show mcode 105 59 = some (59, .aload_n 0, 1, 0, 0, 0, _) from rfl) (Or.inl ⟨.ref 41, rfl, rfl⟩) ?_
        refine XW.fam (S' := (61, [(0, .ref 41), (1, .int ov)], [.int ov, .ref 41], (sh, IQ31, LQ31, R))) (M := mr_105) rfl (show mcode 105 60 = some (60, .iload_n 1, 1, 0, 0, 0, _) from rfl) (Or.inl ⟨.int ov, rfl, rfl⟩) ?_
        refine XW.fam (S' := (62, [(0, .ref 41), (1, .int ov)], [.int 1, .int ov, .ref 41], (sh, IQ31, LQ31, R))) (M := mr_105) rfl (show mcode 105 61 = some (61, .iconst 1, 1, 0, 0, 0, _) from rfl) (Or.inl ⟨.int 1, rfl, rfl⟩) ?_
        refine XW.fam (S' := (63, [(0, .ref 41), (1, .int ov)], [.int (ov + 1), .ref 41], (sh, IQ31, LQ31, R))) (M := mr_105) rfl (show mcode 105 62 = some (62, .iadd, 1, 0, 0, 0, _) from rfl) (Or.inr (Or.inr (Or.inr (Or.inr (Or.inr (Or.inl ⟨_, rfl, rfl⟩)))))) ?_
        have hov1 := inc32 (m := ov) (by omega) (by omega)
        refine XW.call (d' := (d + 2 + (6 * (8 - (o + 1)) + 6))) (mc' := 0) (ms' := 0) (av := [.ref 41, .int (ov + 1)]) (rest := []) (M := mr_105) (Ma := mr_103) rfl (show mcode 105 63 = some (63, .invokevirtual 101, 3, 103, 0, 0, _) from rfl) rfl (by decide) (by decide) ⟨rfl, 41, _, rfl, c41⟩ rfl rfl (show 0 ≤ 8 by decide) (Ha (o + 1) (i + 1) (ov + 1) (by omega) (by omega) hwQ31 hfQ31 hkQ31 (hsQ31.1 rfl) (by omega)) (by omega) (Nat.zero_le _) (Nat.zero_le _) (fun rQ32 wQ32 Q32 => ?_)
        obtain ⟨hrQ32, hfQ32, hwQ32, hkQ32, hsQ32⟩ := Q32
        subst hrQ32
        obtain ⟨shQ32, IQ32, LQ32, RQ32⟩ := wQ32
        obtain rfl : sh = shQ32 := hwQ32.2.2.2.1.symm
        obtain rfl : R = RQ32 := hwQ32.2.2.2.2.1.symm
        have hkQ32 : ∀ q k, inm mdT q k = false → IQ32 q k = J q k := hkQ32
        refine XW.fam (S' := (67, [(0, .ref 41), (1, .int ov)], [.ref 41], (sh, IQ32, LQ32, R))) (M := mr_105) rfl (show mcode 105 66 = some (66, .aload_n 0, 1, 0, 0, 0, _) from rfl) (Or.inl ⟨.ref 41, rfl, rfl⟩) ?_
        refine XW.fam (S' := (69, [(0, .ref 41), (1, .int ov)], [.int 93, .ref 41], (sh, IQ32, LQ32, R))) (M := mr_105) rfl (show mcode 105 67 = some (67, .bipush 93, 2, 0, 0, 0, _) from rfl) (Or.inl ⟨.int 93, rfl, rfl⟩) ?_
        refine XW.call (d' := d + 1) (mc' := 0) (ms' := 0) (av := [.ref 41, .int 93]) (rest := []) (M := mr_105) (Ma := mr_108) rfl (show mcode 105 69 = some (69, .invokevirtual 121, 3, 108, 0, 0, _) from rfl) rfl (by decide) (by decide) ⟨rfl, 41, _, rfl, c41⟩ rfl rfl (show 0 ≤ 8 by decide) (tc_cl (d := d) (c := 93) hT (show QW sh R J K S N (gPx K f 9 (o + 1) (i + 1)) (sh, IQ32, LQ32, R) from ⟨hfQ32, hwQ32, hkQ32, hsQ32⟩) rfl (by decide)) (by omega) (Nat.zero_le _) (Nat.zero_le _) (fun rQ33 wQ33 Q33 => ?_)
        obtain ⟨hrQ33, hfQ33, hwQ33, hkQ33, hsQ33⟩ := Q33
        subst hrQ33
        obtain ⟨shQ33, IQ33, LQ33, RQ33⟩ := wQ33
        obtain rfl : sh = shQ33 := hwQ33.2.2.2.1.symm
        obtain rfl : R = RQ33 := hwQ33.2.2.2.2.1.symm
        have hkQ33 : ∀ q k, inm mdT q k = false → IQ33 q k = J q k := hkQ33
        refine XW.fam (S' := (129, [(0, .ref 41), (1, .int ov)], [], (sh, IQ33, LQ33, R))) (M := mr_105) rfl (show mcode 105 72 = some (72, .goto 57, 3, 129, 0, 0, _) from rfl) (Or.inr (Or.inl ⟨129, [], rfl, rfl⟩)) ?_
        refine XW.ret (r := none) ⟨rfl, by decide +kernel⟩ ?_
        rw [gPx_5]
        unfold g5
        rw [if_neg (by omega), if_pos (by omega), if_neg (by omega)]
        exact ⟨rfl, hfQ33, hwQ33, hkQ33, hsQ33⟩
  | false =>
    have gk2 : ¬ (¬ (tk).toInt = 263) := icF (c := .ne) (a := (tk).toInt) (b := 263) rfl (by decide) k2
    refine XW.fam (S' := (18, [(0, .ref 41), (1, .int ov)], [], (sh, I, L, R))) (M := mr_105) rfl (show mcode 105 15 = some (15, .if_icmp .ne 27, 3, 42, 0, 0, _) from rfl) (Or.inr (Or.inl ⟨18, [], by simp [brn, k2], rfl⟩)) ?_
    by_cases h8 : 8 ≤ o
    · skip
      refine XW.fam (S' := (19, [(0, .ref 41), (1, .int ov)], [.ref 41], (sh, I, L, R))) (M := mr_105) rfl (show mcode 105 18 = some (18, .aload_n 0, 1, 0, 0, 0, _) from rfl) (Or.inl ⟨.ref 41, rfl, rfl⟩) ?_
      refine XW.fam (S' := (20, [(0, .ref 41), (1, .int ov)], [.int ov, .ref 41], (sh, I, L, R))) (M := mr_105) rfl (show mcode 105 19 = some (19, .iload_n 1, 1, 0, 0, 0, _) from rfl) (Or.inl ⟨.int ov, rfl, rfl⟩) ?_
      refine XW.call (d' := d + 1) (mc' := 0) (ms' := 0) (av := [.ref 41, .int ov]) (rest := []) (M := mr_105) (Ma := mr_106) rfl (show mcode 105 20 = some (20, .invokevirtual 118, 3, 106, 0, 0, _) from rfl) rfl (by decide) (by decide) ⟨rfl, 41, _, rfl, c41⟩ rfl rfl (show 0 ≤ 8 by decide) (tc_mayN (d := d) hT hw hf hk hst (by omega)) (by omega) (Nat.zero_le _) (Nat.zero_le _) (fun rQ34 wQ34 Q34 => ?_)
      obtain ⟨hrQ34, hfQ34, hwQ34, hkQ34, hsQ34⟩ := Q34
      subst hrQ34
      obtain ⟨shQ34, IQ34, LQ34, RQ34⟩ := wQ34
      obtain rfl : sh = shQ34 := hwQ34.2.2.2.1.symm
      obtain rfl : R = RQ34 := hwQ34.2.2.2.2.1.symm
      have hkQ34 : ∀ q k, inm mdT q k = false → IQ34 q k = J q k := hkQ34
      refine XW.fam (S' := (129, [(0, .ref 41), (1, .int ov)], [], (sh, IQ34, LQ34, R))) (M := mr_105) rfl (show mcode 105 23 = some (23, .ifCond .eq 106, 3, 129, 0, 0, _) from rfl) (Or.inr (Or.inl ⟨129, [], rfl, rfl⟩)) ?_
      refine XW.ret (r := none) ⟨rfl, by decide +kernel⟩ ?_
      rw [gPx_5]
      unfold g5
      rw [if_pos (by omega), if_pos (by omega)]
      exact ⟨rfl, hfQ34, hwQ34, hkQ34, hsQ34⟩
    · skip
      refine XW.fam (S' := (19, [(0, .ref 41), (1, .int ov)], [.ref 41], (sh, I, L, R))) (M := mr_105) rfl (show mcode 105 18 = some (18, .aload_n 0, 1, 0, 0, 0, _) from rfl) (Or.inl ⟨.ref 41, rfl, rfl⟩) ?_
      refine XW.fam (S' := (20, [(0, .ref 41), (1, .int ov)], [.int ov, .ref 41], (sh, I, L, R))) (M := mr_105) rfl (show mcode 105 19 = some (19, .iload_n 1, 1, 0, 0, 0, _) from rfl) (Or.inl ⟨.int ov, rfl, rfl⟩) ?_
      refine XW.call (d' := d + 1) (mc' := 0) (ms' := 0) (av := [.ref 41, .int ov]) (rest := []) (M := mr_105) (Ma := mr_106) rfl (show mcode 105 20 = some (20, .invokevirtual 118, 3, 106, 0, 0, _) from rfl) rfl (by decide) (by decide) ⟨rfl, 41, _, rfl, c41⟩ rfl rfl (show 0 ≤ 8 by decide) (tc_mayY (d := d) hT hw hf hk hst (by omega) (lt_N hN hle (by omega))) (by omega) (Nat.zero_le _) (Nat.zero_le _) (fun rQ35 wQ35 Q35 => ?_)
      obtain ⟨hrQ35, hfQ35, hwQ35, hkQ35, hsQ35⟩ := Q35
      subst hrQ35
      obtain ⟨shQ35, IQ35, LQ35, RQ35⟩ := wQ35
      obtain rfl : sh = shQ35 := hwQ35.2.2.2.1.symm
      obtain rfl : R = RQ35 := hwQ35.2.2.2.2.1.symm
      have hkQ35 : ∀ q k, inm mdT q k = false → IQ35 q k = J q k := hkQ35
      refine XW.fam (S' := (26, [(0, .ref 41), (1, .int ov)], [], (sh, IQ35, LQ35, R))) (M := mr_105) rfl (show mcode 105 23 = some (23, .ifCond .eq 106, 3, 129, 0, 0, _) from rfl) (Or.inr (Or.inl ⟨26, [], rfl, rfl⟩)) ?_
      refine XW.fam (S' := (27, [(0, .ref 41), (1, .int ov)], [.ref 41], (sh, IQ35, LQ35, R))) (M := mr_105) rfl (show mcode 105 26 = some (26, .aload_n 0, 1, 0, 0, 0, _) from rfl) (Or.inl ⟨.ref 41, rfl, rfl⟩) ?_
      refine XW.fam (S' := (28, [(0, .ref 41), (1, .int ov)], [.int ov, .ref 41], (sh, IQ35, LQ35, R))) (M := mr_105) rfl (show mcode 105 27 = some (27, .iload_n 1, 1, 0, 0, 0, _) from rfl) (Or.inl ⟨.int ov, rfl, rfl⟩) ?_
      refine XW.fam (S' := (29, [(0, .ref 41), (1, .int ov)], [.int 1, .int ov, .ref 41], (sh, IQ35, LQ35, R))) (M := mr_105) rfl (show mcode 105 28 = some (28, .iconst 1, 1, 0, 0, 0, _) from rfl) (Or.inl ⟨.int 1, rfl, rfl⟩) ?_
      refine XW.fam (S' := (30, [(0, .ref 41), (1, .int ov)], [.int (ov + 1), .ref 41], (sh, IQ35, LQ35, R))) (M := mr_105) rfl (show mcode 105 29 = some (29, .iadd, 1, 0, 0, 0, _) from rfl) (Or.inr (Or.inr (Or.inr (Or.inr (Or.inr (Or.inl ⟨_, rfl, rfl⟩)))))) ?_
      have hov1 := inc32 (m := ov) (by omega) (by omega)
      refine XW.call (d' := (d + 2 + (6 * (8 - (o + 1)) + 4))) (mc' := 0) (ms' := 0) (av := [.ref 41, .int (ov + 1)]) (rest := []) (M := mr_105) (Ma := mr_105) rfl (show mcode 105 30 = some (30, .invokevirtual 115, 3, 105, 0, 0, _) from rfl) rfl (by decide) (by decide) ⟨rfl, 41, _, rfl, c41⟩ rfl rfl (show 0 ≤ 8 by decide) (Ht (o + 1) (i + 1) (ov + 1) (by omega) (by omega) hwQ35 hfQ35 hkQ35 (hsQ35.1 rfl) (by omega)) (by omega) (Nat.zero_le _) (Nat.zero_le _) (fun rQ36 wQ36 Q36 => ?_)
      obtain ⟨hrQ36, hfQ36, hwQ36, hkQ36, hsQ36⟩ := Q36
      subst hrQ36
      obtain ⟨shQ36, IQ36, LQ36, RQ36⟩ := wQ36
      obtain rfl : sh = shQ36 := hwQ36.2.2.2.1.symm
      obtain rfl : R = RQ36 := hwQ36.2.2.2.2.1.symm
      have hkQ36 : ∀ q k, inm mdT q k = false → IQ36 q k = J q k := hkQ36
      refine XW.fam (S' := (34, [(0, .ref 41), (1, .int ov)], [.ref 41], (sh, IQ36, LQ36, R))) (M := mr_105) rfl (show mcode 105 33 = some (33, .aload_n 0, 1, 0, 0, 0, _) from rfl) (Or.inl ⟨.ref 41, rfl, rfl⟩) ?_
      refine XW.fam (S' := (35, [(0, .ref 41), (1, .int ov)], [.int 5, .ref 41], (sh, IQ36, LQ36, R))) (M := mr_105) rfl (show mcode 105 34 = some (34, .iconst 5, 1, 0, 0, 0, _) from rfl) (Or.inl ⟨.int 5, rfl, rfl⟩) ?_
      refine XW.fam (S' := (36, [(0, .ref 41), (1, .int ov)], [.int 0, .int 5, .ref 41], (sh, IQ36, LQ36, R))) (M := mr_105) rfl (show mcode 105 35 = some (35, .iconst 0, 1, 0, 0, 0, _) from rfl) (Or.inl ⟨.int 0, rfl, rfl⟩) ?_
      refine XW.call (d' := d) (mc' := 0) (ms' := 0) (av := [.ref 41, .int 5, .int 0]) (rest := []) (M := mr_105) (Ma := mr_107) rfl (show mcode 105 36 = some (36, .invokevirtual 108, 3, 107, 0, 0, _) from rfl) rfl (by decide) (by decide) ⟨rfl, 41, _, rfl, c41⟩ rfl rfl (show 0 ≤ 8 by decide) (tc_wrQ (d := d) (show QW sh R J K S N (gPx K f 5 (o + 1) (i + 1)) (sh, IQ36, LQ36, R) from ⟨hfQ36, hwQ36, hkQ36, hsQ36⟩)) (by omega) (Nat.zero_le _) (Nat.zero_le _) (fun rQ37 wQ37 Q37 => ?_)
      obtain ⟨hrQ37, hfQ37, hwQ37, hkQ37, hsQ37⟩ := Q37
      subst hrQ37
      obtain ⟨shQ37, IQ37, LQ37, RQ37⟩ := wQ37
      obtain rfl : sh = shQ37 := hwQ37.2.2.2.1.symm
      obtain rfl : R = RQ37 := hwQ37.2.2.2.2.1.symm
      have hkQ37 : ∀ q k, inm mdT q k = false → IQ37 q k = J q k := hkQ37
      refine XW.fam (S' := (129, [(0, .ref 41), (1, .int ov)], [], (sh, IQ37, LQ37, R))) (M := mr_105) rfl (show mcode 105 39 = some (39, .goto 90, 3, 129, 0, 0, _) from rfl) (Or.inr (Or.inl ⟨129, [], rfl, rfl⟩)) ?_
      refine XW.ret (r := none) ⟨rfl, by decide +kernel⟩ ?_
      rw [gPx_5]
      unfold g5
      rw [if_pos (by omega), if_neg (by omega)]
      exact ⟨rfl, hfQ37, hwQ37, hkQ37, hsQ37⟩
theorem gram_all {d : Nat} {sh : List mE} {J : Nat → Nat → Int32} {R : Nat → Nat → Option Nat} {K : Nat → Int} {S : Nat → Nat} {N : Nat} (hT : tvC J K S N) : ∀ f, CTx sh R J K S N d 111 1 0 f ∧ CTx sh R J K S N d 110 2 2 f ∧ CTx sh R J K S N d 109 3 4 f ∧ CTx sh R J K S N d 105 4 5 f ∧ CTx sh R J K S N d 104 5 7 f ∧ CTx sh R J K S N d 103 6 9 f := by
  intro f
  induction f using Nat.strongRecOn with
  | ind f ih =>
    cases f with
    | zero =>
      refine ⟨?_, ?_, ?_, ?_, ?_, ?_⟩ <;> (intro o i ov I L _ _ _ _ _ _ hmu; exfalso; omega)
    | succ f =>
      have h := ih f (by omega)
      exact ⟨one_of hT h.2.2.1, prd_of hT (fun f2 h2 => (ih f2 h2).1), sum_of hT (fun f2 h2 => (ih f2 h2).2.1), tst_of hT h.2.2.2.1 h.2.2.2.2.2 h.2.2.1, all_of hT (fun f2 h2 => (ih f2 h2).2.2.2.1), any_of hT (fun f2 h2 => (ih f2 h2).2.2.2.2.1)⟩
theorem ln_tail {d F : Nat} {sh : List mE} {J : Nat → Nat → Int32} {R : Nat → Nat → Option Nat} {K : Nat → Int} {S : Nat → Nat} {N : Nat} {I : Nat → Nat → Int32} {L : Nat → Nat → Int64} {lv pt : Int32} {g : Bool × Nat} (hT : tvC J K S N) (Hf : 2500 ≤ F) (Ha : CTx sh R J K S N d 103 6 9 F) (hw : wOK (mkT vV []) (wE sh R) (sh, I, L, R)) (hf : fresh (sh, I, L, R)) (hk : ∀ q k, inm mdT q k = false → I q k = J q k) (hs : rsC K S N I g) : XW 100 mr_100 none (d + 2 + (6 * (8 - 0) + 7)) 0 0 (QT sh R J K S N (gB g (fun j => if K j = 260 ∧ (lv.toInt = 256 ∨ lv.toInt = 259) then gPx K F 9 0 (j + 1) else (true, j)))) (89, [(2, .int pt), (1, .int lv), (0, .ref 41)], [], (sh, I, L, R)) := by
  obtain ⟨⟨hN5, hN2⟩, hN, hTk⟩ := id hT
  have c41 : sh[41]? = some (.inr 5) := hw.1 41 _ rfl
  have z0 : (0 : Int32).toInt = 0 := rfl
  have z1 : (1 : Int32).toInt = 1 := rfl
  have z6 : (6 : Int32).toInt = 6 := rfl
  have z7 : (7 : Int32).toInt = 7 := rfl
  have z8 : (8 : Int32).toInt = 8 := rfl
  have z9 : (9 : Int32).toInt = 9 := rfl
  have z10 : (10 : Int32).toInt = 10 := rfl
  have z11 : (11 : Int32).toInt = 11 := rfl
  have z256 : (256 : Int32).toInt = 256 := rfl
  have z257 : (257 : Int32).toInt = 257 := rfl
  have z259 : (259 : Int32).toInt = 259 := rfl
  have z260 : (260 : Int32).toInt = 260 := rfl
  cases e : g.1 with
  | true =>
    have hst := hs.1 e
    have eg : g = (true, g.2) := Prod.ext e rfl
    obtain ⟨a, ea⟩ : ∃ z : Int32, I 41 6 = z := ⟨_, rfl⟩
    have ha : a.toInt = (g.2 : Int) := by rw [← ea]; exact hst.1
    obtain ⟨tk, etk⟩ : ∃ z : Int32, I 41 7 = z := ⟨_, rfl⟩
    have htk : tk.toInt = K g.2 := by rw [← etk]; exact hst.2.1
    obtain ⟨fl, efl⟩ : ∃ z : Int32, I 41 8 = z := ⟨_, rfl⟩
    have hfl : fl.toInt = -1 := by rw [← efl]; exact hst.2.2.1
    have hle : g.2 ≤ N := hst.2.2.2
    have hlt : ¬ K g.2 = 302 → g.2 < N := lt_N hN hle
    refine XW.fam (S' := (90, [(2, .int pt), (1, .int lv), (0, .ref 41)], [.ref 41], (sh, I, L, R))) (M := mr_100) rfl (show mcode 100 89 = some (89, .aload_n 0, 1, 0, 0, 0, _) from rfl) (Or.inl ⟨.ref 41, rfl, rfl⟩) ?_
    refine XW.fam (S' := (93, [(2, .int pt), (1, .int lv), (0, .ref 41)], [.int (I 41 8)], (sh, I, L, R))) (M := mr_100) rfl (show mcode 100 90 = some (90, .getfield 44, 3, 5, 8, 0, _) from rfl) (Or.inr (Or.inr (Or.inr (Or.inr (Or.inr (Or.inr (Or.inr (Or.inl ⟨_, _, rfl, fl_ldI c41 (by decide) (by decide), rfl⟩)))))))) ?_
    rw [efl]
    have k1 : bcmp .ge fl 0 = false := bcF (c := .ge) (a := (fl).toInt) (b := 0) rfl (by decide) (by show ¬ (0 ≤ (fl).toInt); omega)
    refine XW.fam (S' := (96, [(2, .int pt), (1, .int lv), (0, .ref 41)], [], (sh, I, L, R))) (M := mr_100) rfl (show mcode 100 93 = some (93, .ifCond .ge 31, 3, 124, 0, 0, _) from rfl) (Or.inr (Or.inl ⟨96, [], by simp [brn, k1], rfl⟩)) ?_
    refine XW.fam (S' := (97, [(2, .int pt), (1, .int lv), (0, .ref 41)], [.ref 41], (sh, I, L, R))) (M := mr_100) rfl (show mcode 100 96 = some (96, .aload_n 0, 1, 0, 0, 0, _) from rfl) (Or.inl ⟨.ref 41, rfl, rfl⟩) ?_
    refine XW.fam (S' := (100, [(2, .int pt), (1, .int lv), (0, .ref 41)], [.int (I 41 7)], (sh, I, L, R))) (M := mr_100) rfl (show mcode 100 97 = some (97, .getfield 38, 3, 5, 7, 0, _) from rfl) (Or.inr (Or.inr (Or.inr (Or.inr (Or.inr (Or.inr (Or.inr (Or.inl ⟨_, _, rfl, fl_ldI c41 (by decide) (by decide), rfl⟩)))))))) ?_
    rw [etk]
    refine XW.fam (S' := (103, [(2, .int pt), (1, .int lv), (0, .ref 41)], [.int 260, .int tk], (sh, I, L, R))) (M := mr_100) rfl (show mcode 100 100 = some (100, .sipush 260, 3, 0, 0, 0, _) from rfl) (Or.inl ⟨.int 260, rfl, rfl⟩) ?_
    cases k2 : bcmp .ne tk 260 with
    | true =>
      have gk2 : ¬ (tk).toInt = 260 := icT (c := .ne) (a := (tk).toInt) (b := 260) rfl (by decide) k2
      refine XW.fam (S' := (124, [(2, .int pt), (1, .int lv), (0, .ref 41)], [], (sh, I, L, R))) (M := mr_100) rfl (show mcode 100 103 = some (103, .if_icmp .ne 21, 3, 124, 0, 0, _) from rfl) (Or.inr (Or.inl ⟨124, [], by simp [brn, k2], rfl⟩)) ?_
      refine XW.fam (S' := (125, [(2, .int pt), (1, .int lv), (0, .ref 41)], [.int 0], (sh, I, L, R))) (M := mr_100) rfl (show mcode 100 124 = some (124, .iconst 0, 1, 0, 0, 0, _) from rfl) (Or.inl ⟨.int 0, rfl, rfl⟩) ?_
      refine XW.fam (S' := (126, [(3, .int 0), (2, .int pt), (1, .int lv), (0, .ref 41)], [], (sh, I, L, R))) (M := mr_100) rfl (show mcode 100 125 = some (125, .istore_n 3, 1, 0, 0, 0, _) from rfl) (Or.inr (Or.inr (Or.inr (Or.inr (Or.inr (Or.inr (Or.inl ⟨_, [], _, rfl, rfl, rfl⟩))))))) ?_
      refine XW.fam (S' := (127, [(3, .int 0), (2, .int pt), (1, .int lv), (0, .ref 41)], [.int 0], (sh, I, L, R))) (M := mr_100) rfl (show mcode 100 126 = some (126, .iload_n 3, 1, 0, 0, 0, _) from rfl) (Or.inl ⟨.int 0, rfl, rfl⟩) ?_
      refine XW.fam (S' := (139, [(3, .int 0), (2, .int pt), (1, .int lv), (0, .ref 41)], [], (sh, I, L, R))) (M := mr_100) rfl (show mcode 100 127 = some (127, .ifCond .eq 12, 3, 139, 0, 0, _) from rfl) (Or.inr (Or.inl ⟨139, [], rfl, rfl⟩)) ?_
      refine XW.fam (S' := (140, [(3, .int 0), (2, .int pt), (1, .int lv), (0, .ref 41)], [.int lv], (sh, I, L, R))) (M := mr_100) rfl (show mcode 100 139 = some (139, .iload_n 1, 1, 0, 0, 0, _) from rfl) (Or.inl ⟨.int lv, rfl, rfl⟩) ?_
      refine XW.fam (S' := (143, [(3, .int 0), (2, .int pt), (1, .int lv), (0, .ref 41)], [.int 256, .int lv], (sh, I, L, R))) (M := mr_100) rfl (show mcode 100 140 = some (140, .sipush 256, 3, 0, 0, 0, _) from rfl) (Or.inl ⟨.int 256, rfl, rfl⟩) ?_
      cases k3 : bcmp .ne lv 256 with
      | true =>
        have gk3 : ¬ (lv).toInt = 256 := icT (c := .ne) (a := (lv).toInt) (b := 256) rfl (by decide) k3
        refine XW.fam (S' := (165, [(3, .int 0), (2, .int pt), (1, .int lv), (0, .ref 41)], [], (sh, I, L, R))) (M := mr_100) rfl (show mcode 100 143 = some (143, .if_icmp .ne 22, 3, 165, 0, 0, _) from rfl) (Or.inr (Or.inl ⟨165, [], by simp [brn, k3], rfl⟩)) ?_
        refine XW.fam (S' := (166, [(3, .int 0), (2, .int pt), (1, .int lv), (0, .ref 41)], [.int lv], (sh, I, L, R))) (M := mr_100) rfl (show mcode 100 165 = some (165, .iload_n 1, 1, 0, 0, 0, _) from rfl) (Or.inl ⟨.int lv, rfl, rfl⟩) ?_
        refine XW.fam (S' := (169, [(3, .int 0), (2, .int pt), (1, .int lv), (0, .ref 41)], [.int 259, .int lv], (sh, I, L, R))) (M := mr_100) rfl (show mcode 100 166 = some (166, .sipush 259, 3, 0, 0, 0, _) from rfl) (Or.inl ⟨.int 259, rfl, rfl⟩) ?_
        cases k4 : bcmp .ne lv 259 with
        | true =>
          have gk4 : ¬ (lv).toInt = 259 := icT (c := .ne) (a := (lv).toInt) (b := 259) rfl (by decide) k4
          refine XW.fam (S' := (191, [(3, .int 0), (2, .int pt), (1, .int lv), (0, .ref 41)], [], (sh, I, L, R))) (M := mr_100) rfl (show mcode 100 169 = some (169, .if_icmp .ne 22, 3, 191, 0, 0, _) from rfl) (Or.inr (Or.inl ⟨191, [], by simp [brn, k4], rfl⟩)) ?_
          refine XW.fam (S' := (192, [(3, .int 0), (2, .int pt), (1, .int lv), (0, .ref 41)], [.ref 41], (sh, I, L, R))) (M := mr_100) rfl (show mcode 100 191 = some (191, .aload_n 0, 1, 0, 0, 0, _) from rfl) (Or.inl ⟨.ref 41, rfl, rfl⟩) ?_
          refine XW.fam (S' := (193, [(3, .int 0), (2, .int pt), (1, .int lv), (0, .ref 41)], [.int lv, .ref 41], (sh, I, L, R))) (M := mr_100) rfl (show mcode 100 192 = some (192, .iload_n 1, 1, 0, 0, 0, _) from rfl) (Or.inl ⟨.int lv, rfl, rfl⟩) ?_
          refine XW.fam (S' := (196, [(3, .int 0), (2, .int pt), (1, .int lv), (0, .ref 41)], [.int 257, .int lv, .ref 41], (sh, I, L, R))) (M := mr_100) rfl (show mcode 100 193 = some (193, .sipush 257, 3, 0, 0, 0, _) from rfl) (Or.inl ⟨.int 257, rfl, rfl⟩) ?_
          cases k5 : bcmp .ne lv 257 with
          | true =>
            have gk5 : ¬ (lv).toInt = 257 := icT (c := .ne) (a := (lv).toInt) (b := 257) rfl (by decide) k5
            refine XW.fam (S' := (204, [(3, .int 0), (2, .int pt), (1, .int lv), (0, .ref 41)], [.ref 41], (sh, I, L, R))) (M := mr_100) rfl (show mcode 100 196 = some (196, .if_icmp .ne 8, 3, 204, 0, 0, _) from rfl) (Or.inr (Or.inl ⟨204, [.ref 41], by simp [brn, k5], rfl⟩)) ?_
            refine XW.fam (S' := (206, [(3, .int 0), (2, .int pt), (1, .int lv), (0, .ref 41)], [.int 9, .ref 41], (sh, I, L, R))) (M := mr_100) rfl (show mcode 100 204 = some (204, .bipush 9, 2, 0, 0, 0, _) from rfl) (Or.inl ⟨.int 9, rfl, rfl⟩) ?_
            refine XW.fam (S' := (207, [(3, .int 0), (2, .int pt), (1, .int lv), (0, .ref 41)], [.int 0, .int 9, .ref 41], (sh, I, L, R))) (M := mr_100) rfl (show mcode 100 206 = some (206, .iconst 0, 1, 0, 0, 0, _) from rfl) (Or.inl ⟨.int 0, rfl, rfl⟩) ?_
            refine XW.call (d' := d) (mc' := 0) (ms' := 0) (av := [.ref 41, .int 9, .int 0]) (rest := []) (M := mr_100) (Ma := mr_107) rfl (show mcode 100 207 = some (207, .invokevirtual 108, 3, 107, 0, 0, _) from rfl) rfl (by decide) (by decide) ⟨rfl, 41, _, rfl, c41⟩ rfl rfl (show 0 ≤ 8 by decide) (tc_wrQ (d := d) (show QW sh R J K S N g (sh, I, L, R) from ⟨hf, hw, hk, hs⟩)) (by omega) (Nat.zero_le _) (Nat.zero_le _) (fun rQ6 wQ6 Q6 => ?_)
            obtain ⟨hrQ6, hfQ6, hwQ6, hkQ6, hsQ6⟩ := Q6
            subst hrQ6
            obtain ⟨shQ6, IQ6, LQ6, RQ6⟩ := wQ6
            obtain rfl : sh = shQ6 := hwQ6.2.2.2.1.symm
            obtain rfl : R = RQ6 := hwQ6.2.2.2.2.1.symm
            have hkQ6 : ∀ q k, inm mdT q k = false → IQ6 q k = J q k := hkQ6
            refine XW.ret (r := none) ⟨rfl, by decide +kernel⟩ ?_
            rw [gB_t e]
            first
              | (rw [if_pos (by omega)]; exact ⟨rfl, hfQ6, hwQ6, hkQ6, hsQ6⟩)
              | (rw [if_neg (by omega)]; exact ⟨rfl, hfQ6, hwQ6, hkQ6, by rw [← eg]; exact hsQ6⟩)
          | false =>
            have gk5 : ¬ (¬ (lv).toInt = 257) := icF (c := .ne) (a := (lv).toInt) (b := 257) rfl (by decide) k5
            refine XW.fam (S' := (199, [(3, .int 0), (2, .int pt), (1, .int lv), (0, .ref 41)], [.ref 41], (sh, I, L, R))) (M := mr_100) rfl (show mcode 100 196 = some (196, .if_icmp .ne 8, 3, 204, 0, 0, _) from rfl) (Or.inr (Or.inl ⟨199, [.ref 41], by simp [brn, k5], rfl⟩)) ?_
            refine XW.fam (S' := (201, [(3, .int 0), (2, .int pt), (1, .int lv), (0, .ref 41)], [.int 8, .ref 41], (sh, I, L, R))) (M := mr_100) rfl (show mcode 100 199 = some (199, .bipush 8, 2, 0, 0, 0, _) from rfl) (Or.inl ⟨.int 8, rfl, rfl⟩) ?_
            refine XW.fam (S' := (206, [(3, .int 0), (2, .int pt), (1, .int lv), (0, .ref 41)], [.int 8, .ref 41], (sh, I, L, R))) (M := mr_100) rfl (show mcode 100 201 = some (201, .goto 5, 3, 206, 0, 0, _) from rfl) (Or.inr (Or.inl ⟨206, [.int 8, .ref 41], rfl, rfl⟩)) ?_
            refine XW.fam (S' := (207, [(3, .int 0), (2, .int pt), (1, .int lv), (0, .ref 41)], [.int 0, .int 8, .ref 41], (sh, I, L, R))) (M := mr_100) rfl (show mcode 100 206 = some (206, .iconst 0, 1, 0, 0, 0, _) from rfl) (Or.inl ⟨.int 0, rfl, rfl⟩) ?_
            refine XW.call (d' := d) (mc' := 0) (ms' := 0) (av := [.ref 41, .int 8, .int 0]) (rest := []) (M := mr_100) (Ma := mr_107) rfl (show mcode 100 207 = some (207, .invokevirtual 108, 3, 107, 0, 0, _) from rfl) rfl (by decide) (by decide) ⟨rfl, 41, _, rfl, c41⟩ rfl rfl (show 0 ≤ 8 by decide) (tc_wrQ (d := d) (show QW sh R J K S N g (sh, I, L, R) from ⟨hf, hw, hk, hs⟩)) (by omega) (Nat.zero_le _) (Nat.zero_le _) (fun rQ7 wQ7 Q7 => ?_)
            obtain ⟨hrQ7, hfQ7, hwQ7, hkQ7, hsQ7⟩ := Q7
            subst hrQ7
            obtain ⟨shQ7, IQ7, LQ7, RQ7⟩ := wQ7
            obtain rfl : sh = shQ7 := hwQ7.2.2.2.1.symm
            obtain rfl : R = RQ7 := hwQ7.2.2.2.2.1.symm
            have hkQ7 : ∀ q k, inm mdT q k = false → IQ7 q k = J q k := hkQ7
            refine XW.ret (r := none) ⟨rfl, by decide +kernel⟩ ?_
            rw [gB_t e]
            first
              | (rw [if_pos (by omega)]; exact ⟨rfl, hfQ7, hwQ7, hkQ7, hsQ7⟩)
              | (rw [if_neg (by omega)]; exact ⟨rfl, hfQ7, hwQ7, hkQ7, by rw [← eg]; exact hsQ7⟩)
        | false =>
          have gk4 : ¬ (¬ (lv).toInt = 259) := icF (c := .ne) (a := (lv).toInt) (b := 259) rfl (by decide) k4
          refine XW.fam (S' := (172, [(3, .int 0), (2, .int pt), (1, .int lv), (0, .ref 41)], [], (sh, I, L, R))) (M := mr_100) rfl (show mcode 100 169 = some (169, .if_icmp .ne 22, 3, 191, 0, 0, _) from rfl) (Or.inr (Or.inl ⟨172, [], by simp [brn, k4], rfl⟩)) ?_
          refine XW.fam (S' := (173, [(3, .int 0), (2, .int pt), (1, .int lv), (0, .ref 41)], [.ref 41], (sh, I, L, R))) (M := mr_100) rfl (show mcode 100 172 = some (172, .aload_n 0, 1, 0, 0, 0, _) from rfl) (Or.inl ⟨.ref 41, rfl, rfl⟩) ?_
          refine XW.fam (S' := (174, [(3, .int 0), (2, .int pt), (1, .int lv), (0, .ref 41)], [.int 0, .ref 41], (sh, I, L, R))) (M := mr_100) rfl (show mcode 100 173 = some (173, .iload_n 3, 1, 0, 0, 0, _) from rfl) (Or.inl ⟨.int 0, rfl, rfl⟩) ?_
          refine XW.fam (S' := (182, [(3, .int 0), (2, .int pt), (1, .int lv), (0, .ref 41)], [.ref 41], (sh, I, L, R))) (M := mr_100) rfl (show mcode 100 174 = some (174, .ifCond .eq 8, 3, 182, 0, 0, _) from rfl) (Or.inr (Or.inl ⟨182, [.ref 41], rfl, rfl⟩)) ?_
          refine XW.fam (S' := (184, [(3, .int 0), (2, .int pt), (1, .int lv), (0, .ref 41)], [.int 10, .ref 41], (sh, I, L, R))) (M := mr_100) rfl (show mcode 100 182 = some (182, .bipush 10, 2, 0, 0, 0, _) from rfl) (Or.inl ⟨.int 10, rfl, rfl⟩) ?_
          refine XW.fam (S' := (185, [(3, .int 0), (2, .int pt), (1, .int lv), (0, .ref 41)], [.int pt, .int 10, .ref 41], (sh, I, L, R))) (M := mr_100) rfl (show mcode 100 184 = some (184, .iload_n 2, 1, 0, 0, 0, _) from rfl) (Or.inl ⟨.int pt, rfl, rfl⟩) ?_
          refine XW.call (d' := d) (mc' := 0) (ms' := 0) (av := [.ref 41, .int 10, .int pt]) (rest := []) (M := mr_100) (Ma := mr_107) rfl (show mcode 100 185 = some (185, .invokevirtual 108, 3, 107, 0, 0, _) from rfl) rfl (by decide) (by decide) ⟨rfl, 41, _, rfl, c41⟩ rfl rfl (show 0 ≤ 8 by decide) (tc_wrQ (d := d) (show QW sh R J K S N g (sh, I, L, R) from ⟨hf, hw, hk, hs⟩)) (by omega) (Nat.zero_le _) (Nat.zero_le _) (fun rQ8 wQ8 Q8 => ?_)
          obtain ⟨hrQ8, hfQ8, hwQ8, hkQ8, hsQ8⟩ := Q8
          subst hrQ8
          obtain ⟨shQ8, IQ8, LQ8, RQ8⟩ := wQ8
          obtain rfl : sh = shQ8 := hwQ8.2.2.2.1.symm
          obtain rfl : R = RQ8 := hwQ8.2.2.2.2.1.symm
          have hkQ8 : ∀ q k, inm mdT q k = false → IQ8 q k = J q k := hkQ8
          refine XW.fam (S' := (210, [(3, .int 0), (2, .int pt), (1, .int lv), (0, .ref 41)], [], (sh, IQ8, LQ8, R))) (M := mr_100) rfl (show mcode 100 188 = some (188, .goto 22, 3, 210, 0, 0, _) from rfl) (Or.inr (Or.inl ⟨210, [], rfl, rfl⟩)) ?_
          refine XW.ret (r := none) ⟨rfl, by decide +kernel⟩ ?_
          rw [gB_t e]
          first
            | (rw [if_pos (by omega)]; exact ⟨rfl, hfQ8, hwQ8, hkQ8, hsQ8⟩)
            | (rw [if_neg (by omega)]; exact ⟨rfl, hfQ8, hwQ8, hkQ8, by rw [← eg]; exact hsQ8⟩)
      | false =>
        have gk3 : ¬ (¬ (lv).toInt = 256) := icF (c := .ne) (a := (lv).toInt) (b := 256) rfl (by decide) k3
        refine XW.fam (S' := (146, [(3, .int 0), (2, .int pt), (1, .int lv), (0, .ref 41)], [], (sh, I, L, R))) (M := mr_100) rfl (show mcode 100 143 = some (143, .if_icmp .ne 22, 3, 165, 0, 0, _) from rfl) (Or.inr (Or.inl ⟨146, [], by simp [brn, k3], rfl⟩)) ?_
        refine XW.fam (S' := (147, [(3, .int 0), (2, .int pt), (1, .int lv), (0, .ref 41)], [.ref 41], (sh, I, L, R))) (M := mr_100) rfl (show mcode 100 146 = some (146, .aload_n 0, 1, 0, 0, 0, _) from rfl) (Or.inl ⟨.ref 41, rfl, rfl⟩) ?_
        refine XW.fam (S' := (148, [(3, .int 0), (2, .int pt), (1, .int lv), (0, .ref 41)], [.int 0, .ref 41], (sh, I, L, R))) (M := mr_100) rfl (show mcode 100 147 = some (147, .iload_n 3, 1, 0, 0, 0, _) from rfl) (Or.inl ⟨.int 0, rfl, rfl⟩) ?_
        refine XW.fam (S' := (156, [(3, .int 0), (2, .int pt), (1, .int lv), (0, .ref 41)], [.ref 41], (sh, I, L, R))) (M := mr_100) rfl (show mcode 100 148 = some (148, .ifCond .eq 8, 3, 156, 0, 0, _) from rfl) (Or.inr (Or.inl ⟨156, [.ref 41], rfl, rfl⟩)) ?_
        refine XW.fam (S' := (158, [(3, .int 0), (2, .int pt), (1, .int lv), (0, .ref 41)], [.int 6, .ref 41], (sh, I, L, R))) (M := mr_100) rfl (show mcode 100 156 = some (156, .bipush 6, 2, 0, 0, 0, _) from rfl) (Or.inl ⟨.int 6, rfl, rfl⟩) ?_
        refine XW.fam (S' := (159, [(3, .int 0), (2, .int pt), (1, .int lv), (0, .ref 41)], [.int 0, .int 6, .ref 41], (sh, I, L, R))) (M := mr_100) rfl (show mcode 100 158 = some (158, .iconst 0, 1, 0, 0, 0, _) from rfl) (Or.inl ⟨.int 0, rfl, rfl⟩) ?_
        refine XW.call (d' := d) (mc' := 0) (ms' := 0) (av := [.ref 41, .int 6, .int 0]) (rest := []) (M := mr_100) (Ma := mr_107) rfl (show mcode 100 159 = some (159, .invokevirtual 108, 3, 107, 0, 0, _) from rfl) rfl (by decide) (by decide) ⟨rfl, 41, _, rfl, c41⟩ rfl rfl (show 0 ≤ 8 by decide) (tc_wrQ (d := d) (show QW sh R J K S N g (sh, I, L, R) from ⟨hf, hw, hk, hs⟩)) (by omega) (Nat.zero_le _) (Nat.zero_le _) (fun rQ9 wQ9 Q9 => ?_)
        obtain ⟨hrQ9, hfQ9, hwQ9, hkQ9, hsQ9⟩ := Q9
        subst hrQ9
        obtain ⟨shQ9, IQ9, LQ9, RQ9⟩ := wQ9
        obtain rfl : sh = shQ9 := hwQ9.2.2.2.1.symm
        obtain rfl : R = RQ9 := hwQ9.2.2.2.2.1.symm
        have hkQ9 : ∀ q k, inm mdT q k = false → IQ9 q k = J q k := hkQ9
        refine XW.fam (S' := (210, [(3, .int 0), (2, .int pt), (1, .int lv), (0, .ref 41)], [], (sh, IQ9, LQ9, R))) (M := mr_100) rfl (show mcode 100 162 = some (162, .goto 48, 3, 210, 0, 0, _) from rfl) (Or.inr (Or.inl ⟨210, [], rfl, rfl⟩)) ?_
        refine XW.ret (r := none) ⟨rfl, by decide +kernel⟩ ?_
        rw [gB_t e]
        first
          | (rw [if_pos (by omega)]; exact ⟨rfl, hfQ9, hwQ9, hkQ9, hsQ9⟩)
          | (rw [if_neg (by omega)]; exact ⟨rfl, hfQ9, hwQ9, hkQ9, by rw [← eg]; exact hsQ9⟩)
    | false =>
      have gk2 : ¬ (¬ (tk).toInt = 260) := icF (c := .ne) (a := (tk).toInt) (b := 260) rfl (by decide) k2
      refine XW.fam (S' := (106, [(2, .int pt), (1, .int lv), (0, .ref 41)], [], (sh, I, L, R))) (M := mr_100) rfl (show mcode 100 103 = some (103, .if_icmp .ne 21, 3, 124, 0, 0, _) from rfl) (Or.inr (Or.inl ⟨106, [], by simp [brn, k2], rfl⟩)) ?_
      refine XW.fam (S' := (107, [(2, .int pt), (1, .int lv), (0, .ref 41)], [.int lv], (sh, I, L, R))) (M := mr_100) rfl (show mcode 100 106 = some (106, .iload_n 1, 1, 0, 0, 0, _) from rfl) (Or.inl ⟨.int lv, rfl, rfl⟩) ?_
      refine XW.fam (S' := (110, [(2, .int pt), (1, .int lv), (0, .ref 41)], [.int 256, .int lv], (sh, I, L, R))) (M := mr_100) rfl (show mcode 100 107 = some (107, .sipush 256, 3, 0, 0, 0, _) from rfl) (Or.inl ⟨.int 256, rfl, rfl⟩) ?_
      cases k10 : bcmp .eq lv 256 with
      | true =>
        have gk10 : (lv).toInt = 256 := icT (c := .eq) (a := (lv).toInt) (b := 256) rfl (by decide) k10
        refine XW.fam (S' := (120, [(2, .int pt), (1, .int lv), (0, .ref 41)], [], (sh, I, L, R))) (M := mr_100) rfl (show mcode 100 110 = some (110, .if_icmp .eq 10, 3, 120, 0, 0, _) from rfl) (Or.inr (Or.inl ⟨120, [], by simp [brn, k10], rfl⟩)) ?_
        refine XW.fam (S' := (121, [(2, .int pt), (1, .int lv), (0, .ref 41)], [.int 1], (sh, I, L, R))) (M := mr_100) rfl (show mcode 100 120 = some (120, .iconst 1, 1, 0, 0, 0, _) from rfl) (Or.inl ⟨.int 1, rfl, rfl⟩) ?_
        refine XW.fam (S' := (125, [(2, .int pt), (1, .int lv), (0, .ref 41)], [.int 1], (sh, I, L, R))) (M := mr_100) rfl (show mcode 100 121 = some (121, .goto 4, 3, 125, 0, 0, _) from rfl) (Or.inr (Or.inl ⟨125, [.int 1], rfl, rfl⟩)) ?_
        refine XW.fam (S' := (126, [(3, .int 1), (2, .int pt), (1, .int lv), (0, .ref 41)], [], (sh, I, L, R))) (M := mr_100) rfl (show mcode 100 125 = some (125, .istore_n 3, 1, 0, 0, 0, _) from rfl) (Or.inr (Or.inr (Or.inr (Or.inr (Or.inr (Or.inr (Or.inl ⟨_, [], _, rfl, rfl, rfl⟩))))))) ?_
        refine XW.fam (S' := (127, [(3, .int 1), (2, .int pt), (1, .int lv), (0, .ref 41)], [.int 1], (sh, I, L, R))) (M := mr_100) rfl (show mcode 100 126 = some (126, .iload_n 3, 1, 0, 0, 0, _) from rfl) (Or.inl ⟨.int 1, rfl, rfl⟩) ?_
        refine XW.fam (S' := (130, [(3, .int 1), (2, .int pt), (1, .int lv), (0, .ref 41)], [], (sh, I, L, R))) (M := mr_100) rfl (show mcode 100 127 = some (127, .ifCond .eq 12, 3, 139, 0, 0, _) from rfl) (Or.inr (Or.inl ⟨130, [], rfl, rfl⟩)) ?_
        refine XW.fam (S' := (131, [(3, .int 1), (2, .int pt), (1, .int lv), (0, .ref 41)], [.ref 41], (sh, I, L, R))) (M := mr_100) rfl (show mcode 100 130 = some (130, .aload_n 0, 1, 0, 0, 0, _) from rfl) (Or.inl ⟨.ref 41, rfl, rfl⟩) ?_
        refine XW.call (d' := d) (mc' := 0) (ms' := 0) (av := [.ref 41]) (rest := []) (M := mr_100) (Ma := mr_102) rfl (show mcode 100 131 = some (131, .invokevirtual 50, 3, 102, 0, 0, _) from rfl) rfl (by decide) (by decide) ⟨rfl, 41, _, rfl, c41⟩ rfl rfl (show 0 ≤ 8 by decide) (tc_adv (d := d) hT hw hf hk hst (lt_N hN hle (by omega))) (by omega) (Nat.zero_le _) (Nat.zero_le _) (fun rQ11 wQ11 Q11 => ?_)
        obtain ⟨hrQ11, hfQ11, hwQ11, hkQ11, hsQ11⟩ := Q11
        subst hrQ11
        obtain ⟨shQ11, IQ11, LQ11, RQ11⟩ := wQ11
        obtain rfl : sh = shQ11 := hwQ11.2.2.2.1.symm
        obtain rfl : R = RQ11 := hwQ11.2.2.2.2.1.symm
        have hkQ11 : ∀ q k, inm mdT q k = false → IQ11 q k = J q k := hkQ11
        refine XW.fam (S' := (135, [(3, .int 1), (2, .int pt), (1, .int lv), (0, .ref 41)], [.ref 41], (sh, IQ11, LQ11, R))) (M := mr_100) rfl (show mcode 100 134 = some (134, .aload_n 0, 1, 0, 0, 0, _) from rfl) (Or.inl ⟨.ref 41, rfl, rfl⟩) ?_
        refine XW.fam (S' := (136, [(3, .int 1), (2, .int pt), (1, .int lv), (0, .ref 41)], [.int 0, .ref 41], (sh, IQ11, LQ11, R))) (M := mr_100) rfl (show mcode 100 135 = some (135, .iconst 0, 1, 0, 0, 0, _) from rfl) (Or.inl ⟨.int 0, rfl, rfl⟩) ?_
        refine XW.call (d' := (d + 2 + (6 * (8 - 0) + 6))) (mc' := 0) (ms' := 0) (av := [.ref 41, .int 0]) (rest := []) (M := mr_100) (Ma := mr_103) rfl (show mcode 100 136 = some (136, .invokevirtual 101, 3, 103, 0, 0, _) from rfl) rfl (by decide) (by decide) ⟨rfl, 41, _, rfl, c41⟩ rfl rfl (show 0 ≤ 8 by decide) (Ha 0 (g.2 + 1) 0 rfl (by omega) hwQ11 hfQ11 hkQ11 (hsQ11.1 rfl) (by omega)) (by omega) (Nat.zero_le _) (Nat.zero_le _) (fun rQ12 wQ12 Q12 => ?_)
        obtain ⟨hrQ12, hfQ12, hwQ12, hkQ12, hsQ12⟩ := Q12
        subst hrQ12
        obtain ⟨shQ12, IQ12, LQ12, RQ12⟩ := wQ12
        obtain rfl : sh = shQ12 := hwQ12.2.2.2.1.symm
        obtain rfl : R = RQ12 := hwQ12.2.2.2.2.1.symm
        have hkQ12 : ∀ q k, inm mdT q k = false → IQ12 q k = J q k := hkQ12
        refine XW.fam (S' := (140, [(3, .int 1), (2, .int pt), (1, .int lv), (0, .ref 41)], [.int lv], (sh, IQ12, LQ12, R))) (M := mr_100) rfl (show mcode 100 139 = some (139, .iload_n 1, 1, 0, 0, 0, _) from rfl) (Or.inl ⟨.int lv, rfl, rfl⟩) ?_
        refine XW.fam (S' := (143, [(3, .int 1), (2, .int pt), (1, .int lv), (0, .ref 41)], [.int 256, .int lv], (sh, IQ12, LQ12, R))) (M := mr_100) rfl (show mcode 100 140 = some (140, .sipush 256, 3, 0, 0, 0, _) from rfl) (Or.inl ⟨.int 256, rfl, rfl⟩) ?_
        cases k13 : bcmp .ne lv 256 with
        | true =>
          have gk13 : ¬ (lv).toInt = 256 := icT (c := .ne) (a := (lv).toInt) (b := 256) rfl (by decide) k13
          refine XW.fam (S' := (165, [(3, .int 1), (2, .int pt), (1, .int lv), (0, .ref 41)], [], (sh, IQ12, LQ12, R))) (M := mr_100) rfl (show mcode 100 143 = some (143, .if_icmp .ne 22, 3, 165, 0, 0, _) from rfl) (Or.inr (Or.inl ⟨165, [], by simp [brn, k13], rfl⟩)) ?_
          refine XW.fam (S' := (166, [(3, .int 1), (2, .int pt), (1, .int lv), (0, .ref 41)], [.int lv], (sh, IQ12, LQ12, R))) (M := mr_100) rfl (show mcode 100 165 = some (165, .iload_n 1, 1, 0, 0, 0, _) from rfl) (Or.inl ⟨.int lv, rfl, rfl⟩) ?_
          refine XW.fam (S' := (169, [(3, .int 1), (2, .int pt), (1, .int lv), (0, .ref 41)], [.int 259, .int lv], (sh, IQ12, LQ12, R))) (M := mr_100) rfl (show mcode 100 166 = some (166, .sipush 259, 3, 0, 0, 0, _) from rfl) (Or.inl ⟨.int 259, rfl, rfl⟩) ?_
          cases k14 : bcmp .ne lv 259 with
          | true =>
            have gk14 : ¬ (lv).toInt = 259 := icT (c := .ne) (a := (lv).toInt) (b := 259) rfl (by decide) k14
            refine XW.fam (S' := (191, [(3, .int 1), (2, .int pt), (1, .int lv), (0, .ref 41)], [], (sh, IQ12, LQ12, R))) (M := mr_100) rfl (show mcode 100 169 = some (169, .if_icmp .ne 22, 3, 191, 0, 0, _) from rfl) (Or.inr (Or.inl ⟨191, [], by simp [brn, k14], rfl⟩)) ?_
            refine XW.fam (S' := (192, [(3, .int 1), (2, .int pt), (1, .int lv), (0, .ref 41)], [.ref 41], (sh, IQ12, LQ12, R))) (M := mr_100) rfl (show mcode 100 191 = some (191, .aload_n 0, 1, 0, 0, 0, _) from rfl) (Or.inl ⟨.ref 41, rfl, rfl⟩) ?_
            refine XW.fam (S' := (193, [(3, .int 1), (2, .int pt), (1, .int lv), (0, .ref 41)], [.int lv, .ref 41], (sh, IQ12, LQ12, R))) (M := mr_100) rfl (show mcode 100 192 = some (192, .iload_n 1, 1, 0, 0, 0, _) from rfl) (Or.inl ⟨.int lv, rfl, rfl⟩) ?_
            refine XW.fam (S' := (196, [(3, .int 1), (2, .int pt), (1, .int lv), (0, .ref 41)], [.int 257, .int lv, .ref 41], (sh, IQ12, LQ12, R))) (M := mr_100) rfl (show mcode 100 193 = some (193, .sipush 257, 3, 0, 0, 0, _) from rfl) (Or.inl ⟨.int 257, rfl, rfl⟩) ?_
            cases k15 : bcmp .ne lv 257 with
            | true =>
              have gk15 : ¬ (lv).toInt = 257 := icT (c := .ne) (a := (lv).toInt) (b := 257) rfl (by decide) k15
              refine XW.fam (S' := (204, [(3, .int 1), (2, .int pt), (1, .int lv), (0, .ref 41)], [.ref 41], (sh, IQ12, LQ12, R))) (M := mr_100) rfl (show mcode 100 196 = some (196, .if_icmp .ne 8, 3, 204, 0, 0, _) from rfl) (Or.inr (Or.inl ⟨204, [.ref 41], by simp [brn, k15], rfl⟩)) ?_
              refine XW.fam (S' := (206, [(3, .int 1), (2, .int pt), (1, .int lv), (0, .ref 41)], [.int 9, .ref 41], (sh, IQ12, LQ12, R))) (M := mr_100) rfl (show mcode 100 204 = some (204, .bipush 9, 2, 0, 0, 0, _) from rfl) (Or.inl ⟨.int 9, rfl, rfl⟩) ?_
              refine XW.fam (S' := (207, [(3, .int 1), (2, .int pt), (1, .int lv), (0, .ref 41)], [.int 0, .int 9, .ref 41], (sh, IQ12, LQ12, R))) (M := mr_100) rfl (show mcode 100 206 = some (206, .iconst 0, 1, 0, 0, 0, _) from rfl) (Or.inl ⟨.int 0, rfl, rfl⟩) ?_
              refine XW.call (d' := d) (mc' := 0) (ms' := 0) (av := [.ref 41, .int 9, .int 0]) (rest := []) (M := mr_100) (Ma := mr_107) rfl (show mcode 100 207 = some (207, .invokevirtual 108, 3, 107, 0, 0, _) from rfl) rfl (by decide) (by decide) ⟨rfl, 41, _, rfl, c41⟩ rfl rfl (show 0 ≤ 8 by decide) (tc_wrQ (d := d) (show QW sh R J K S N (gPx K F 9 0 (g.2 + 1)) (sh, IQ12, LQ12, R) from ⟨hfQ12, hwQ12, hkQ12, hsQ12⟩)) (by omega) (Nat.zero_le _) (Nat.zero_le _) (fun rQ16 wQ16 Q16 => ?_)
              obtain ⟨hrQ16, hfQ16, hwQ16, hkQ16, hsQ16⟩ := Q16
              subst hrQ16
              obtain ⟨shQ16, IQ16, LQ16, RQ16⟩ := wQ16
              obtain rfl : sh = shQ16 := hwQ16.2.2.2.1.symm
              obtain rfl : R = RQ16 := hwQ16.2.2.2.2.1.symm
              have hkQ16 : ∀ q k, inm mdT q k = false → IQ16 q k = J q k := hkQ16
              refine XW.ret (r := none) ⟨rfl, by decide +kernel⟩ ?_
              rw [gB_t e]
              first
                | (rw [if_pos (by omega)]; exact ⟨rfl, hfQ16, hwQ16, hkQ16, hsQ16⟩)
                | (rw [if_neg (by omega)]; exact ⟨rfl, hfQ16, hwQ16, hkQ16, by rw [← eg]; exact hsQ16⟩)
            | false =>
              have gk15 : ¬ (¬ (lv).toInt = 257) := icF (c := .ne) (a := (lv).toInt) (b := 257) rfl (by decide) k15
              refine XW.fam (S' := (199, [(3, .int 1), (2, .int pt), (1, .int lv), (0, .ref 41)], [.ref 41], (sh, IQ12, LQ12, R))) (M := mr_100) rfl (show mcode 100 196 = some (196, .if_icmp .ne 8, 3, 204, 0, 0, _) from rfl) (Or.inr (Or.inl ⟨199, [.ref 41], by simp [brn, k15], rfl⟩)) ?_
              refine XW.fam (S' := (201, [(3, .int 1), (2, .int pt), (1, .int lv), (0, .ref 41)], [.int 8, .ref 41], (sh, IQ12, LQ12, R))) (M := mr_100) rfl (show mcode 100 199 = some (199, .bipush 8, 2, 0, 0, 0, _) from rfl) (Or.inl ⟨.int 8, rfl, rfl⟩) ?_
              refine XW.fam (S' := (206, [(3, .int 1), (2, .int pt), (1, .int lv), (0, .ref 41)], [.int 8, .ref 41], (sh, IQ12, LQ12, R))) (M := mr_100) rfl (show mcode 100 201 = some (201, .goto 5, 3, 206, 0, 0, _) from rfl) (Or.inr (Or.inl ⟨206, [.int 8, .ref 41], rfl, rfl⟩)) ?_
              refine XW.fam (S' := (207, [(3, .int 1), (2, .int pt), (1, .int lv), (0, .ref 41)], [.int 0, .int 8, .ref 41], (sh, IQ12, LQ12, R))) (M := mr_100) rfl (show mcode 100 206 = some (206, .iconst 0, 1, 0, 0, 0, _) from rfl) (Or.inl ⟨.int 0, rfl, rfl⟩) ?_
              refine XW.call (d' := d) (mc' := 0) (ms' := 0) (av := [.ref 41, .int 8, .int 0]) (rest := []) (M := mr_100) (Ma := mr_107) rfl (show mcode 100 207 = some (207, .invokevirtual 108, 3, 107, 0, 0, _) from rfl) rfl (by decide) (by decide) ⟨rfl, 41, _, rfl, c41⟩ rfl rfl (show 0 ≤ 8 by decide) (tc_wrQ (d := d) (show QW sh R J K S N (gPx K F 9 0 (g.2 + 1)) (sh, IQ12, LQ12, R) from ⟨hfQ12, hwQ12, hkQ12, hsQ12⟩)) (by omega) (Nat.zero_le _) (Nat.zero_le _) (fun rQ17 wQ17 Q17 => ?_)
              obtain ⟨hrQ17, hfQ17, hwQ17, hkQ17, hsQ17⟩ := Q17
              subst hrQ17
              obtain ⟨shQ17, IQ17, LQ17, RQ17⟩ := wQ17
              obtain rfl : sh = shQ17 := hwQ17.2.2.2.1.symm
              obtain rfl : R = RQ17 := hwQ17.2.2.2.2.1.symm
              have hkQ17 : ∀ q k, inm mdT q k = false → IQ17 q k = J q k := hkQ17
              refine XW.ret (r := none) ⟨rfl, by decide +kernel⟩ ?_
              rw [gB_t e]
              first
                | (rw [if_pos (by omega)]; exact ⟨rfl, hfQ17, hwQ17, hkQ17, hsQ17⟩)
                | (rw [if_neg (by omega)]; exact ⟨rfl, hfQ17, hwQ17, hkQ17, by rw [← eg]; exact hsQ17⟩)
          | false =>
            have gk14 : ¬ (¬ (lv).toInt = 259) := icF (c := .ne) (a := (lv).toInt) (b := 259) rfl (by decide) k14
            refine XW.fam (S' := (172, [(3, .int 1), (2, .int pt), (1, .int lv), (0, .ref 41)], [], (sh, IQ12, LQ12, R))) (M := mr_100) rfl (show mcode 100 169 = some (169, .if_icmp .ne 22, 3, 191, 0, 0, _) from rfl) (Or.inr (Or.inl ⟨172, [], by simp [brn, k14], rfl⟩)) ?_
            refine XW.fam (S' := (173, [(3, .int 1), (2, .int pt), (1, .int lv), (0, .ref 41)], [.ref 41], (sh, IQ12, LQ12, R))) (M := mr_100) rfl (show mcode 100 172 = some (172, .aload_n 0, 1, 0, 0, 0, _) from rfl) (Or.inl ⟨.ref 41, rfl, rfl⟩) ?_
            refine XW.fam (S' := (174, [(3, .int 1), (2, .int pt), (1, .int lv), (0, .ref 41)], [.int 1, .ref 41], (sh, IQ12, LQ12, R))) (M := mr_100) rfl (show mcode 100 173 = some (173, .iload_n 3, 1, 0, 0, 0, _) from rfl) (Or.inl ⟨.int 1, rfl, rfl⟩) ?_
            refine XW.fam (S' := (177, [(3, .int 1), (2, .int pt), (1, .int lv), (0, .ref 41)], [.ref 41], (sh, IQ12, LQ12, R))) (M := mr_100) rfl (show mcode 100 174 = some (174, .ifCond .eq 8, 3, 182, 0, 0, _) from rfl) (Or.inr (Or.inl ⟨177, [.ref 41], rfl, rfl⟩)) ?_
            refine XW.fam (S' := (179, [(3, .int 1), (2, .int pt), (1, .int lv), (0, .ref 41)], [.int 11, .ref 41], (sh, IQ12, LQ12, R))) (M := mr_100) rfl (show mcode 100 177 = some (177, .bipush 11, 2, 0, 0, 0, _) from rfl) (Or.inl ⟨.int 11, rfl, rfl⟩) ?_
            refine XW.fam (S' := (184, [(3, .int 1), (2, .int pt), (1, .int lv), (0, .ref 41)], [.int 11, .ref 41], (sh, IQ12, LQ12, R))) (M := mr_100) rfl (show mcode 100 179 = some (179, .goto 5, 3, 184, 0, 0, _) from rfl) (Or.inr (Or.inl ⟨184, [.int 11, .ref 41], rfl, rfl⟩)) ?_
            refine XW.fam (S' := (185, [(3, .int 1), (2, .int pt), (1, .int lv), (0, .ref 41)], [.int pt, .int 11, .ref 41], (sh, IQ12, LQ12, R))) (M := mr_100) rfl (show mcode 100 184 = some (184, .iload_n 2, 1, 0, 0, 0, _) from rfl) (Or.inl ⟨.int pt, rfl, rfl⟩) ?_
            refine XW.call (d' := d) (mc' := 0) (ms' := 0) (av := [.ref 41, .int 11, .int pt]) (rest := []) (M := mr_100) (Ma := mr_107) rfl (show mcode 100 185 = some (185, .invokevirtual 108, 3, 107, 0, 0, _) from rfl) rfl (by decide) (by decide) ⟨rfl, 41, _, rfl, c41⟩ rfl rfl (show 0 ≤ 8 by decide) (tc_wrQ (d := d) (show QW sh R J K S N (gPx K F 9 0 (g.2 + 1)) (sh, IQ12, LQ12, R) from ⟨hfQ12, hwQ12, hkQ12, hsQ12⟩)) (by omega) (Nat.zero_le _) (Nat.zero_le _) (fun rQ18 wQ18 Q18 => ?_)
            obtain ⟨hrQ18, hfQ18, hwQ18, hkQ18, hsQ18⟩ := Q18
            subst hrQ18
            obtain ⟨shQ18, IQ18, LQ18, RQ18⟩ := wQ18
            obtain rfl : sh = shQ18 := hwQ18.2.2.2.1.symm
            obtain rfl : R = RQ18 := hwQ18.2.2.2.2.1.symm
            have hkQ18 : ∀ q k, inm mdT q k = false → IQ18 q k = J q k := hkQ18
            refine XW.fam (S' := (210, [(3, .int 1), (2, .int pt), (1, .int lv), (0, .ref 41)], [], (sh, IQ18, LQ18, R))) (M := mr_100) rfl (show mcode 100 188 = some (188, .goto 22, 3, 210, 0, 0, _) from rfl) (Or.inr (Or.inl ⟨210, [], rfl, rfl⟩)) ?_
            refine XW.ret (r := none) ⟨rfl, by decide +kernel⟩ ?_
            rw [gB_t e]
            first
              | (rw [if_pos (by omega)]; exact ⟨rfl, hfQ18, hwQ18, hkQ18, hsQ18⟩)
              | (rw [if_neg (by omega)]; exact ⟨rfl, hfQ18, hwQ18, hkQ18, by rw [← eg]; exact hsQ18⟩)
        | false =>
          have gk13 : ¬ (¬ (lv).toInt = 256) := icF (c := .ne) (a := (lv).toInt) (b := 256) rfl (by decide) k13
          refine XW.fam (S' := (146, [(3, .int 1), (2, .int pt), (1, .int lv), (0, .ref 41)], [], (sh, IQ12, LQ12, R))) (M := mr_100) rfl (show mcode 100 143 = some (143, .if_icmp .ne 22, 3, 165, 0, 0, _) from rfl) (Or.inr (Or.inl ⟨146, [], by simp [brn, k13], rfl⟩)) ?_
          refine XW.fam (S' := (147, [(3, .int 1), (2, .int pt), (1, .int lv), (0, .ref 41)], [.ref 41], (sh, IQ12, LQ12, R))) (M := mr_100) rfl (show mcode 100 146 = some (146, .aload_n 0, 1, 0, 0, 0, _) from rfl) (Or.inl ⟨.ref 41, rfl, rfl⟩) ?_
          refine XW.fam (S' := (148, [(3, .int 1), (2, .int pt), (1, .int lv), (0, .ref 41)], [.int 1, .ref 41], (sh, IQ12, LQ12, R))) (M := mr_100) rfl (show mcode 100 147 = some (147, .iload_n 3, 1, 0, 0, 0, _) from rfl) (Or.inl ⟨.int 1, rfl, rfl⟩) ?_
          refine XW.fam (S' := (151, [(3, .int 1), (2, .int pt), (1, .int lv), (0, .ref 41)], [.ref 41], (sh, IQ12, LQ12, R))) (M := mr_100) rfl (show mcode 100 148 = some (148, .ifCond .eq 8, 3, 156, 0, 0, _) from rfl) (Or.inr (Or.inl ⟨151, [.ref 41], rfl, rfl⟩)) ?_
          refine XW.fam (S' := (153, [(3, .int 1), (2, .int pt), (1, .int lv), (0, .ref 41)], [.int 7, .ref 41], (sh, IQ12, LQ12, R))) (M := mr_100) rfl (show mcode 100 151 = some (151, .bipush 7, 2, 0, 0, 0, _) from rfl) (Or.inl ⟨.int 7, rfl, rfl⟩) ?_
          refine XW.fam (S' := (158, [(3, .int 1), (2, .int pt), (1, .int lv), (0, .ref 41)], [.int 7, .ref 41], (sh, IQ12, LQ12, R))) (M := mr_100) rfl (show mcode 100 153 = some (153, .goto 5, 3, 158, 0, 0, _) from rfl) (Or.inr (Or.inl ⟨158, [.int 7, .ref 41], rfl, rfl⟩)) ?_
          refine XW.fam (S' := (159, [(3, .int 1), (2, .int pt), (1, .int lv), (0, .ref 41)], [.int 0, .int 7, .ref 41], (sh, IQ12, LQ12, R))) (M := mr_100) rfl (show mcode 100 158 = some (158, .iconst 0, 1, 0, 0, 0, _) from rfl) (Or.inl ⟨.int 0, rfl, rfl⟩) ?_
          refine XW.call (d' := d) (mc' := 0) (ms' := 0) (av := [.ref 41, .int 7, .int 0]) (rest := []) (M := mr_100) (Ma := mr_107) rfl (show mcode 100 159 = some (159, .invokevirtual 108, 3, 107, 0, 0, _) from rfl) rfl (by decide) (by decide) ⟨rfl, 41, _, rfl, c41⟩ rfl rfl (show 0 ≤ 8 by decide) (tc_wrQ (d := d) (show QW sh R J K S N (gPx K F 9 0 (g.2 + 1)) (sh, IQ12, LQ12, R) from ⟨hfQ12, hwQ12, hkQ12, hsQ12⟩)) (by omega) (Nat.zero_le _) (Nat.zero_le _) (fun rQ19 wQ19 Q19 => ?_)
          obtain ⟨hrQ19, hfQ19, hwQ19, hkQ19, hsQ19⟩ := Q19
          subst hrQ19
          obtain ⟨shQ19, IQ19, LQ19, RQ19⟩ := wQ19
          obtain rfl : sh = shQ19 := hwQ19.2.2.2.1.symm
          obtain rfl : R = RQ19 := hwQ19.2.2.2.2.1.symm
          have hkQ19 : ∀ q k, inm mdT q k = false → IQ19 q k = J q k := hkQ19
          refine XW.fam (S' := (210, [(3, .int 1), (2, .int pt), (1, .int lv), (0, .ref 41)], [], (sh, IQ19, LQ19, R))) (M := mr_100) rfl (show mcode 100 162 = some (162, .goto 48, 3, 210, 0, 0, _) from rfl) (Or.inr (Or.inl ⟨210, [], rfl, rfl⟩)) ?_
          refine XW.ret (r := none) ⟨rfl, by decide +kernel⟩ ?_
          rw [gB_t e]
          first
            | (rw [if_pos (by omega)]; exact ⟨rfl, hfQ19, hwQ19, hkQ19, hsQ19⟩)
            | (rw [if_neg (by omega)]; exact ⟨rfl, hfQ19, hwQ19, hkQ19, by rw [← eg]; exact hsQ19⟩)
      | false =>
        have gk10 : ¬ ((lv).toInt = 256) := icF (c := .eq) (a := (lv).toInt) (b := 256) rfl (by decide) k10
        refine XW.fam (S' := (113, [(2, .int pt), (1, .int lv), (0, .ref 41)], [], (sh, I, L, R))) (M := mr_100) rfl (show mcode 100 110 = some (110, .if_icmp .eq 10, 3, 120, 0, 0, _) from rfl) (Or.inr (Or.inl ⟨113, [], by simp [brn, k10], rfl⟩)) ?_
        refine XW.fam (S' := (114, [(2, .int pt), (1, .int lv), (0, .ref 41)], [.int lv], (sh, I, L, R))) (M := mr_100) rfl (show mcode 100 113 = some (113, .iload_n 1, 1, 0, 0, 0, _) from rfl) (Or.inl ⟨.int lv, rfl, rfl⟩) ?_
        refine XW.fam (S' := (117, [(2, .int pt), (1, .int lv), (0, .ref 41)], [.int 259, .int lv], (sh, I, L, R))) (M := mr_100) rfl (show mcode 100 114 = some (114, .sipush 259, 3, 0, 0, 0, _) from rfl) (Or.inl ⟨.int 259, rfl, rfl⟩) ?_
        cases k20 : bcmp .ne lv 259 with
        | true =>
          have gk20 : ¬ (lv).toInt = 259 := icT (c := .ne) (a := (lv).toInt) (b := 259) rfl (by decide) k20
          refine XW.fam (S' := (124, [(2, .int pt), (1, .int lv), (0, .ref 41)], [], (sh, I, L, R))) (M := mr_100) rfl (show mcode 100 117 = some (117, .if_icmp .ne 7, 3, 124, 0, 0, _) from rfl) (Or.inr (Or.inl ⟨124, [], by simp [brn, k20], rfl⟩)) ?_
          refine XW.fam (S' := (125, [(2, .int pt), (1, .int lv), (0, .ref 41)], [.int 0], (sh, I, L, R))) (M := mr_100) rfl (show mcode 100 124 = some (124, .iconst 0, 1, 0, 0, 0, _) from rfl) (Or.inl ⟨.int 0, rfl, rfl⟩) ?_
          refine XW.fam (S' := (126, [(3, .int 0), (2, .int pt), (1, .int lv), (0, .ref 41)], [], (sh, I, L, R))) (M := mr_100) rfl (show mcode 100 125 = some (125, .istore_n 3, 1, 0, 0, 0, _) from rfl) (Or.inr (Or.inr (Or.inr (Or.inr (Or.inr (Or.inr (Or.inl ⟨_, [], _, rfl, rfl, rfl⟩))))))) ?_
          refine XW.fam (S' := (127, [(3, .int 0), (2, .int pt), (1, .int lv), (0, .ref 41)], [.int 0], (sh, I, L, R))) (M := mr_100) rfl (show mcode 100 126 = some (126, .iload_n 3, 1, 0, 0, 0, _) from rfl) (Or.inl ⟨.int 0, rfl, rfl⟩) ?_
          refine XW.fam (S' := (139, [(3, .int 0), (2, .int pt), (1, .int lv), (0, .ref 41)], [], (sh, I, L, R))) (M := mr_100) rfl (show mcode 100 127 = some (127, .ifCond .eq 12, 3, 139, 0, 0, _) from rfl) (Or.inr (Or.inl ⟨139, [], rfl, rfl⟩)) ?_
          refine XW.fam (S' := (140, [(3, .int 0), (2, .int pt), (1, .int lv), (0, .ref 41)], [.int lv], (sh, I, L, R))) (M := mr_100) rfl (show mcode 100 139 = some (139, .iload_n 1, 1, 0, 0, 0, _) from rfl) (Or.inl ⟨.int lv, rfl, rfl⟩) ?_
          refine XW.fam (S' := (143, [(3, .int 0), (2, .int pt), (1, .int lv), (0, .ref 41)], [.int 256, .int lv], (sh, I, L, R))) (M := mr_100) rfl (show mcode 100 140 = some (140, .sipush 256, 3, 0, 0, 0, _) from rfl) (Or.inl ⟨.int 256, rfl, rfl⟩) ?_
          cases k21 : bcmp .ne lv 256 with
          | true =>
            have gk21 : ¬ (lv).toInt = 256 := icT (c := .ne) (a := (lv).toInt) (b := 256) rfl (by decide) k21
            refine XW.fam (S' := (165, [(3, .int 0), (2, .int pt), (1, .int lv), (0, .ref 41)], [], (sh, I, L, R))) (M := mr_100) rfl (show mcode 100 143 = some (143, .if_icmp .ne 22, 3, 165, 0, 0, _) from rfl) (Or.inr (Or.inl ⟨165, [], by simp [brn, k21], rfl⟩)) ?_
            refine XW.fam (S' := (166, [(3, .int 0), (2, .int pt), (1, .int lv), (0, .ref 41)], [.int lv], (sh, I, L, R))) (M := mr_100) rfl (show mcode 100 165 = some (165, .iload_n 1, 1, 0, 0, 0, _) from rfl) (Or.inl ⟨.int lv, rfl, rfl⟩) ?_
            refine XW.fam (S' := (169, [(3, .int 0), (2, .int pt), (1, .int lv), (0, .ref 41)], [.int 259, .int lv], (sh, I, L, R))) (M := mr_100) rfl (show mcode 100 166 = some (166, .sipush 259, 3, 0, 0, 0, _) from rfl) (Or.inl ⟨.int 259, rfl, rfl⟩) ?_
            cases k22 : bcmp .ne lv 259 with
            | true =>
              have gk22 : ¬ (lv).toInt = 259 := icT (c := .ne) (a := (lv).toInt) (b := 259) rfl (by decide) k22
              refine XW.fam (S' := (191, [(3, .int 0), (2, .int pt), (1, .int lv), (0, .ref 41)], [], (sh, I, L, R))) (M := mr_100) rfl (show mcode 100 169 = some (169, .if_icmp .ne 22, 3, 191, 0, 0, _) from rfl) (Or.inr (Or.inl ⟨191, [], by simp [brn, k22], rfl⟩)) ?_
              refine XW.fam (S' := (192, [(3, .int 0), (2, .int pt), (1, .int lv), (0, .ref 41)], [.ref 41], (sh, I, L, R))) (M := mr_100) rfl (show mcode 100 191 = some (191, .aload_n 0, 1, 0, 0, 0, _) from rfl) (Or.inl ⟨.ref 41, rfl, rfl⟩) ?_
              refine XW.fam (S' := (193, [(3, .int 0), (2, .int pt), (1, .int lv), (0, .ref 41)], [.int lv, .ref 41], (sh, I, L, R))) (M := mr_100) rfl (show mcode 100 192 = some (192, .iload_n 1, 1, 0, 0, 0, _) from rfl) (Or.inl ⟨.int lv, rfl, rfl⟩) ?_
              refine XW.fam (S' := (196, [(3, .int 0), (2, .int pt), (1, .int lv), (0, .ref 41)], [.int 257, .int lv, .ref 41], (sh, I, L, R))) (M := mr_100) rfl (show mcode 100 193 = some (193, .sipush 257, 3, 0, 0, 0, _) from rfl) (Or.inl ⟨.int 257, rfl, rfl⟩) ?_
              cases k23 : bcmp .ne lv 257 with
              | true =>
                have gk23 : ¬ (lv).toInt = 257 := icT (c := .ne) (a := (lv).toInt) (b := 257) rfl (by decide) k23
                refine XW.fam (S' := (204, [(3, .int 0), (2, .int pt), (1, .int lv), (0, .ref 41)], [.ref 41], (sh, I, L, R))) (M := mr_100) rfl (show mcode 100 196 = some (196, .if_icmp .ne 8, 3, 204, 0, 0, _) from rfl) (Or.inr (Or.inl ⟨204, [.ref 41], by simp [brn, k23], rfl⟩)) ?_
                refine XW.fam (S' := (206, [(3, .int 0), (2, .int pt), (1, .int lv), (0, .ref 41)], [.int 9, .ref 41], (sh, I, L, R))) (M := mr_100) rfl (show mcode 100 204 = some (204, .bipush 9, 2, 0, 0, 0, _) from rfl) (Or.inl ⟨.int 9, rfl, rfl⟩) ?_
                refine XW.fam (S' := (207, [(3, .int 0), (2, .int pt), (1, .int lv), (0, .ref 41)], [.int 0, .int 9, .ref 41], (sh, I, L, R))) (M := mr_100) rfl (show mcode 100 206 = some (206, .iconst 0, 1, 0, 0, 0, _) from rfl) (Or.inl ⟨.int 0, rfl, rfl⟩) ?_
                refine XW.call (d' := d) (mc' := 0) (ms' := 0) (av := [.ref 41, .int 9, .int 0]) (rest := []) (M := mr_100) (Ma := mr_107) rfl (show mcode 100 207 = some (207, .invokevirtual 108, 3, 107, 0, 0, _) from rfl) rfl (by decide) (by decide) ⟨rfl, 41, _, rfl, c41⟩ rfl rfl (show 0 ≤ 8 by decide) (tc_wrQ (d := d) (show QW sh R J K S N g (sh, I, L, R) from ⟨hf, hw, hk, hs⟩)) (by omega) (Nat.zero_le _) (Nat.zero_le _) (fun rQ24 wQ24 Q24 => ?_)
                obtain ⟨hrQ24, hfQ24, hwQ24, hkQ24, hsQ24⟩ := Q24
                subst hrQ24
                obtain ⟨shQ24, IQ24, LQ24, RQ24⟩ := wQ24
                obtain rfl : sh = shQ24 := hwQ24.2.2.2.1.symm
                obtain rfl : R = RQ24 := hwQ24.2.2.2.2.1.symm
                have hkQ24 : ∀ q k, inm mdT q k = false → IQ24 q k = J q k := hkQ24
                refine XW.ret (r := none) ⟨rfl, by decide +kernel⟩ ?_
                rw [gB_t e]
                first
                  | (rw [if_pos (by omega)]; exact ⟨rfl, hfQ24, hwQ24, hkQ24, hsQ24⟩)
                  | (rw [if_neg (by omega)]; exact ⟨rfl, hfQ24, hwQ24, hkQ24, by rw [← eg]; exact hsQ24⟩)
              | false =>
                have gk23 : ¬ (¬ (lv).toInt = 257) := icF (c := .ne) (a := (lv).toInt) (b := 257) rfl (by decide) k23
                refine XW.fam (S' := (199, [(3, .int 0), (2, .int pt), (1, .int lv), (0, .ref 41)], [.ref 41], (sh, I, L, R))) (M := mr_100) rfl (show mcode 100 196 = some (196, .if_icmp .ne 8, 3, 204, 0, 0, _) from rfl) (Or.inr (Or.inl ⟨199, [.ref 41], by simp [brn, k23], rfl⟩)) ?_
                refine XW.fam (S' := (201, [(3, .int 0), (2, .int pt), (1, .int lv), (0, .ref 41)], [.int 8, .ref 41], (sh, I, L, R))) (M := mr_100) rfl (show mcode 100 199 = some (199, .bipush 8, 2, 0, 0, 0, _) from rfl) (Or.inl ⟨.int 8, rfl, rfl⟩) ?_
                refine XW.fam (S' := (206, [(3, .int 0), (2, .int pt), (1, .int lv), (0, .ref 41)], [.int 8, .ref 41], (sh, I, L, R))) (M := mr_100) rfl (show mcode 100 201 = some (201, .goto 5, 3, 206, 0, 0, _) from rfl) (Or.inr (Or.inl ⟨206, [.int 8, .ref 41], rfl, rfl⟩)) ?_
                refine XW.fam (S' := (207, [(3, .int 0), (2, .int pt), (1, .int lv), (0, .ref 41)], [.int 0, .int 8, .ref 41], (sh, I, L, R))) (M := mr_100) rfl (show mcode 100 206 = some (206, .iconst 0, 1, 0, 0, 0, _) from rfl) (Or.inl ⟨.int 0, rfl, rfl⟩) ?_
                refine XW.call (d' := d) (mc' := 0) (ms' := 0) (av := [.ref 41, .int 8, .int 0]) (rest := []) (M := mr_100) (Ma := mr_107) rfl (show mcode 100 207 = some (207, .invokevirtual 108, 3, 107, 0, 0, _) from rfl) rfl (by decide) (by decide) ⟨rfl, 41, _, rfl, c41⟩ rfl rfl (show 0 ≤ 8 by decide) (tc_wrQ (d := d) (show QW sh R J K S N g (sh, I, L, R) from ⟨hf, hw, hk, hs⟩)) (by omega) (Nat.zero_le _) (Nat.zero_le _) (fun rQ25 wQ25 Q25 => ?_)
                obtain ⟨hrQ25, hfQ25, hwQ25, hkQ25, hsQ25⟩ := Q25
                subst hrQ25
                obtain ⟨shQ25, IQ25, LQ25, RQ25⟩ := wQ25
                obtain rfl : sh = shQ25 := hwQ25.2.2.2.1.symm
                obtain rfl : R = RQ25 := hwQ25.2.2.2.2.1.symm
                have hkQ25 : ∀ q k, inm mdT q k = false → IQ25 q k = J q k := hkQ25
                refine XW.ret (r := none) ⟨rfl, by decide +kernel⟩ ?_
                rw [gB_t e]
                first
                  | (rw [if_pos (by omega)]; exact ⟨rfl, hfQ25, hwQ25, hkQ25, hsQ25⟩)
                  | (rw [if_neg (by omega)]; exact ⟨rfl, hfQ25, hwQ25, hkQ25, by rw [← eg]; exact hsQ25⟩)
            | false =>
              have gk22 : ¬ (¬ (lv).toInt = 259) := icF (c := .ne) (a := (lv).toInt) (b := 259) rfl (by decide) k22
              refine XW.fam (S' := (172, [(3, .int 0), (2, .int pt), (1, .int lv), (0, .ref 41)], [], (sh, I, L, R))) (M := mr_100) rfl (show mcode 100 169 = some (169, .if_icmp .ne 22, 3, 191, 0, 0, _) from rfl) (Or.inr (Or.inl ⟨172, [], by simp [brn, k22], rfl⟩)) ?_
              refine XW.fam (S' := (173, [(3, .int 0), (2, .int pt), (1, .int lv), (0, .ref 41)], [.ref 41], (sh, I, L, R))) (M := mr_100) rfl (show mcode 100 172 = some (172, .aload_n 0, 1, 0, 0, 0, _) from rfl) (Or.inl ⟨.ref 41, rfl, rfl⟩) ?_
              refine XW.fam (S' := (174, [(3, .int 0), (2, .int pt), (1, .int lv), (0, .ref 41)], [.int 0, .ref 41], (sh, I, L, R))) (M := mr_100) rfl (show mcode 100 173 = some (173, .iload_n 3, 1, 0, 0, 0, _) from rfl) (Or.inl ⟨.int 0, rfl, rfl⟩) ?_
              refine XW.fam (S' := (182, [(3, .int 0), (2, .int pt), (1, .int lv), (0, .ref 41)], [.ref 41], (sh, I, L, R))) (M := mr_100) rfl (show mcode 100 174 = some (174, .ifCond .eq 8, 3, 182, 0, 0, _) from rfl) (Or.inr (Or.inl ⟨182, [.ref 41], rfl, rfl⟩)) ?_
              refine XW.fam (S' := (184, [(3, .int 0), (2, .int pt), (1, .int lv), (0, .ref 41)], [.int 10, .ref 41], (sh, I, L, R))) (M := mr_100) rfl (show mcode 100 182 = some (182, .bipush 10, 2, 0, 0, 0, _) from rfl) (Or.inl ⟨.int 10, rfl, rfl⟩) ?_
              refine XW.fam (S' := (185, [(3, .int 0), (2, .int pt), (1, .int lv), (0, .ref 41)], [.int pt, .int 10, .ref 41], (sh, I, L, R))) (M := mr_100) rfl (show mcode 100 184 = some (184, .iload_n 2, 1, 0, 0, 0, _) from rfl) (Or.inl ⟨.int pt, rfl, rfl⟩) ?_
              refine XW.call (d' := d) (mc' := 0) (ms' := 0) (av := [.ref 41, .int 10, .int pt]) (rest := []) (M := mr_100) (Ma := mr_107) rfl (show mcode 100 185 = some (185, .invokevirtual 108, 3, 107, 0, 0, _) from rfl) rfl (by decide) (by decide) ⟨rfl, 41, _, rfl, c41⟩ rfl rfl (show 0 ≤ 8 by decide) (tc_wrQ (d := d) (show QW sh R J K S N g (sh, I, L, R) from ⟨hf, hw, hk, hs⟩)) (by omega) (Nat.zero_le _) (Nat.zero_le _) (fun rQ26 wQ26 Q26 => ?_)
              obtain ⟨hrQ26, hfQ26, hwQ26, hkQ26, hsQ26⟩ := Q26
              subst hrQ26
              obtain ⟨shQ26, IQ26, LQ26, RQ26⟩ := wQ26
              obtain rfl : sh = shQ26 := hwQ26.2.2.2.1.symm
              obtain rfl : R = RQ26 := hwQ26.2.2.2.2.1.symm
              have hkQ26 : ∀ q k, inm mdT q k = false → IQ26 q k = J q k := hkQ26
              refine XW.fam (S' := (210, [(3, .int 0), (2, .int pt), (1, .int lv), (0, .ref 41)], [], (sh, IQ26, LQ26, R))) (M := mr_100) rfl (show mcode 100 188 = some (188, .goto 22, 3, 210, 0, 0, _) from rfl) (Or.inr (Or.inl ⟨210, [], rfl, rfl⟩)) ?_
              refine XW.ret (r := none) ⟨rfl, by decide +kernel⟩ ?_
              rw [gB_t e]
              first
                | (rw [if_pos (by omega)]; exact ⟨rfl, hfQ26, hwQ26, hkQ26, hsQ26⟩)
                | (rw [if_neg (by omega)]; exact ⟨rfl, hfQ26, hwQ26, hkQ26, by rw [← eg]; exact hsQ26⟩)
          | false =>
            have gk21 : ¬ (¬ (lv).toInt = 256) := icF (c := .ne) (a := (lv).toInt) (b := 256) rfl (by decide) k21
            refine XW.fam (S' := (146, [(3, .int 0), (2, .int pt), (1, .int lv), (0, .ref 41)], [], (sh, I, L, R))) (M := mr_100) rfl (show mcode 100 143 = some (143, .if_icmp .ne 22, 3, 165, 0, 0, _) from rfl) (Or.inr (Or.inl ⟨146, [], by simp [brn, k21], rfl⟩)) ?_
            refine XW.fam (S' := (147, [(3, .int 0), (2, .int pt), (1, .int lv), (0, .ref 41)], [.ref 41], (sh, I, L, R))) (M := mr_100) rfl (show mcode 100 146 = some (146, .aload_n 0, 1, 0, 0, 0, _) from rfl) (Or.inl ⟨.ref 41, rfl, rfl⟩) ?_
            refine XW.fam (S' := (148, [(3, .int 0), (2, .int pt), (1, .int lv), (0, .ref 41)], [.int 0, .ref 41], (sh, I, L, R))) (M := mr_100) rfl (show mcode 100 147 = some (147, .iload_n 3, 1, 0, 0, 0, _) from rfl) (Or.inl ⟨.int 0, rfl, rfl⟩) ?_
            refine XW.fam (S' := (156, [(3, .int 0), (2, .int pt), (1, .int lv), (0, .ref 41)], [.ref 41], (sh, I, L, R))) (M := mr_100) rfl (show mcode 100 148 = some (148, .ifCond .eq 8, 3, 156, 0, 0, _) from rfl) (Or.inr (Or.inl ⟨156, [.ref 41], rfl, rfl⟩)) ?_
            refine XW.fam (S' := (158, [(3, .int 0), (2, .int pt), (1, .int lv), (0, .ref 41)], [.int 6, .ref 41], (sh, I, L, R))) (M := mr_100) rfl (show mcode 100 156 = some (156, .bipush 6, 2, 0, 0, 0, _) from rfl) (Or.inl ⟨.int 6, rfl, rfl⟩) ?_
            refine XW.fam (S' := (159, [(3, .int 0), (2, .int pt), (1, .int lv), (0, .ref 41)], [.int 0, .int 6, .ref 41], (sh, I, L, R))) (M := mr_100) rfl (show mcode 100 158 = some (158, .iconst 0, 1, 0, 0, 0, _) from rfl) (Or.inl ⟨.int 0, rfl, rfl⟩) ?_
            refine XW.call (d' := d) (mc' := 0) (ms' := 0) (av := [.ref 41, .int 6, .int 0]) (rest := []) (M := mr_100) (Ma := mr_107) rfl (show mcode 100 159 = some (159, .invokevirtual 108, 3, 107, 0, 0, _) from rfl) rfl (by decide) (by decide) ⟨rfl, 41, _, rfl, c41⟩ rfl rfl (show 0 ≤ 8 by decide) (tc_wrQ (d := d) (show QW sh R J K S N g (sh, I, L, R) from ⟨hf, hw, hk, hs⟩)) (by omega) (Nat.zero_le _) (Nat.zero_le _) (fun rQ27 wQ27 Q27 => ?_)
            obtain ⟨hrQ27, hfQ27, hwQ27, hkQ27, hsQ27⟩ := Q27
            subst hrQ27
            obtain ⟨shQ27, IQ27, LQ27, RQ27⟩ := wQ27
            obtain rfl : sh = shQ27 := hwQ27.2.2.2.1.symm
            obtain rfl : R = RQ27 := hwQ27.2.2.2.2.1.symm
            have hkQ27 : ∀ q k, inm mdT q k = false → IQ27 q k = J q k := hkQ27
            refine XW.fam (S' := (210, [(3, .int 0), (2, .int pt), (1, .int lv), (0, .ref 41)], [], (sh, IQ27, LQ27, R))) (M := mr_100) rfl (show mcode 100 162 = some (162, .goto 48, 3, 210, 0, 0, _) from rfl) (Or.inr (Or.inl ⟨210, [], rfl, rfl⟩)) ?_
            refine XW.ret (r := none) ⟨rfl, by decide +kernel⟩ ?_
            rw [gB_t e]
            first
              | (rw [if_pos (by omega)]; exact ⟨rfl, hfQ27, hwQ27, hkQ27, hsQ27⟩)
              | (rw [if_neg (by omega)]; exact ⟨rfl, hfQ27, hwQ27, hkQ27, by rw [← eg]; exact hsQ27⟩)
        | false =>
          have gk20 : ¬ (¬ (lv).toInt = 259) := icF (c := .ne) (a := (lv).toInt) (b := 259) rfl (by decide) k20
          refine XW.fam (S' := (120, [(2, .int pt), (1, .int lv), (0, .ref 41)], [], (sh, I, L, R))) (M := mr_100) rfl (show mcode 100 117 = some (117, .if_icmp .ne 7, 3, 124, 0, 0, _) from rfl) (Or.inr (Or.inl ⟨120, [], by simp [brn, k20], rfl⟩)) ?_
          refine XW.fam (S' := (121, [(2, .int pt), (1, .int lv), (0, .ref 41)], [.int 1], (sh, I, L, R))) (M := mr_100) rfl (show mcode 100 120 = some (120, .iconst 1, 1, 0, 0, 0, _) from rfl) (Or.inl ⟨.int 1, rfl, rfl⟩) ?_
          refine XW.fam (S' := (125, [(2, .int pt), (1, .int lv), (0, .ref 41)], [.int 1], (sh, I, L, R))) (M := mr_100) rfl (show mcode 100 121 = some (121, .goto 4, 3, 125, 0, 0, _) from rfl) (Or.inr (Or.inl ⟨125, [.int 1], rfl, rfl⟩)) ?_
          refine XW.fam (S' := (126, [(3, .int 1), (2, .int pt), (1, .int lv), (0, .ref 41)], [], (sh, I, L, R))) (M := mr_100) rfl (show mcode 100 125 = some (125, .istore_n 3, 1, 0, 0, 0, _) from rfl) (Or.inr (Or.inr (Or.inr (Or.inr (Or.inr (Or.inr (Or.inl ⟨_, [], _, rfl, rfl, rfl⟩))))))) ?_
          refine XW.fam (S' := (127, [(3, .int 1), (2, .int pt), (1, .int lv), (0, .ref 41)], [.int 1], (sh, I, L, R))) (M := mr_100) rfl (show mcode 100 126 = some (126, .iload_n 3, 1, 0, 0, 0, _) from rfl) (Or.inl ⟨.int 1, rfl, rfl⟩) ?_
          refine XW.fam (S' := (130, [(3, .int 1), (2, .int pt), (1, .int lv), (0, .ref 41)], [], (sh, I, L, R))) (M := mr_100) rfl (show mcode 100 127 = some (127, .ifCond .eq 12, 3, 139, 0, 0, _) from rfl) (Or.inr (Or.inl ⟨130, [], rfl, rfl⟩)) ?_
          refine XW.fam (S' := (131, [(3, .int 1), (2, .int pt), (1, .int lv), (0, .ref 41)], [.ref 41], (sh, I, L, R))) (M := mr_100) rfl (show mcode 100 130 = some (130, .aload_n 0, 1, 0, 0, 0, _) from rfl) (Or.inl ⟨.ref 41, rfl, rfl⟩) ?_
          refine XW.call (d' := d) (mc' := 0) (ms' := 0) (av := [.ref 41]) (rest := []) (M := mr_100) (Ma := mr_102) rfl (show mcode 100 131 = some (131, .invokevirtual 50, 3, 102, 0, 0, _) from rfl) rfl (by decide) (by decide) ⟨rfl, 41, _, rfl, c41⟩ rfl rfl (show 0 ≤ 8 by decide) (tc_adv (d := d) hT hw hf hk hst (lt_N hN hle (by omega))) (by omega) (Nat.zero_le _) (Nat.zero_le _) (fun rQ28 wQ28 Q28 => ?_)
          obtain ⟨hrQ28, hfQ28, hwQ28, hkQ28, hsQ28⟩ := Q28
          subst hrQ28
          obtain ⟨shQ28, IQ28, LQ28, RQ28⟩ := wQ28
          obtain rfl : sh = shQ28 := hwQ28.2.2.2.1.symm
          obtain rfl : R = RQ28 := hwQ28.2.2.2.2.1.symm
          have hkQ28 : ∀ q k, inm mdT q k = false → IQ28 q k = J q k := hkQ28
          refine XW.fam (S' := (135, [(3, .int 1), (2, .int pt), (1, .int lv), (0, .ref 41)], [.ref 41], (sh, IQ28, LQ28, R))) (M := mr_100) rfl (show mcode 100 134 = some (134, .aload_n 0, 1, 0, 0, 0, _) from rfl) (Or.inl ⟨.ref 41, rfl, rfl⟩) ?_
          refine XW.fam (S' := (136, [(3, .int 1), (2, .int pt), (1, .int lv), (0, .ref 41)], [.int 0, .ref 41], (sh, IQ28, LQ28, R))) (M := mr_100) rfl (show mcode 100 135 = some (135, .iconst 0, 1, 0, 0, 0, _) from rfl) (Or.inl ⟨.int 0, rfl, rfl⟩) ?_
          refine XW.call (d' := (d + 2 + (6 * (8 - 0) + 6))) (mc' := 0) (ms' := 0) (av := [.ref 41, .int 0]) (rest := []) (M := mr_100) (Ma := mr_103) rfl (show mcode 100 136 = some (136, .invokevirtual 101, 3, 103, 0, 0, _) from rfl) rfl (by decide) (by decide) ⟨rfl, 41, _, rfl, c41⟩ rfl rfl (show 0 ≤ 8 by decide) (Ha 0 (g.2 + 1) 0 rfl (by omega) hwQ28 hfQ28 hkQ28 (hsQ28.1 rfl) (by omega)) (by omega) (Nat.zero_le _) (Nat.zero_le _) (fun rQ29 wQ29 Q29 => ?_)
          obtain ⟨hrQ29, hfQ29, hwQ29, hkQ29, hsQ29⟩ := Q29
          subst hrQ29
          obtain ⟨shQ29, IQ29, LQ29, RQ29⟩ := wQ29
          obtain rfl : sh = shQ29 := hwQ29.2.2.2.1.symm
          obtain rfl : R = RQ29 := hwQ29.2.2.2.2.1.symm
          have hkQ29 : ∀ q k, inm mdT q k = false → IQ29 q k = J q k := hkQ29
          refine XW.fam (S' := (140, [(3, .int 1), (2, .int pt), (1, .int lv), (0, .ref 41)], [.int lv], (sh, IQ29, LQ29, R))) (M := mr_100) rfl (show mcode 100 139 = some (139, .iload_n 1, 1, 0, 0, 0, _) from rfl) (Or.inl ⟨.int lv, rfl, rfl⟩) ?_
          refine XW.fam (S' := (143, [(3, .int 1), (2, .int pt), (1, .int lv), (0, .ref 41)], [.int 256, .int lv], (sh, IQ29, LQ29, R))) (M := mr_100) rfl (show mcode 100 140 = some (140, .sipush 256, 3, 0, 0, 0, _) from rfl) (Or.inl ⟨.int 256, rfl, rfl⟩) ?_
          cases k30 : bcmp .ne lv 256 with
          | true =>
            have gk30 : ¬ (lv).toInt = 256 := icT (c := .ne) (a := (lv).toInt) (b := 256) rfl (by decide) k30
            refine XW.fam (S' := (165, [(3, .int 1), (2, .int pt), (1, .int lv), (0, .ref 41)], [], (sh, IQ29, LQ29, R))) (M := mr_100) rfl (show mcode 100 143 = some (143, .if_icmp .ne 22, 3, 165, 0, 0, _) from rfl) (Or.inr (Or.inl ⟨165, [], by simp [brn, k30], rfl⟩)) ?_
            refine XW.fam (S' := (166, [(3, .int 1), (2, .int pt), (1, .int lv), (0, .ref 41)], [.int lv], (sh, IQ29, LQ29, R))) (M := mr_100) rfl (show mcode 100 165 = some (165, .iload_n 1, 1, 0, 0, 0, _) from rfl) (Or.inl ⟨.int lv, rfl, rfl⟩) ?_
            refine XW.fam (S' := (169, [(3, .int 1), (2, .int pt), (1, .int lv), (0, .ref 41)], [.int 259, .int lv], (sh, IQ29, LQ29, R))) (M := mr_100) rfl (show mcode 100 166 = some (166, .sipush 259, 3, 0, 0, 0, _) from rfl) (Or.inl ⟨.int 259, rfl, rfl⟩) ?_
            cases k31 : bcmp .ne lv 259 with
            | true =>
              have gk31 : ¬ (lv).toInt = 259 := icT (c := .ne) (a := (lv).toInt) (b := 259) rfl (by decide) k31
              refine XW.fam (S' := (191, [(3, .int 1), (2, .int pt), (1, .int lv), (0, .ref 41)], [], (sh, IQ29, LQ29, R))) (M := mr_100) rfl (show mcode 100 169 = some (169, .if_icmp .ne 22, 3, 191, 0, 0, _) from rfl) (Or.inr (Or.inl ⟨191, [], by simp [brn, k31], rfl⟩)) ?_
              refine XW.fam (S' := (192, [(3, .int 1), (2, .int pt), (1, .int lv), (0, .ref 41)], [.ref 41], (sh, IQ29, LQ29, R))) (M := mr_100) rfl (show mcode 100 191 = some (191, .aload_n 0, 1, 0, 0, 0, _) from rfl) (Or.inl ⟨.ref 41, rfl, rfl⟩) ?_
              refine XW.fam (S' := (193, [(3, .int 1), (2, .int pt), (1, .int lv), (0, .ref 41)], [.int lv, .ref 41], (sh, IQ29, LQ29, R))) (M := mr_100) rfl (show mcode 100 192 = some (192, .iload_n 1, 1, 0, 0, 0, _) from rfl) (Or.inl ⟨.int lv, rfl, rfl⟩) ?_
              refine XW.fam (S' := (196, [(3, .int 1), (2, .int pt), (1, .int lv), (0, .ref 41)], [.int 257, .int lv, .ref 41], (sh, IQ29, LQ29, R))) (M := mr_100) rfl (show mcode 100 193 = some (193, .sipush 257, 3, 0, 0, 0, _) from rfl) (Or.inl ⟨.int 257, rfl, rfl⟩) ?_
              cases k32 : bcmp .ne lv 257 with
              | true =>
                have gk32 : ¬ (lv).toInt = 257 := icT (c := .ne) (a := (lv).toInt) (b := 257) rfl (by decide) k32
                refine XW.fam (S' := (204, [(3, .int 1), (2, .int pt), (1, .int lv), (0, .ref 41)], [.ref 41], (sh, IQ29, LQ29, R))) (M := mr_100) rfl (show mcode 100 196 = some (196, .if_icmp .ne 8, 3, 204, 0, 0, _) from rfl) (Or.inr (Or.inl ⟨204, [.ref 41], by simp [brn, k32], rfl⟩)) ?_
                refine XW.fam (S' := (206, [(3, .int 1), (2, .int pt), (1, .int lv), (0, .ref 41)], [.int 9, .ref 41], (sh, IQ29, LQ29, R))) (M := mr_100) rfl (show mcode 100 204 = some (204, .bipush 9, 2, 0, 0, 0, _) from rfl) (Or.inl ⟨.int 9, rfl, rfl⟩) ?_
                refine XW.fam (S' := (207, [(3, .int 1), (2, .int pt), (1, .int lv), (0, .ref 41)], [.int 0, .int 9, .ref 41], (sh, IQ29, LQ29, R))) (M := mr_100) rfl (show mcode 100 206 = some (206, .iconst 0, 1, 0, 0, 0, _) from rfl) (Or.inl ⟨.int 0, rfl, rfl⟩) ?_
                refine XW.call (d' := d) (mc' := 0) (ms' := 0) (av := [.ref 41, .int 9, .int 0]) (rest := []) (M := mr_100) (Ma := mr_107) rfl (show mcode 100 207 = some (207, .invokevirtual 108, 3, 107, 0, 0, _) from rfl) rfl (by decide) (by decide) ⟨rfl, 41, _, rfl, c41⟩ rfl rfl (show 0 ≤ 8 by decide) (tc_wrQ (d := d) (show QW sh R J K S N (gPx K F 9 0 (g.2 + 1)) (sh, IQ29, LQ29, R) from ⟨hfQ29, hwQ29, hkQ29, hsQ29⟩)) (by omega) (Nat.zero_le _) (Nat.zero_le _) (fun rQ33 wQ33 Q33 => ?_)
                obtain ⟨hrQ33, hfQ33, hwQ33, hkQ33, hsQ33⟩ := Q33
                subst hrQ33
                obtain ⟨shQ33, IQ33, LQ33, RQ33⟩ := wQ33
                obtain rfl : sh = shQ33 := hwQ33.2.2.2.1.symm
                obtain rfl : R = RQ33 := hwQ33.2.2.2.2.1.symm
                have hkQ33 : ∀ q k, inm mdT q k = false → IQ33 q k = J q k := hkQ33
                refine XW.ret (r := none) ⟨rfl, by decide +kernel⟩ ?_
                rw [gB_t e]
                first
                  | (rw [if_pos (by omega)]; exact ⟨rfl, hfQ33, hwQ33, hkQ33, hsQ33⟩)
                  | (rw [if_neg (by omega)]; exact ⟨rfl, hfQ33, hwQ33, hkQ33, by rw [← eg]; exact hsQ33⟩)
              | false =>
                have gk32 : ¬ (¬ (lv).toInt = 257) := icF (c := .ne) (a := (lv).toInt) (b := 257) rfl (by decide) k32
                refine XW.fam (S' := (199, [(3, .int 1), (2, .int pt), (1, .int lv), (0, .ref 41)], [.ref 41], (sh, IQ29, LQ29, R))) (M := mr_100) rfl (show mcode 100 196 = some (196, .if_icmp .ne 8, 3, 204, 0, 0, _) from rfl) (Or.inr (Or.inl ⟨199, [.ref 41], by simp [brn, k32], rfl⟩)) ?_
                refine XW.fam (S' := (201, [(3, .int 1), (2, .int pt), (1, .int lv), (0, .ref 41)], [.int 8, .ref 41], (sh, IQ29, LQ29, R))) (M := mr_100) rfl (show mcode 100 199 = some (199, .bipush 8, 2, 0, 0, 0, _) from rfl) (Or.inl ⟨.int 8, rfl, rfl⟩) ?_
                refine XW.fam (S' := (206, [(3, .int 1), (2, .int pt), (1, .int lv), (0, .ref 41)], [.int 8, .ref 41], (sh, IQ29, LQ29, R))) (M := mr_100) rfl (show mcode 100 201 = some (201, .goto 5, 3, 206, 0, 0, _) from rfl) (Or.inr (Or.inl ⟨206, [.int 8, .ref 41], rfl, rfl⟩)) ?_
                refine XW.fam (S' := (207, [(3, .int 1), (2, .int pt), (1, .int lv), (0, .ref 41)], [.int 0, .int 8, .ref 41], (sh, IQ29, LQ29, R))) (M := mr_100) rfl (show mcode 100 206 = some (206, .iconst 0, 1, 0, 0, 0, _) from rfl) (Or.inl ⟨.int 0, rfl, rfl⟩) ?_
                refine XW.call (d' := d) (mc' := 0) (ms' := 0) (av := [.ref 41, .int 8, .int 0]) (rest := []) (M := mr_100) (Ma := mr_107) rfl (show mcode 100 207 = some (207, .invokevirtual 108, 3, 107, 0, 0, _) from rfl) rfl (by decide) (by decide) ⟨rfl, 41, _, rfl, c41⟩ rfl rfl (show 0 ≤ 8 by decide) (tc_wrQ (d := d) (show QW sh R J K S N (gPx K F 9 0 (g.2 + 1)) (sh, IQ29, LQ29, R) from ⟨hfQ29, hwQ29, hkQ29, hsQ29⟩)) (by omega) (Nat.zero_le _) (Nat.zero_le _) (fun rQ34 wQ34 Q34 => ?_)
                obtain ⟨hrQ34, hfQ34, hwQ34, hkQ34, hsQ34⟩ := Q34
                subst hrQ34
                obtain ⟨shQ34, IQ34, LQ34, RQ34⟩ := wQ34
                obtain rfl : sh = shQ34 := hwQ34.2.2.2.1.symm
                obtain rfl : R = RQ34 := hwQ34.2.2.2.2.1.symm
                have hkQ34 : ∀ q k, inm mdT q k = false → IQ34 q k = J q k := hkQ34
                refine XW.ret (r := none) ⟨rfl, by decide +kernel⟩ ?_
                rw [gB_t e]
                first
                  | (rw [if_pos (by omega)]; exact ⟨rfl, hfQ34, hwQ34, hkQ34, hsQ34⟩)
                  | (rw [if_neg (by omega)]; exact ⟨rfl, hfQ34, hwQ34, hkQ34, by rw [← eg]; exact hsQ34⟩)
            | false =>
              have gk31 : ¬ (¬ (lv).toInt = 259) := icF (c := .ne) (a := (lv).toInt) (b := 259) rfl (by decide) k31
              refine XW.fam (S' := (172, [(3, .int 1), (2, .int pt), (1, .int lv), (0, .ref 41)], [], (sh, IQ29, LQ29, R))) (M := mr_100) rfl (show mcode 100 169 = some (169, .if_icmp .ne 22, 3, 191, 0, 0, _) from rfl) (Or.inr (Or.inl ⟨172, [], by simp [brn, k31], rfl⟩)) ?_
              refine XW.fam (S' := (173, [(3, .int 1), (2, .int pt), (1, .int lv), (0, .ref 41)], [.ref 41], (sh, IQ29, LQ29, R))) (M := mr_100) rfl (show mcode 100 172 = some (172, .aload_n 0, 1, 0, 0, 0, _) from rfl) (Or.inl ⟨.ref 41, rfl, rfl⟩) ?_
              refine XW.fam (S' := (174, [(3, .int 1), (2, .int pt), (1, .int lv), (0, .ref 41)], [.int 1, .ref 41], (sh, IQ29, LQ29, R))) (M := mr_100) rfl (show mcode 100 173 = some (173, .iload_n 3, 1, 0, 0, 0, _) from rfl) (Or.inl ⟨.int 1, rfl, rfl⟩) ?_
              refine XW.fam (S' := (177, [(3, .int 1), (2, .int pt), (1, .int lv), (0, .ref 41)], [.ref 41], (sh, IQ29, LQ29, R))) (M := mr_100) rfl (show mcode 100 174 = some (174, .ifCond .eq 8, 3, 182, 0, 0, _) from rfl) (Or.inr (Or.inl ⟨177, [.ref 41], rfl, rfl⟩)) ?_
              refine XW.fam (S' := (179, [(3, .int 1), (2, .int pt), (1, .int lv), (0, .ref 41)], [.int 11, .ref 41], (sh, IQ29, LQ29, R))) (M := mr_100) rfl (show mcode 100 177 = some (177, .bipush 11, 2, 0, 0, 0, _) from rfl) (Or.inl ⟨.int 11, rfl, rfl⟩) ?_
              refine XW.fam (S' := (184, [(3, .int 1), (2, .int pt), (1, .int lv), (0, .ref 41)], [.int 11, .ref 41], (sh, IQ29, LQ29, R))) (M := mr_100) rfl (show mcode 100 179 = some (179, .goto 5, 3, 184, 0, 0, _) from rfl) (Or.inr (Or.inl ⟨184, [.int 11, .ref 41], rfl, rfl⟩)) ?_
              refine XW.fam (S' := (185, [(3, .int 1), (2, .int pt), (1, .int lv), (0, .ref 41)], [.int pt, .int 11, .ref 41], (sh, IQ29, LQ29, R))) (M := mr_100) rfl (show mcode 100 184 = some (184, .iload_n 2, 1, 0, 0, 0, _) from rfl) (Or.inl ⟨.int pt, rfl, rfl⟩) ?_
              refine XW.call (d' := d) (mc' := 0) (ms' := 0) (av := [.ref 41, .int 11, .int pt]) (rest := []) (M := mr_100) (Ma := mr_107) rfl (show mcode 100 185 = some (185, .invokevirtual 108, 3, 107, 0, 0, _) from rfl) rfl (by decide) (by decide) ⟨rfl, 41, _, rfl, c41⟩ rfl rfl (show 0 ≤ 8 by decide) (tc_wrQ (d := d) (show QW sh R J K S N (gPx K F 9 0 (g.2 + 1)) (sh, IQ29, LQ29, R) from ⟨hfQ29, hwQ29, hkQ29, hsQ29⟩)) (by omega) (Nat.zero_le _) (Nat.zero_le _) (fun rQ35 wQ35 Q35 => ?_)
              obtain ⟨hrQ35, hfQ35, hwQ35, hkQ35, hsQ35⟩ := Q35
              subst hrQ35
              obtain ⟨shQ35, IQ35, LQ35, RQ35⟩ := wQ35
              obtain rfl : sh = shQ35 := hwQ35.2.2.2.1.symm
              obtain rfl : R = RQ35 := hwQ35.2.2.2.2.1.symm
              have hkQ35 : ∀ q k, inm mdT q k = false → IQ35 q k = J q k := hkQ35
              refine XW.fam (S' := (210, [(3, .int 1), (2, .int pt), (1, .int lv), (0, .ref 41)], [], (sh, IQ35, LQ35, R))) (M := mr_100) rfl (show mcode 100 188 = some (188, .goto 22, 3, 210, 0, 0, _) from rfl) (Or.inr (Or.inl ⟨210, [], rfl, rfl⟩)) ?_
              refine XW.ret (r := none) ⟨rfl, by decide +kernel⟩ ?_
              rw [gB_t e]
              first
                | (rw [if_pos (by omega)]; exact ⟨rfl, hfQ35, hwQ35, hkQ35, hsQ35⟩)
                | (rw [if_neg (by omega)]; exact ⟨rfl, hfQ35, hwQ35, hkQ35, by rw [← eg]; exact hsQ35⟩)
          | false =>
            have gk30 : ¬ (¬ (lv).toInt = 256) := icF (c := .ne) (a := (lv).toInt) (b := 256) rfl (by decide) k30
            refine XW.fam (S' := (146, [(3, .int 1), (2, .int pt), (1, .int lv), (0, .ref 41)], [], (sh, IQ29, LQ29, R))) (M := mr_100) rfl (show mcode 100 143 = some (143, .if_icmp .ne 22, 3, 165, 0, 0, _) from rfl) (Or.inr (Or.inl ⟨146, [], by simp [brn, k30], rfl⟩)) ?_
            refine XW.fam (S' := (147, [(3, .int 1), (2, .int pt), (1, .int lv), (0, .ref 41)], [.ref 41], (sh, IQ29, LQ29, R))) (M := mr_100) rfl (show mcode 100 146 = some (146, .aload_n 0, 1, 0, 0, 0, _) from rfl) (Or.inl ⟨.ref 41, rfl, rfl⟩) ?_
            refine XW.fam (S' := (148, [(3, .int 1), (2, .int pt), (1, .int lv), (0, .ref 41)], [.int 1, .ref 41], (sh, IQ29, LQ29, R))) (M := mr_100) rfl (show mcode 100 147 = some (147, .iload_n 3, 1, 0, 0, 0, _) from rfl) (Or.inl ⟨.int 1, rfl, rfl⟩) ?_
            refine XW.fam (S' := (151, [(3, .int 1), (2, .int pt), (1, .int lv), (0, .ref 41)], [.ref 41], (sh, IQ29, LQ29, R))) (M := mr_100) rfl (show mcode 100 148 = some (148, .ifCond .eq 8, 3, 156, 0, 0, _) from rfl) (Or.inr (Or.inl ⟨151, [.ref 41], rfl, rfl⟩)) ?_
            refine XW.fam (S' := (153, [(3, .int 1), (2, .int pt), (1, .int lv), (0, .ref 41)], [.int 7, .ref 41], (sh, IQ29, LQ29, R))) (M := mr_100) rfl (show mcode 100 151 = some (151, .bipush 7, 2, 0, 0, 0, _) from rfl) (Or.inl ⟨.int 7, rfl, rfl⟩) ?_
            refine XW.fam (S' := (158, [(3, .int 1), (2, .int pt), (1, .int lv), (0, .ref 41)], [.int 7, .ref 41], (sh, IQ29, LQ29, R))) (M := mr_100) rfl (show mcode 100 153 = some (153, .goto 5, 3, 158, 0, 0, _) from rfl) (Or.inr (Or.inl ⟨158, [.int 7, .ref 41], rfl, rfl⟩)) ?_
            refine XW.fam (S' := (159, [(3, .int 1), (2, .int pt), (1, .int lv), (0, .ref 41)], [.int 0, .int 7, .ref 41], (sh, IQ29, LQ29, R))) (M := mr_100) rfl (show mcode 100 158 = some (158, .iconst 0, 1, 0, 0, 0, _) from rfl) (Or.inl ⟨.int 0, rfl, rfl⟩) ?_
            refine XW.call (d' := d) (mc' := 0) (ms' := 0) (av := [.ref 41, .int 7, .int 0]) (rest := []) (M := mr_100) (Ma := mr_107) rfl (show mcode 100 159 = some (159, .invokevirtual 108, 3, 107, 0, 0, _) from rfl) rfl (by decide) (by decide) ⟨rfl, 41, _, rfl, c41⟩ rfl rfl (show 0 ≤ 8 by decide) (tc_wrQ (d := d) (show QW sh R J K S N (gPx K F 9 0 (g.2 + 1)) (sh, IQ29, LQ29, R) from ⟨hfQ29, hwQ29, hkQ29, hsQ29⟩)) (by omega) (Nat.zero_le _) (Nat.zero_le _) (fun rQ36 wQ36 Q36 => ?_)
            obtain ⟨hrQ36, hfQ36, hwQ36, hkQ36, hsQ36⟩ := Q36
            subst hrQ36
            obtain ⟨shQ36, IQ36, LQ36, RQ36⟩ := wQ36
            obtain rfl : sh = shQ36 := hwQ36.2.2.2.1.symm
            obtain rfl : R = RQ36 := hwQ36.2.2.2.2.1.symm
            have hkQ36 : ∀ q k, inm mdT q k = false → IQ36 q k = J q k := hkQ36
            refine XW.fam (S' := (210, [(3, .int 1), (2, .int pt), (1, .int lv), (0, .ref 41)], [], (sh, IQ36, LQ36, R))) (M := mr_100) rfl (show mcode 100 162 = some (162, .goto 48, 3, 210, 0, 0, _) from rfl) (Or.inr (Or.inl ⟨210, [], rfl, rfl⟩)) ?_
            refine XW.ret (r := none) ⟨rfl, by decide +kernel⟩ ?_
            rw [gB_t e]
            first
              | (rw [if_pos (by omega)]; exact ⟨rfl, hfQ36, hwQ36, hkQ36, hsQ36⟩)
              | (rw [if_neg (by omega)]; exact ⟨rfl, hfQ36, hwQ36, hkQ36, by rw [← eg]; exact hsQ36⟩)
  | false =>
    obtain ⟨fl, efl⟩ : ∃ z : Int32, I 41 8 = z := ⟨_, rfl⟩
    have hfl : fl.toInt = (S g.2 : Int) := by rw [← efl]; exact hs.2 e
    refine XW.fam (S' := (90, [(2, .int pt), (1, .int lv), (0, .ref 41)], [.ref 41], (sh, I, L, R))) (M := mr_100) rfl (show mcode 100 89 = some (89, .aload_n 0, 1, 0, 0, 0, _) from rfl) (Or.inl ⟨.ref 41, rfl, rfl⟩) ?_
    refine XW.fam (S' := (93, [(2, .int pt), (1, .int lv), (0, .ref 41)], [.int (I 41 8)], (sh, I, L, R))) (M := mr_100) rfl (show mcode 100 90 = some (90, .getfield 44, 3, 5, 8, 0, _) from rfl) (Or.inr (Or.inr (Or.inr (Or.inr (Or.inr (Or.inr (Or.inr (Or.inl ⟨_, _, rfl, fl_ldI c41 (by decide) (by decide), rfl⟩)))))))) ?_
    rw [efl]
    have k1 : bcmp .ge fl 0 = true := bcT (c := .ge) (a := (fl).toInt) (b := 0) rfl (by decide) (by show 0 ≤ (fl).toInt; omega)
    refine XW.fam (S' := (124, [(2, .int pt), (1, .int lv), (0, .ref 41)], [], (sh, I, L, R))) (M := mr_100) rfl (show mcode 100 93 = some (93, .ifCond .ge 31, 3, 124, 0, 0, _) from rfl) (Or.inr (Or.inl ⟨124, [], by simp [brn, k1], rfl⟩)) ?_
    refine XW.fam (S' := (125, [(2, .int pt), (1, .int lv), (0, .ref 41)], [.int 0], (sh, I, L, R))) (M := mr_100) rfl (show mcode 100 124 = some (124, .iconst 0, 1, 0, 0, 0, _) from rfl) (Or.inl ⟨.int 0, rfl, rfl⟩) ?_
    refine XW.fam (S' := (126, [(3, .int 0), (2, .int pt), (1, .int lv), (0, .ref 41)], [], (sh, I, L, R))) (M := mr_100) rfl (show mcode 100 125 = some (125, .istore_n 3, 1, 0, 0, 0, _) from rfl) (Or.inr (Or.inr (Or.inr (Or.inr (Or.inr (Or.inr (Or.inl ⟨_, [], _, rfl, rfl, rfl⟩))))))) ?_
    refine XW.fam (S' := (127, [(3, .int 0), (2, .int pt), (1, .int lv), (0, .ref 41)], [.int 0], (sh, I, L, R))) (M := mr_100) rfl (show mcode 100 126 = some (126, .iload_n 3, 1, 0, 0, 0, _) from rfl) (Or.inl ⟨.int 0, rfl, rfl⟩) ?_
    refine XW.fam (S' := (139, [(3, .int 0), (2, .int pt), (1, .int lv), (0, .ref 41)], [], (sh, I, L, R))) (M := mr_100) rfl (show mcode 100 127 = some (127, .ifCond .eq 12, 3, 139, 0, 0, _) from rfl) (Or.inr (Or.inl ⟨139, [], rfl, rfl⟩)) ?_
    refine XW.fam (S' := (140, [(3, .int 0), (2, .int pt), (1, .int lv), (0, .ref 41)], [.int lv], (sh, I, L, R))) (M := mr_100) rfl (show mcode 100 139 = some (139, .iload_n 1, 1, 0, 0, 0, _) from rfl) (Or.inl ⟨.int lv, rfl, rfl⟩) ?_
    refine XW.fam (S' := (143, [(3, .int 0), (2, .int pt), (1, .int lv), (0, .ref 41)], [.int 256, .int lv], (sh, I, L, R))) (M := mr_100) rfl (show mcode 100 140 = some (140, .sipush 256, 3, 0, 0, 0, _) from rfl) (Or.inl ⟨.int 256, rfl, rfl⟩) ?_
    cases k2 : bcmp .ne lv 256 with
    | true =>
      have gk2 : ¬ (lv).toInt = 256 := icT (c := .ne) (a := (lv).toInt) (b := 256) rfl (by decide) k2
      refine XW.fam (S' := (165, [(3, .int 0), (2, .int pt), (1, .int lv), (0, .ref 41)], [], (sh, I, L, R))) (M := mr_100) rfl (show mcode 100 143 = some (143, .if_icmp .ne 22, 3, 165, 0, 0, _) from rfl) (Or.inr (Or.inl ⟨165, [], by simp [brn, k2], rfl⟩)) ?_
      refine XW.fam (S' := (166, [(3, .int 0), (2, .int pt), (1, .int lv), (0, .ref 41)], [.int lv], (sh, I, L, R))) (M := mr_100) rfl (show mcode 100 165 = some (165, .iload_n 1, 1, 0, 0, 0, _) from rfl) (Or.inl ⟨.int lv, rfl, rfl⟩) ?_
      refine XW.fam (S' := (169, [(3, .int 0), (2, .int pt), (1, .int lv), (0, .ref 41)], [.int 259, .int lv], (sh, I, L, R))) (M := mr_100) rfl (show mcode 100 166 = some (166, .sipush 259, 3, 0, 0, 0, _) from rfl) (Or.inl ⟨.int 259, rfl, rfl⟩) ?_
      cases k3 : bcmp .ne lv 259 with
      | true =>
        have gk3 : ¬ (lv).toInt = 259 := icT (c := .ne) (a := (lv).toInt) (b := 259) rfl (by decide) k3
        refine XW.fam (S' := (191, [(3, .int 0), (2, .int pt), (1, .int lv), (0, .ref 41)], [], (sh, I, L, R))) (M := mr_100) rfl (show mcode 100 169 = some (169, .if_icmp .ne 22, 3, 191, 0, 0, _) from rfl) (Or.inr (Or.inl ⟨191, [], by simp [brn, k3], rfl⟩)) ?_
        refine XW.fam (S' := (192, [(3, .int 0), (2, .int pt), (1, .int lv), (0, .ref 41)], [.ref 41], (sh, I, L, R))) (M := mr_100) rfl (show mcode 100 191 = some (191, .aload_n 0, 1, 0, 0, 0, _) from rfl) (Or.inl ⟨.ref 41, rfl, rfl⟩) ?_
        refine XW.fam (S' := (193, [(3, .int 0), (2, .int pt), (1, .int lv), (0, .ref 41)], [.int lv, .ref 41], (sh, I, L, R))) (M := mr_100) rfl (show mcode 100 192 = some (192, .iload_n 1, 1, 0, 0, 0, _) from rfl) (Or.inl ⟨.int lv, rfl, rfl⟩) ?_
        refine XW.fam (S' := (196, [(3, .int 0), (2, .int pt), (1, .int lv), (0, .ref 41)], [.int 257, .int lv, .ref 41], (sh, I, L, R))) (M := mr_100) rfl (show mcode 100 193 = some (193, .sipush 257, 3, 0, 0, 0, _) from rfl) (Or.inl ⟨.int 257, rfl, rfl⟩) ?_
        cases k4 : bcmp .ne lv 257 with
        | true =>
          have gk4 : ¬ (lv).toInt = 257 := icT (c := .ne) (a := (lv).toInt) (b := 257) rfl (by decide) k4
          refine XW.fam (S' := (204, [(3, .int 0), (2, .int pt), (1, .int lv), (0, .ref 41)], [.ref 41], (sh, I, L, R))) (M := mr_100) rfl (show mcode 100 196 = some (196, .if_icmp .ne 8, 3, 204, 0, 0, _) from rfl) (Or.inr (Or.inl ⟨204, [.ref 41], by simp [brn, k4], rfl⟩)) ?_
          refine XW.fam (S' := (206, [(3, .int 0), (2, .int pt), (1, .int lv), (0, .ref 41)], [.int 9, .ref 41], (sh, I, L, R))) (M := mr_100) rfl (show mcode 100 204 = some (204, .bipush 9, 2, 0, 0, 0, _) from rfl) (Or.inl ⟨.int 9, rfl, rfl⟩) ?_
          refine XW.fam (S' := (207, [(3, .int 0), (2, .int pt), (1, .int lv), (0, .ref 41)], [.int 0, .int 9, .ref 41], (sh, I, L, R))) (M := mr_100) rfl (show mcode 100 206 = some (206, .iconst 0, 1, 0, 0, 0, _) from rfl) (Or.inl ⟨.int 0, rfl, rfl⟩) ?_
          refine XW.call (d' := d) (mc' := 0) (ms' := 0) (av := [.ref 41, .int 9, .int 0]) (rest := []) (M := mr_100) (Ma := mr_107) rfl (show mcode 100 207 = some (207, .invokevirtual 108, 3, 107, 0, 0, _) from rfl) rfl (by decide) (by decide) ⟨rfl, 41, _, rfl, c41⟩ rfl rfl (show 0 ≤ 8 by decide) (tc_wrQ (d := d) (show QW sh R J K S N g (sh, I, L, R) from ⟨hf, hw, hk, hs⟩)) (by omega) (Nat.zero_le _) (Nat.zero_le _) (fun rQ5 wQ5 Q5 => ?_)
          obtain ⟨hrQ5, hfQ5, hwQ5, hkQ5, hsQ5⟩ := Q5
          subst hrQ5
          obtain ⟨shQ5, IQ5, LQ5, RQ5⟩ := wQ5
          obtain rfl : sh = shQ5 := hwQ5.2.2.2.1.symm
          obtain rfl : R = RQ5 := hwQ5.2.2.2.2.1.symm
          have hkQ5 : ∀ q k, inm mdT q k = false → IQ5 q k = J q k := hkQ5
          refine XW.ret (r := none) ⟨rfl, by decide +kernel⟩ ?_
          rw [gB_f e]
          exact ⟨rfl, hfQ5, hwQ5, hkQ5, hsQ5⟩
        | false =>
          have gk4 : ¬ (¬ (lv).toInt = 257) := icF (c := .ne) (a := (lv).toInt) (b := 257) rfl (by decide) k4
          refine XW.fam (S' := (199, [(3, .int 0), (2, .int pt), (1, .int lv), (0, .ref 41)], [.ref 41], (sh, I, L, R))) (M := mr_100) rfl (show mcode 100 196 = some (196, .if_icmp .ne 8, 3, 204, 0, 0, _) from rfl) (Or.inr (Or.inl ⟨199, [.ref 41], by simp [brn, k4], rfl⟩)) ?_
          refine XW.fam (S' := (201, [(3, .int 0), (2, .int pt), (1, .int lv), (0, .ref 41)], [.int 8, .ref 41], (sh, I, L, R))) (M := mr_100) rfl (show mcode 100 199 = some (199, .bipush 8, 2, 0, 0, 0, _) from rfl) (Or.inl ⟨.int 8, rfl, rfl⟩) ?_
          refine XW.fam (S' := (206, [(3, .int 0), (2, .int pt), (1, .int lv), (0, .ref 41)], [.int 8, .ref 41], (sh, I, L, R))) (M := mr_100) rfl (show mcode 100 201 = some (201, .goto 5, 3, 206, 0, 0, _) from rfl) (Or.inr (Or.inl ⟨206, [.int 8, .ref 41], rfl, rfl⟩)) ?_
          refine XW.fam (S' := (207, [(3, .int 0), (2, .int pt), (1, .int lv), (0, .ref 41)], [.int 0, .int 8, .ref 41], (sh, I, L, R))) (M := mr_100) rfl (show mcode 100 206 = some (206, .iconst 0, 1, 0, 0, 0, _) from rfl) (Or.inl ⟨.int 0, rfl, rfl⟩) ?_
          refine XW.call (d' := d) (mc' := 0) (ms' := 0) (av := [.ref 41, .int 8, .int 0]) (rest := []) (M := mr_100) (Ma := mr_107) rfl (show mcode 100 207 = some (207, .invokevirtual 108, 3, 107, 0, 0, _) from rfl) rfl (by decide) (by decide) ⟨rfl, 41, _, rfl, c41⟩ rfl rfl (show 0 ≤ 8 by decide) (tc_wrQ (d := d) (show QW sh R J K S N g (sh, I, L, R) from ⟨hf, hw, hk, hs⟩)) (by omega) (Nat.zero_le _) (Nat.zero_le _) (fun rQ6 wQ6 Q6 => ?_)
          obtain ⟨hrQ6, hfQ6, hwQ6, hkQ6, hsQ6⟩ := Q6
          subst hrQ6
          obtain ⟨shQ6, IQ6, LQ6, RQ6⟩ := wQ6
          obtain rfl : sh = shQ6 := hwQ6.2.2.2.1.symm
          obtain rfl : R = RQ6 := hwQ6.2.2.2.2.1.symm
          have hkQ6 : ∀ q k, inm mdT q k = false → IQ6 q k = J q k := hkQ6
          refine XW.ret (r := none) ⟨rfl, by decide +kernel⟩ ?_
          rw [gB_f e]
          exact ⟨rfl, hfQ6, hwQ6, hkQ6, hsQ6⟩
      | false =>
        have gk3 : ¬ (¬ (lv).toInt = 259) := icF (c := .ne) (a := (lv).toInt) (b := 259) rfl (by decide) k3
        refine XW.fam (S' := (172, [(3, .int 0), (2, .int pt), (1, .int lv), (0, .ref 41)], [], (sh, I, L, R))) (M := mr_100) rfl (show mcode 100 169 = some (169, .if_icmp .ne 22, 3, 191, 0, 0, _) from rfl) (Or.inr (Or.inl ⟨172, [], by simp [brn, k3], rfl⟩)) ?_
        refine XW.fam (S' := (173, [(3, .int 0), (2, .int pt), (1, .int lv), (0, .ref 41)], [.ref 41], (sh, I, L, R))) (M := mr_100) rfl (show mcode 100 172 = some (172, .aload_n 0, 1, 0, 0, 0, _) from rfl) (Or.inl ⟨.ref 41, rfl, rfl⟩) ?_
        refine XW.fam (S' := (174, [(3, .int 0), (2, .int pt), (1, .int lv), (0, .ref 41)], [.int 0, .ref 41], (sh, I, L, R))) (M := mr_100) rfl (show mcode 100 173 = some (173, .iload_n 3, 1, 0, 0, 0, _) from rfl) (Or.inl ⟨.int 0, rfl, rfl⟩) ?_
        refine XW.fam (S' := (182, [(3, .int 0), (2, .int pt), (1, .int lv), (0, .ref 41)], [.ref 41], (sh, I, L, R))) (M := mr_100) rfl (show mcode 100 174 = some (174, .ifCond .eq 8, 3, 182, 0, 0, _) from rfl) (Or.inr (Or.inl ⟨182, [.ref 41], rfl, rfl⟩)) ?_
        refine XW.fam (S' := (184, [(3, .int 0), (2, .int pt), (1, .int lv), (0, .ref 41)], [.int 10, .ref 41], (sh, I, L, R))) (M := mr_100) rfl (show mcode 100 182 = some (182, .bipush 10, 2, 0, 0, 0, _) from rfl) (Or.inl ⟨.int 10, rfl, rfl⟩) ?_
        refine XW.fam (S' := (185, [(3, .int 0), (2, .int pt), (1, .int lv), (0, .ref 41)], [.int pt, .int 10, .ref 41], (sh, I, L, R))) (M := mr_100) rfl (show mcode 100 184 = some (184, .iload_n 2, 1, 0, 0, 0, _) from rfl) (Or.inl ⟨.int pt, rfl, rfl⟩) ?_
        refine XW.call (d' := d) (mc' := 0) (ms' := 0) (av := [.ref 41, .int 10, .int pt]) (rest := []) (M := mr_100) (Ma := mr_107) rfl (show mcode 100 185 = some (185, .invokevirtual 108, 3, 107, 0, 0, _) from rfl) rfl (by decide) (by decide) ⟨rfl, 41, _, rfl, c41⟩ rfl rfl (show 0 ≤ 8 by decide) (tc_wrQ (d := d) (show QW sh R J K S N g (sh, I, L, R) from ⟨hf, hw, hk, hs⟩)) (by omega) (Nat.zero_le _) (Nat.zero_le _) (fun rQ7 wQ7 Q7 => ?_)
        obtain ⟨hrQ7, hfQ7, hwQ7, hkQ7, hsQ7⟩ := Q7
        subst hrQ7
        obtain ⟨shQ7, IQ7, LQ7, RQ7⟩ := wQ7
        obtain rfl : sh = shQ7 := hwQ7.2.2.2.1.symm
        obtain rfl : R = RQ7 := hwQ7.2.2.2.2.1.symm
        have hkQ7 : ∀ q k, inm mdT q k = false → IQ7 q k = J q k := hkQ7
        refine XW.fam (S' := (210, [(3, .int 0), (2, .int pt), (1, .int lv), (0, .ref 41)], [], (sh, IQ7, LQ7, R))) (M := mr_100) rfl (show mcode 100 188 = some (188, .goto 22, 3, 210, 0, 0, _) from rfl) (Or.inr (Or.inl ⟨210, [], rfl, rfl⟩)) ?_
        refine XW.ret (r := none) ⟨rfl, by decide +kernel⟩ ?_
        rw [gB_f e]
        exact ⟨rfl, hfQ7, hwQ7, hkQ7, hsQ7⟩
    | false =>
      have gk2 : ¬ (¬ (lv).toInt = 256) := icF (c := .ne) (a := (lv).toInt) (b := 256) rfl (by decide) k2
      refine XW.fam (S' := (146, [(3, .int 0), (2, .int pt), (1, .int lv), (0, .ref 41)], [], (sh, I, L, R))) (M := mr_100) rfl (show mcode 100 143 = some (143, .if_icmp .ne 22, 3, 165, 0, 0, _) from rfl) (Or.inr (Or.inl ⟨146, [], by simp [brn, k2], rfl⟩)) ?_
      refine XW.fam (S' := (147, [(3, .int 0), (2, .int pt), (1, .int lv), (0, .ref 41)], [.ref 41], (sh, I, L, R))) (M := mr_100) rfl (show mcode 100 146 = some (146, .aload_n 0, 1, 0, 0, 0, _) from rfl) (Or.inl ⟨.ref 41, rfl, rfl⟩) ?_
      refine XW.fam (S' := (148, [(3, .int 0), (2, .int pt), (1, .int lv), (0, .ref 41)], [.int 0, .ref 41], (sh, I, L, R))) (M := mr_100) rfl (show mcode 100 147 = some (147, .iload_n 3, 1, 0, 0, 0, _) from rfl) (Or.inl ⟨.int 0, rfl, rfl⟩) ?_
      refine XW.fam (S' := (156, [(3, .int 0), (2, .int pt), (1, .int lv), (0, .ref 41)], [.ref 41], (sh, I, L, R))) (M := mr_100) rfl (show mcode 100 148 = some (148, .ifCond .eq 8, 3, 156, 0, 0, _) from rfl) (Or.inr (Or.inl ⟨156, [.ref 41], rfl, rfl⟩)) ?_
      refine XW.fam (S' := (158, [(3, .int 0), (2, .int pt), (1, .int lv), (0, .ref 41)], [.int 6, .ref 41], (sh, I, L, R))) (M := mr_100) rfl (show mcode 100 156 = some (156, .bipush 6, 2, 0, 0, 0, _) from rfl) (Or.inl ⟨.int 6, rfl, rfl⟩) ?_
      refine XW.fam (S' := (159, [(3, .int 0), (2, .int pt), (1, .int lv), (0, .ref 41)], [.int 0, .int 6, .ref 41], (sh, I, L, R))) (M := mr_100) rfl (show mcode 100 158 = some (158, .iconst 0, 1, 0, 0, 0, _) from rfl) (Or.inl ⟨.int 0, rfl, rfl⟩) ?_
      refine XW.call (d' := d) (mc' := 0) (ms' := 0) (av := [.ref 41, .int 6, .int 0]) (rest := []) (M := mr_100) (Ma := mr_107) rfl (show mcode 100 159 = some (159, .invokevirtual 108, 3, 107, 0, 0, _) from rfl) rfl (by decide) (by decide) ⟨rfl, 41, _, rfl, c41⟩ rfl rfl (show 0 ≤ 8 by decide) (tc_wrQ (d := d) (show QW sh R J K S N g (sh, I, L, R) from ⟨hf, hw, hk, hs⟩)) (by omega) (Nat.zero_le _) (Nat.zero_le _) (fun rQ8 wQ8 Q8 => ?_)
      obtain ⟨hrQ8, hfQ8, hwQ8, hkQ8, hsQ8⟩ := Q8
      subst hrQ8
      obtain ⟨shQ8, IQ8, LQ8, RQ8⟩ := wQ8
      obtain rfl : sh = shQ8 := hwQ8.2.2.2.1.symm
      obtain rfl : R = RQ8 := hwQ8.2.2.2.2.1.symm
      have hkQ8 : ∀ q k, inm mdT q k = false → IQ8 q k = J q k := hkQ8
      refine XW.fam (S' := (210, [(3, .int 0), (2, .int pt), (1, .int lv), (0, .ref 41)], [], (sh, IQ8, LQ8, R))) (M := mr_100) rfl (show mcode 100 162 = some (162, .goto 48, 3, 210, 0, 0, _) from rfl) (Or.inr (Or.inl ⟨210, [], rfl, rfl⟩)) ?_
      refine XW.ret (r := none) ⟨rfl, by decide +kernel⟩ ?_
      rw [gB_f e]
      exact ⟨rfl, hfQ8, hwQ8, hkQ8, hsQ8⟩
theorem tc_line1 {d F i : Nat} {sh : List mE} {J : Nat → Nat → Int32} {R : Nat → Nat → Option Nat} {K : Nat → Int} {S : Nat → Nat} {N : Nat} {I : Nat → Nat → Int32} {L : Nat → Nat → Int64} (hT : tvC J K S N) (Hf : 2500 ≤ F) (Ha : CTx sh R J K S N d 103 6 9 F) (Hs : CTx sh R J K S N d 109 3 4 F) (hw : wOK (mkT vV []) (wE sh R) (sh, I, L, R)) (hf : fresh (sh, I, L, R)) (hk : ∀ q k, inm mdT q k = false → I q k = J q k) (hst : stt K N I i) : Tc 100 (d + 2 + (6 * (8 - 0) + 7)) 0 0 [.ref 41] (sh, I, L, R) (QT sh R J K S N (gLn K F i)) := by
  obtain ⟨⟨hN5, hN2⟩, hN, hTk⟩ := id hT
  have c41 : sh[41]? = some (.inr 5) := hw.1 41 _ rfl
  have c45 : sh[45]? = some (.inl (.int, 241)) := hw.1 45 _ rfl
  have r41_4 : R 41 4 = some 45 := hw.2.1 41 4 _ rfl
  have z0 : (0 : Int32).toInt = 0 := rfl
  have z256 : (256 : Int32).toInt = 256 := rfl
  have z258 : (258 : Int32).toInt = 258 := rfl
  have z259 : (259 : Int32).toInt = 259 := rfl
  have z300 : (300 : Int32).toInt = 300 := rfl
  obtain ⟨a, ea⟩ : ∃ z : Int32, I 41 6 = z := ⟨_, rfl⟩
  have ha : a.toInt = (i : Int) := by rw [← ea]; exact hst.1
  obtain ⟨tk, etk⟩ : ∃ z : Int32, I 41 7 = z := ⟨_, rfl⟩
  have htk : tk.toInt = K i := by rw [← etk]; exact hst.2.1
  obtain ⟨fl, efl⟩ : ∃ z : Int32, I 41 8 = z := ⟨_, rfl⟩
  have hfl : fl.toInt = -1 := by rw [← efl]; exact hst.2.2.1
  have hle : i ≤ N := hst.2.2.2
  have hlt : ¬ K i = 302 → i < N := lt_N hN hle
  refine Tc.of mr_100 rfl (show 1 ≤ mr_100.2.2.2.1 by decide) ?_
  refine XW.fam (S' := (1, [(0, .ref 41)], [.ref 41], (sh, I, L, R))) (M := mr_100) rfl (show mcode 100 0 = some (0, .aload_n 0, 1, 0, 0, 0, _) from rfl) (Or.inl ⟨.ref 41, rfl, rfl⟩) ?_
  refine XW.fam (S' := (4, [(0, .ref 41)], [.int (I 41 7)], (sh, I, L, R))) (M := mr_100) rfl (show mcode 100 1 = some (1, .getfield 38, 3, 5, 7, 0, _) from rfl) (Or.inr (Or.inr (Or.inr (Or.inr (Or.inr (Or.inr (Or.inr (Or.inl ⟨_, _, rfl, fl_ldI c41 (by decide) (by decide), rfl⟩)))))))) ?_
  rw [etk]
  refine XW.fam (S' := (5, [(1, .int tk), (0, .ref 41)], [], (sh, I, L, R))) (M := mr_100) rfl (show mcode 100 4 = some (4, .istore_n 1, 1, 0, 0, 0, _) from rfl) (Or.inr (Or.inr (Or.inr (Or.inr (Or.inr (Or.inr (Or.inl ⟨_, [], _, rfl, rfl, rfl⟩))))))) ?_
  refine XW.fam (S' := (6, [(1, .int tk), (0, .ref 41)], [.int tk], (sh, I, L, R))) (M := mr_100) rfl (show mcode 100 5 = some (5, .iload_n 1, 1, 0, 0, 0, _) from rfl) (Or.inl ⟨.int tk, rfl, rfl⟩) ?_
  refine XW.fam (S' := (9, [(1, .int tk), (0, .ref 41)], [.int 256, .int tk], (sh, I, L, R))) (M := mr_100) rfl (show mcode 100 6 = some (6, .sipush 256, 3, 0, 0, 0, _) from rfl) (Or.inl ⟨.int 256, rfl, rfl⟩) ?_
  cases k1 : bcmp .lt tk 256 with
  | true =>
    have gk1 : (tk).toInt < 256 := icT (c := .lt) (a := (tk).toInt) (b := 256) rfl (by decide) k1
    refine XW.fam (S' := (19, [(1, .int tk), (0, .ref 41)], [], (sh, I, L, R))) (M := mr_100) rfl (show mcode 100 9 = some (9, .if_icmp .lt 10, 3, 19, 0, 0, _) from rfl) (Or.inr (Or.inl ⟨19, [], by simp [brn, k1], rfl⟩)) ?_
    refine XW.fam (S' := (20, [(1, .int tk), (0, .ref 41)], [.ref 41], (sh, I, L, R))) (M := mr_100) rfl (show mcode 100 19 = some (19, .aload_n 0, 1, 0, 0, 0, _) from rfl) (Or.inl ⟨.ref 41, rfl, rfl⟩) ?_
    refine XW.call (d' := d) (mc' := 0) (ms' := 0) (av := [.ref 41]) (rest := []) (M := mr_100) (Ma := mr_101) rfl (show mcode 100 20 = some (20, .invokevirtual 53, 3, 101, 0, 0, _) from rfl) rfl (by decide) (by decide) ⟨rfl, 41, _, rfl, c41⟩ rfl rfl (show 0 ≤ 8 by decide) (tc_fail (d := d) hT hw hf hk hst) (by omega) (Nat.zero_le _) (Nat.zero_le _) (fun rQ2 wQ2 Q2 => ?_)
    obtain ⟨hrQ2, hfQ2, hwQ2, hkQ2, hsQ2⟩ := Q2
    subst hrQ2
    obtain ⟨shQ2, IQ2, LQ2, RQ2⟩ := wQ2
    obtain rfl : sh = shQ2 := hwQ2.2.2.2.1.symm
    obtain rfl : R = RQ2 := hwQ2.2.2.2.2.1.symm
    have hkQ2 : ∀ q k, inm mdT q k = false → IQ2 q k = J q k := hkQ2
    refine XW.ret (r := none) ⟨rfl, by decide +kernel⟩ ?_
    unfold gLn
    rw [if_pos (by omega)]
    exact ⟨rfl, hfQ2, hwQ2, hkQ2, hsQ2⟩
  | false =>
    have gk1 : ¬ ((tk).toInt < 256) := icF (c := .lt) (a := (tk).toInt) (b := 256) rfl (by decide) k1
    refine XW.fam (S' := (12, [(1, .int tk), (0, .ref 41)], [], (sh, I, L, R))) (M := mr_100) rfl (show mcode 100 9 = some (9, .if_icmp .lt 10, 3, 19, 0, 0, _) from rfl) (Or.inr (Or.inl ⟨12, [], by simp [brn, k1], rfl⟩)) ?_
    refine XW.fam (S' := (13, [(1, .int tk), (0, .ref 41)], [.int tk], (sh, I, L, R))) (M := mr_100) rfl (show mcode 100 12 = some (12, .iload_n 1, 1, 0, 0, 0, _) from rfl) (Or.inl ⟨.int tk, rfl, rfl⟩) ?_
    refine XW.fam (S' := (16, [(1, .int tk), (0, .ref 41)], [.int 259, .int tk], (sh, I, L, R))) (M := mr_100) rfl (show mcode 100 13 = some (13, .sipush 259, 3, 0, 0, 0, _) from rfl) (Or.inl ⟨.int 259, rfl, rfl⟩) ?_
    cases k3 : bcmp .le tk 259 with
    | true =>
      have gk3 : (tk).toInt ≤ 259 := icT (c := .le) (a := (tk).toInt) (b := 259) rfl (by decide) k3
      refine XW.fam (S' := (24, [(1, .int tk), (0, .ref 41)], [], (sh, I, L, R))) (M := mr_100) rfl (show mcode 100 16 = some (16, .if_icmp .le 8, 3, 24, 0, 0, _) from rfl) (Or.inr (Or.inl ⟨24, [], by simp [brn, k3], rfl⟩)) ?_
      refine XW.fam (S' := (25, [(1, .int tk), (0, .ref 41)], [.ref 41], (sh, I, L, R))) (M := mr_100) rfl (show mcode 100 24 = some (24, .aload_n 0, 1, 0, 0, 0, _) from rfl) (Or.inl ⟨.ref 41, rfl, rfl⟩) ?_
      refine XW.call (d' := d) (mc' := 0) (ms' := 0) (av := [.ref 41]) (rest := []) (M := mr_100) (Ma := mr_102) rfl (show mcode 100 25 = some (25, .invokevirtual 50, 3, 102, 0, 0, _) from rfl) rfl (by decide) (by decide) ⟨rfl, 41, _, rfl, c41⟩ rfl rfl (show 0 ≤ 8 by decide) (tc_adv (d := d) hT hw hf hk hst (lt_N hN hle (by omega))) (by omega) (Nat.zero_le _) (Nat.zero_le _) (fun rQ4 wQ4 Q4 => ?_)
      obtain ⟨hrQ4, hfQ4, hwQ4, hkQ4, hsQ4⟩ := Q4
      subst hrQ4
      obtain ⟨shQ4, IQ4, LQ4, RQ4⟩ := wQ4
      obtain rfl : sh = shQ4 := hwQ4.2.2.2.1.symm
      obtain rfl : R = RQ4 := hwQ4.2.2.2.2.1.symm
      have hkQ4 : ∀ q k, inm mdT q k = false → IQ4 q k = J q k := hkQ4
      have hst1 := hsQ4.1 rfl
      obtain ⟨a1, ea1⟩ : ∃ z : Int32, IQ4 41 6 = z := ⟨_, rfl⟩
      have ha1 : a1.toInt = ((i + 1) : Int) := by rw [← ea1]; exact hst1.1
      obtain ⟨tk1, etk1⟩ : ∃ z : Int32, IQ4 41 7 = z := ⟨_, rfl⟩
      have htk1 : tk1.toInt = K (i + 1) := by rw [← etk1]; exact hst1.2.1
      obtain ⟨fl1, efl1⟩ : ∃ z : Int32, IQ4 41 8 = z := ⟨_, rfl⟩
      have hfl1 : fl1.toInt = -1 := by rw [← efl1]; exact hst1.2.2.1
      have hle1 : (i + 1) ≤ N := hst1.2.2.2
      have hlt1 : ¬ K (i + 1) = 302 → (i + 1) < N := lt_N hN hle1
      refine XW.fam (S' := (29, [(1, .int tk), (0, .ref 41)], [.ref 41], (sh, IQ4, LQ4, R))) (M := mr_100) rfl (show mcode 100 28 = some (28, .aload_n 0, 1, 0, 0, 0, _) from rfl) (Or.inl ⟨.ref 41, rfl, rfl⟩) ?_
      refine XW.fam (S' := (32, [(1, .int tk), (0, .ref 41)], [.ref 45], (sh, IQ4, LQ4, R))) (M := mr_100) rfl (show mcode 100 29 = some (29, .getfield 22, 3, 5, 4, 0, _) from rfl) (Or.inr (Or.inr (Or.inr (Or.inr (Or.inr (Or.inr (Or.inr (Or.inl ⟨_, _, rfl, fl_ld c41 r41_4 (by decide) (by decide), rfl⟩)))))))) ?_
      refine XW.fam (S' := (33, [(1, .int tk), (0, .ref 41)], [.ref 41, .ref 45], (sh, IQ4, LQ4, R))) (M := mr_100) rfl (show mcode 100 32 = some (32, .aload_n 0, 1, 0, 0, 0, _) from rfl) (Or.inl ⟨.ref 41, rfl, rfl⟩) ?_
      refine XW.fam (S' := (36, [(1, .int tk), (0, .ref 41)], [.int (IQ4 41 6), .ref 45], (sh, IQ4, LQ4, R))) (M := mr_100) rfl (show mcode 100 33 = some (33, .getfield 35, 3, 5, 6, 0, _) from rfl) (Or.inr (Or.inr (Or.inr (Or.inr (Or.inr (Or.inr (Or.inr (Or.inl ⟨_, _, rfl, fl_ldI c41 (by decide) (by decide), rfl⟩)))))))) ?_
      rw [ea1]
      have hab : 0 ≤ a1.toInt ∧ a1.toInt ≤ 240 := by omega
      have hin5 : inR a1 241 = true := inR_of (by omega) (by omega)
      refine XW.fam (S' := (37, [(1, .int tk), (0, .ref 41)], [.int (IQ4 45 (a1).toNatClampNeg)], (sh, IQ4, LQ4, R))) (M := mr_100) rfl (show mcode 100 36 = some (36, .iaload, 1, 0, 0, 0, _) from rfl) (Or.inr (Or.inr (Or.inl ⟨_, lda_i c45 hin5, rfl⟩))) ?_
      refine XW.fam (S' := (38, [(2, .int (IQ4 45 (a1).toNatClampNeg)), (1, .int tk), (0, .ref 41)], [], (sh, IQ4, LQ4, R))) (M := mr_100) rfl (show mcode 100 37 = some (37, .istore_n 2, 1, 0, 0, 0, _) from rfl) (Or.inr (Or.inr (Or.inr (Or.inr (Or.inr (Or.inr (Or.inl ⟨_, [], _, rfl, rfl, rfl⟩))))))) ?_
      refine XW.fam (S' := (39, [(2, .int (IQ4 45 (a1).toNatClampNeg)), (1, .int tk), (0, .ref 41)], [.int tk], (sh, IQ4, LQ4, R))) (M := mr_100) rfl (show mcode 100 38 = some (38, .iload_n 1, 1, 0, 0, 0, _) from rfl) (Or.inl ⟨.int tk, rfl, rfl⟩) ?_
      refine XW.fam (S' := (42, [(2, .int (IQ4 45 (a1).toNatClampNeg)), (1, .int tk), (0, .ref 41)], [.int 258, .int tk], (sh, IQ4, LQ4, R))) (M := mr_100) rfl (show mcode 100 39 = some (39, .sipush 258, 3, 0, 0, 0, _) from rfl) (Or.inl ⟨.int 258, rfl, rfl⟩) ?_
      cases k6 : bcmp .ne tk 258 with
      | true =>
        have gk6 : ¬ (tk).toInt = 258 := icT (c := .ne) (a := (tk).toInt) (b := 258) rfl (by decide) k6
        refine XW.fam (S' := (53, [(2, .int (IQ4 45 (a1).toNatClampNeg)), (1, .int tk), (0, .ref 41)], [], (sh, IQ4, LQ4, R))) (M := mr_100) rfl (show mcode 100 42 = some (42, .if_icmp .ne 11, 3, 53, 0, 0, _) from rfl) (Or.inr (Or.inl ⟨53, [], by simp [brn, k6], rfl⟩)) ?_
        refine XW.fam (S' := (54, [(2, .int (IQ4 45 (a1).toNatClampNeg)), (1, .int tk), (0, .ref 41)], [.int tk], (sh, IQ4, LQ4, R))) (M := mr_100) rfl (show mcode 100 53 = some (53, .iload_n 1, 1, 0, 0, 0, _) from rfl) (Or.inl ⟨.int tk, rfl, rfl⟩) ?_
        refine XW.fam (S' := (57, [(2, .int (IQ4 45 (a1).toNatClampNeg)), (1, .int tk), (0, .ref 41)], [.int 259, .int tk], (sh, IQ4, LQ4, R))) (M := mr_100) rfl (show mcode 100 54 = some (54, .sipush 259, 3, 0, 0, 0, _) from rfl) (Or.inl ⟨.int 259, rfl, rfl⟩) ?_
        cases k7 : bcmp .eq tk 259 with
        | true =>
          have gk7 : (tk).toInt = 259 := icT (c := .eq) (a := (tk).toInt) (b := 259) rfl (by decide) k7
          refine XW.fam (S' := (68, [(2, .int (IQ4 45 (a1).toNatClampNeg)), (1, .int tk), (0, .ref 41)], [], (sh, IQ4, LQ4, R))) (M := mr_100) rfl (show mcode 100 57 = some (57, .if_icmp .eq 11, 3, 68, 0, 0, _) from rfl) (Or.inr (Or.inl ⟨68, [], by simp [brn, k7], rfl⟩)) ?_
          refine XW.fam (S' := (69, [(2, .int (IQ4 45 (a1).toNatClampNeg)), (1, .int tk), (0, .ref 41)], [.ref 41], (sh, IQ4, LQ4, R))) (M := mr_100) rfl (show mcode 100 68 = some (68, .aload_n 0, 1, 0, 0, 0, _) from rfl) (Or.inl ⟨.ref 41, rfl, rfl⟩) ?_
          refine XW.fam (S' := (72, [(2, .int (IQ4 45 (a1).toNatClampNeg)), (1, .int tk), (0, .ref 41)], [.int (IQ4 41 7)], (sh, IQ4, LQ4, R))) (M := mr_100) rfl (show mcode 100 69 = some (69, .getfield 38, 3, 5, 7, 0, _) from rfl) (Or.inr (Or.inr (Or.inr (Or.inr (Or.inr (Or.inr (Or.inr (Or.inl ⟨_, _, rfl, fl_ldI c41 (by decide) (by decide), rfl⟩)))))))) ?_
          rw [etk1]
          refine XW.fam (S' := (75, [(2, .int (IQ4 45 (a1).toNatClampNeg)), (1, .int tk), (0, .ref 41)], [.int 300, .int tk1], (sh, IQ4, LQ4, R))) (M := mr_100) rfl (show mcode 100 72 = some (72, .sipush 300, 3, 0, 0, 0, _) from rfl) (Or.inl ⟨.int 300, rfl, rfl⟩) ?_
          cases k8 : bcmp .ne tk1 300 with
          | true =>
            have gk8 : ¬ (tk1).toInt = 300 := icT (c := .ne) (a := (tk1).toInt) (b := 300) rfl (by decide) k8
            refine XW.fam (S' := (85, [(2, .int (IQ4 45 (a1).toNatClampNeg)), (1, .int tk), (0, .ref 41)], [], (sh, IQ4, LQ4, R))) (M := mr_100) rfl (show mcode 100 75 = some (75, .if_icmp .ne 10, 3, 85, 0, 0, _) from rfl) (Or.inr (Or.inl ⟨85, [], by simp [brn, k8], rfl⟩)) ?_
            refine XW.fam (S' := (86, [(2, .int (IQ4 45 (a1).toNatClampNeg)), (1, .int tk), (0, .ref 41)], [.ref 41], (sh, IQ4, LQ4, R))) (M := mr_100) rfl (show mcode 100 85 = some (85, .aload_n 0, 1, 0, 0, 0, _) from rfl) (Or.inl ⟨.ref 41, rfl, rfl⟩) ?_
            refine XW.call (d' := d) (mc' := 0) (ms' := 0) (av := [.ref 41]) (rest := []) (M := mr_100) (Ma := mr_101) rfl (show mcode 100 86 = some (86, .invokevirtual 53, 3, 101, 0, 0, _) from rfl) rfl (by decide) (by decide) ⟨rfl, 41, _, rfl, c41⟩ rfl rfl (show 0 ≤ 8 by decide) (tc_fail (d := d) hT hwQ4 hfQ4 hkQ4 hst1) (by omega) (Nat.zero_le _) (Nat.zero_le _) (fun rQ9 wQ9 Q9 => ?_)
            obtain ⟨hrQ9, hfQ9, hwQ9, hkQ9, hsQ9⟩ := Q9
            subst hrQ9
            obtain ⟨shQ9, IQ9, LQ9, RQ9⟩ := wQ9
            obtain rfl : sh = shQ9 := hwQ9.2.2.2.1.symm
            obtain rfl : R = RQ9 := hwQ9.2.2.2.2.1.symm
            have hkQ9 : ∀ q k, inm mdT q k = false → IQ9 q k = J q k := hkQ9
            obtain ⟨pt, ept⟩ : ∃ z : Int32, (IQ4 45 (a1).toNatClampNeg) = z := ⟨_, rfl⟩
            rw [ept]
            refine XW.sub (ls' := [(2, .int pt), (1, .int tk), (0, .ref 41)]) (List.forall_mem_cons.mpr ⟨List.mem_of_getElem? (i := 0) rfl, (List.forall_mem_cons.mpr ⟨List.mem_of_getElem? (i := 1) rfl, (List.forall_mem_cons.mpr ⟨List.mem_of_getElem? (i := 2) rfl, (fun _ h => absurd h List.not_mem_nil)⟩)⟩)⟩) ?_
            have eL : gLn K F i = gB (false, i + 1) (fun j => if K j = 260 ∧ (tk.toInt = 256 ∨ tk.toInt = 259) then gPx K F 9 0 (j + 1) else (true, j)) := by
              unfold gLn
              rw [if_neg (by omega), if_neg (by omega), if_pos (by omega), if_neg (by omega)]
              rw [htk]
            rw [eL]
            exact ln_tail hT Hf Ha hwQ9 hfQ9 hkQ9 hsQ9
          | false =>
            have gk8 : ¬ (¬ (tk1).toInt = 300) := icF (c := .ne) (a := (tk1).toInt) (b := 300) rfl (by decide) k8
            refine XW.fam (S' := (78, [(2, .int (IQ4 45 (a1).toNatClampNeg)), (1, .int tk), (0, .ref 41)], [], (sh, IQ4, LQ4, R))) (M := mr_100) rfl (show mcode 100 75 = some (75, .if_icmp .ne 10, 3, 85, 0, 0, _) from rfl) (Or.inr (Or.inl ⟨78, [], by simp [brn, k8], rfl⟩)) ?_
            refine XW.fam (S' := (79, [(2, .int (IQ4 45 (a1).toNatClampNeg)), (1, .int tk), (0, .ref 41)], [.ref 41], (sh, IQ4, LQ4, R))) (M := mr_100) rfl (show mcode 100 78 = some (78, .aload_n 0, 1, 0, 0, 0, _) from rfl) (Or.inl ⟨.ref 41, rfl, rfl⟩) ?_
            refine XW.call (d' := d) (mc' := 0) (ms' := 0) (av := [.ref 41]) (rest := []) (M := mr_100) (Ma := mr_102) rfl (show mcode 100 79 = some (79, .invokevirtual 50, 3, 102, 0, 0, _) from rfl) rfl (by decide) (by decide) ⟨rfl, 41, _, rfl, c41⟩ rfl rfl (show 0 ≤ 8 by decide) (tc_adv (d := d) (i := i + 1) hT hwQ4 hfQ4 hkQ4 hst1 (lt_N hN hle1 (by omega))) (by omega) (Nat.zero_le _) (Nat.zero_le _) (fun rQ10 wQ10 Q10 => ?_)
            obtain ⟨hrQ10, hfQ10, hwQ10, hkQ10, hsQ10⟩ := Q10
            subst hrQ10
            obtain ⟨shQ10, IQ10, LQ10, RQ10⟩ := wQ10
            obtain rfl : sh = shQ10 := hwQ10.2.2.2.1.symm
            obtain rfl : R = RQ10 := hwQ10.2.2.2.2.1.symm
            have hkQ10 : ∀ q k, inm mdT q k = false → IQ10 q k = J q k := hkQ10
            refine XW.fam (S' := (89, [(2, .int (IQ4 45 (a1).toNatClampNeg)), (1, .int tk), (0, .ref 41)], [], (sh, IQ10, LQ10, R))) (M := mr_100) rfl (show mcode 100 82 = some (82, .goto 7, 3, 89, 0, 0, _) from rfl) (Or.inr (Or.inl ⟨89, [], rfl, rfl⟩)) ?_
            obtain ⟨pt, ept⟩ : ∃ z : Int32, (IQ4 45 (a1).toNatClampNeg) = z := ⟨_, rfl⟩
            rw [ept]
            refine XW.sub (ls' := [(2, .int pt), (1, .int tk), (0, .ref 41)]) (List.forall_mem_cons.mpr ⟨List.mem_of_getElem? (i := 0) rfl, (List.forall_mem_cons.mpr ⟨List.mem_of_getElem? (i := 1) rfl, (List.forall_mem_cons.mpr ⟨List.mem_of_getElem? (i := 2) rfl, (fun _ h => absurd h List.not_mem_nil)⟩)⟩)⟩) ?_
            have eL : gLn K F i = gB (true, i + 1 + 1) (fun j => if K j = 260 ∧ (tk.toInt = 256 ∨ tk.toInt = 259) then gPx K F 9 0 (j + 1) else (true, j)) := by
              unfold gLn
              rw [if_neg (by omega), if_neg (by omega), if_pos (by omega), if_pos (by omega)]
              rw [htk]
            rw [eL]
            exact ln_tail hT Hf Ha hwQ10 hfQ10 hkQ10 hsQ10
        | false =>
          have gk7 : ¬ ((tk).toInt = 259) := icF (c := .eq) (a := (tk).toInt) (b := 259) rfl (by decide) k7
          refine XW.fam (S' := (60, [(2, .int (IQ4 45 (a1).toNatClampNeg)), (1, .int tk), (0, .ref 41)], [], (sh, IQ4, LQ4, R))) (M := mr_100) rfl (show mcode 100 57 = some (57, .if_icmp .eq 11, 3, 68, 0, 0, _) from rfl) (Or.inr (Or.inl ⟨60, [], by simp [brn, k7], rfl⟩)) ?_
          refine XW.fam (S' := (61, [(2, .int (IQ4 45 (a1).toNatClampNeg)), (1, .int tk), (0, .ref 41)], [.ref 41], (sh, IQ4, LQ4, R))) (M := mr_100) rfl (show mcode 100 60 = some (60, .aload_n 0, 1, 0, 0, 0, _) from rfl) (Or.inl ⟨.ref 41, rfl, rfl⟩) ?_
          refine XW.fam (S' := (62, [(2, .int (IQ4 45 (a1).toNatClampNeg)), (1, .int tk), (0, .ref 41)], [.int 0, .ref 41], (sh, IQ4, LQ4, R))) (M := mr_100) rfl (show mcode 100 61 = some (61, .iconst 0, 1, 0, 0, 0, _) from rfl) (Or.inl ⟨.int 0, rfl, rfl⟩) ?_
          refine XW.call (d' := (d + 2 + (6 * (8 - 0) + 3))) (mc' := 0) (ms' := 0) (av := [.ref 41, .int 0]) (rest := []) (M := mr_100) (Ma := mr_109) rfl (show mcode 100 62 = some (62, .invokevirtual 105, 3, 109, 0, 0, _) from rfl) rfl (by decide) (by decide) ⟨rfl, 41, _, rfl, c41⟩ rfl rfl (show 0 ≤ 8 by decide) (Hs 0 (i + 1) 0 rfl (by omega) hwQ4 hfQ4 hkQ4 hst1 (by omega)) (by omega) (Nat.zero_le _) (Nat.zero_le _) (fun rQ11 wQ11 Q11 => ?_)
          obtain ⟨hrQ11, hfQ11, hwQ11, hkQ11, hsQ11⟩ := Q11
          subst hrQ11
          obtain ⟨shQ11, IQ11, LQ11, RQ11⟩ := wQ11
          obtain rfl : sh = shQ11 := hwQ11.2.2.2.1.symm
          obtain rfl : R = RQ11 := hwQ11.2.2.2.2.1.symm
          have hkQ11 : ∀ q k, inm mdT q k = false → IQ11 q k = J q k := hkQ11
          refine XW.fam (S' := (89, [(2, .int (IQ4 45 (a1).toNatClampNeg)), (1, .int tk), (0, .ref 41)], [], (sh, IQ11, LQ11, R))) (M := mr_100) rfl (show mcode 100 65 = some (65, .goto 24, 3, 89, 0, 0, _) from rfl) (Or.inr (Or.inl ⟨89, [], rfl, rfl⟩)) ?_
          obtain ⟨pt, ept⟩ : ∃ z : Int32, (IQ4 45 (a1).toNatClampNeg) = z := ⟨_, rfl⟩
          rw [ept]
          refine XW.sub (ls' := [(2, .int pt), (1, .int tk), (0, .ref 41)]) (List.forall_mem_cons.mpr ⟨List.mem_of_getElem? (i := 0) rfl, (List.forall_mem_cons.mpr ⟨List.mem_of_getElem? (i := 1) rfl, (List.forall_mem_cons.mpr ⟨List.mem_of_getElem? (i := 2) rfl, (fun _ h => absurd h List.not_mem_nil)⟩)⟩)⟩) ?_
          have eL : gLn K F i = gB (gPx K F 4 0 (i + 1)) (fun j => if K j = 260 ∧ (tk.toInt = 256 ∨ tk.toInt = 259) then gPx K F 9 0 (j + 1) else (true, j)) := by
            unfold gLn
            rw [if_neg (by omega), if_neg (by omega), if_neg (by omega)]
            rw [htk]
          rw [eL]
          exact ln_tail hT Hf Ha hwQ11 hfQ11 hkQ11 hsQ11
      | false =>
        have gk6 : ¬ (¬ (tk).toInt = 258) := icF (c := .ne) (a := (tk).toInt) (b := 258) rfl (by decide) k6
        refine XW.fam (S' := (45, [(2, .int (IQ4 45 (a1).toNatClampNeg)), (1, .int tk), (0, .ref 41)], [], (sh, IQ4, LQ4, R))) (M := mr_100) rfl (show mcode 100 42 = some (42, .if_icmp .ne 11, 3, 53, 0, 0, _) from rfl) (Or.inr (Or.inl ⟨45, [], by simp [brn, k6], rfl⟩)) ?_
        refine XW.fam (S' := (46, [(2, .int (IQ4 45 (a1).toNatClampNeg)), (1, .int tk), (0, .ref 41)], [.ref 41], (sh, IQ4, LQ4, R))) (M := mr_100) rfl (show mcode 100 45 = some (45, .aload_n 0, 1, 0, 0, 0, _) from rfl) (Or.inl ⟨.ref 41, rfl, rfl⟩) ?_
        refine XW.fam (S' := (47, [(2, .int (IQ4 45 (a1).toNatClampNeg)), (1, .int tk), (0, .ref 41)], [.int 0, .ref 41], (sh, IQ4, LQ4, R))) (M := mr_100) rfl (show mcode 100 46 = some (46, .iconst 0, 1, 0, 0, 0, _) from rfl) (Or.inl ⟨.int 0, rfl, rfl⟩) ?_
        refine XW.call (d' := (d + 2 + (6 * (8 - 0) + 6))) (mc' := 0) (ms' := 0) (av := [.ref 41, .int 0]) (rest := []) (M := mr_100) (Ma := mr_103) rfl (show mcode 100 47 = some (47, .invokevirtual 101, 3, 103, 0, 0, _) from rfl) rfl (by decide) (by decide) ⟨rfl, 41, _, rfl, c41⟩ rfl rfl (show 0 ≤ 8 by decide) (Ha 0 (i + 1) 0 rfl (by omega) hwQ4 hfQ4 hkQ4 hst1 (by omega)) (by omega) (Nat.zero_le _) (Nat.zero_le _) (fun rQ12 wQ12 Q12 => ?_)
        obtain ⟨hrQ12, hfQ12, hwQ12, hkQ12, hsQ12⟩ := Q12
        subst hrQ12
        obtain ⟨shQ12, IQ12, LQ12, RQ12⟩ := wQ12
        obtain rfl : sh = shQ12 := hwQ12.2.2.2.1.symm
        obtain rfl : R = RQ12 := hwQ12.2.2.2.2.1.symm
        have hkQ12 : ∀ q k, inm mdT q k = false → IQ12 q k = J q k := hkQ12
        refine XW.fam (S' := (89, [(2, .int (IQ4 45 (a1).toNatClampNeg)), (1, .int tk), (0, .ref 41)], [], (sh, IQ12, LQ12, R))) (M := mr_100) rfl (show mcode 100 50 = some (50, .goto 39, 3, 89, 0, 0, _) from rfl) (Or.inr (Or.inl ⟨89, [], rfl, rfl⟩)) ?_
        obtain ⟨pt, ept⟩ : ∃ z : Int32, (IQ4 45 (a1).toNatClampNeg) = z := ⟨_, rfl⟩
        rw [ept]
        refine XW.sub (ls' := [(2, .int pt), (1, .int tk), (0, .ref 41)]) (List.forall_mem_cons.mpr ⟨List.mem_of_getElem? (i := 0) rfl, (List.forall_mem_cons.mpr ⟨List.mem_of_getElem? (i := 1) rfl, (List.forall_mem_cons.mpr ⟨List.mem_of_getElem? (i := 2) rfl, (fun _ h => absurd h List.not_mem_nil)⟩)⟩)⟩) ?_
        have eL : gLn K F i = gB (gPx K F 9 0 (i + 1)) (fun j => if K j = 260 ∧ (tk.toInt = 256 ∨ tk.toInt = 259) then gPx K F 9 0 (j + 1) else (true, j)) := by
          unfold gLn
          rw [if_neg (by omega), if_pos (by omega)]
          rw [htk]
        rw [eL]
        exact ln_tail hT Hf Ha hwQ12 hfQ12 hkQ12 hsQ12
    | false =>
      have gk3 : ¬ ((tk).toInt ≤ 259) := icF (c := .le) (a := (tk).toInt) (b := 259) rfl (by decide) k3
      refine XW.fam (S' := (19, [(1, .int tk), (0, .ref 41)], [], (sh, I, L, R))) (M := mr_100) rfl (show mcode 100 16 = some (16, .if_icmp .le 8, 3, 24, 0, 0, _) from rfl) (Or.inr (Or.inl ⟨19, [], by simp [brn, k3], rfl⟩)) ?_
      refine XW.fam (S' := (20, [(1, .int tk), (0, .ref 41)], [.ref 41], (sh, I, L, R))) (M := mr_100) rfl (show mcode 100 19 = some (19, .aload_n 0, 1, 0, 0, 0, _) from rfl) (Or.inl ⟨.ref 41, rfl, rfl⟩) ?_
      refine XW.call (d' := d) (mc' := 0) (ms' := 0) (av := [.ref 41]) (rest := []) (M := mr_100) (Ma := mr_101) rfl (show mcode 100 20 = some (20, .invokevirtual 53, 3, 101, 0, 0, _) from rfl) rfl (by decide) (by decide) ⟨rfl, 41, _, rfl, c41⟩ rfl rfl (show 0 ≤ 8 by decide) (tc_fail (d := d) hT hw hf hk hst) (by omega) (Nat.zero_le _) (Nat.zero_le _) (fun rQ13 wQ13 Q13 => ?_)
      obtain ⟨hrQ13, hfQ13, hwQ13, hkQ13, hsQ13⟩ := Q13
      subst hrQ13
      obtain ⟨shQ13, IQ13, LQ13, RQ13⟩ := wQ13
      obtain rfl : sh = shQ13 := hwQ13.2.2.2.1.symm
      obtain rfl : R = RQ13 := hwQ13.2.2.2.2.1.symm
      have hkQ13 : ∀ q k, inm mdT q k = false → IQ13 q k = J q k := hkQ13
      refine XW.ret (r := none) ⟨rfl, by decide +kernel⟩ ?_
      unfold gLn
      rw [if_pos (by omega)]
      exact ⟨rfl, hfQ13, hwQ13, hkQ13, hsQ13⟩
