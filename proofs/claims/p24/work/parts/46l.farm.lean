/-! ===== far of the model: all ways anew (wip/genfar.py) ===== -/
def rwT (I : Nat → Nat → Int32) (q a b : Nat) : Int := (I q (20 * a + b)).toInt
def iniF (J : Nat → Nat → Int32) (a b : Nat) : Int := if a = b then 0 else if rwT J 98 a b = 0 then 100000 else rwT J 98 a b
def stpF (W : Nat → Nat → Int) (k a b : Nat) : Int := if W a k + W k b < W a b then W a k + W k b else W a b
theorem rwT_eq {I : Nat → Nat → Int32} {q k a b : Nat} {x : Int32} (e : k = 20 * a + b) : rwT (up2 I q k x) q a b = x.toInt := by
  unfold rwT
  rw [← e, up2_eq]
theorem rwT_ne {I : Nat → Nat → Int32} {q k a b a' b' : Nat} {x : Int32} (e : k = 20 * a + b) (hb : b < 20) (hb' : b' < 20) (hne : ¬ (a' = a ∧ b' = b)) : rwT (up2 I q k x) q a' b' = rwT I q a' b' := by
  unfold rwT
  rw [up2_ne (fun z => hne (ix_inj hb' hb (z.2.trans e)))]
theorem stp_col {W : Nat → Nat → Int} {k a : Nat} (h : W k k = 0) : stpF W k a k = W a k := by
  unfold stpF
  rw [h]
  exact if_neg (by omega)
theorem stp_row {W : Nat → Nat → Int} {k b : Nat} (h : W k k = 0) : stpF W k k b = W k b := by
  unfold stpF
  rw [h]
  exact if_neg (by omega)
theorem ff_in1 {d : Nat} {sh : List mE} {J : Nat → Nat → Int32} {L : Nat → Nat → Int64} {R : Nat → Nat → Option Nat} {m : Int32} {ta : Int32} (hm0 : 0 ≤ m.toInt) (hm1 : m.toInt ≤ 20) (em : J 94 2 = m) (hta : 0 ≤ ta.toInt ∧ ta.toInt < m.toInt) {Q : Option Value → mW → Prop} : ∀ (z : Nat) {I : Nat → Nat → Int32} (tb : Int32), 0 ≤ tb.toInt → tb.toInt ≤ m.toInt → m.toInt - tb.toInt < z → wOK (mkT vV []) (wE sh R) (sh, I, L, R) → fresh (sh, I, L, R) → (∀ q k, ¬ q = 102 → I q k = J q k) → (∀ a b : Nat, a < m.toInt.toNat → b < m.toInt.toNat → (a < ta.toInt.toNat ∨ (a = ta.toInt.toNat ∧ b < tb.toInt.toNat)) → rwT I 102 a b = iniF J a b) → (∀ {I : Nat → Nat → Int32}, wOK (mkT vV []) (wE sh R) (sh, I, L, R) → fresh (sh, I, L, R) → (∀ q k, ¬ q = 102 → I q k = J q k) → (∀ a b : Nat, a < m.toInt.toNat → b < m.toInt.toNat → a ≤ ta.toInt.toNat → rwT I 102 a b = iniF J a b) → ∀ tb : Int32, XW 237 mr_237 none (d + 1) 0 0 Q (77, [(2, .int tb), (1, .int ta), (0, .ref 94)], [], (sh, I, L, R))) → XW 237 mr_237 none (d + 1) 0 0 Q (12, [(2, .int tb), (1, .int ta), (0, .ref 94)], [], (sh, I, L, R)) := by
  have z0 : (0 : Int32).toInt = 0 := rfl
  have z20 : (20 : Int32).toInt = 20 := rfl
  have z100000 : (100000 : Int32).toInt = 100000 := rfl
  intro z
  induction z with
  | zero =>
    intro I tb h1 h2 hz hw hf hkp hin K
    have c94 : sh[94]? = some (.inr 12) := hw.1 94 _ rfl
    have c98 : sh[98]? = some (.inl (.int, 400)) := hw.1 98 _ rfl
    have c102 : sh[102]? = some (.inl (.int, 400)) := hw.1 102 _ rfl
    have r94_6 : R 94 6 = some 98 := hw.2.1 94 6 _ rfl
    have r94_10 : R 94 10 = some 102 := hw.2.1 94 10 _ rfl
    have vm : I 94 2 = m := (hkp 94 2 (by decide)).trans em
    refine XW.fam (S' := (13, [(2, .int tb), (1, .int ta), (0, .ref 94)], [.int tb], (sh, I, L, R))) (M := mr_237) rfl (show mcode 237 12 = some (12, .iload_n 2, 1, 0, 0, 0, _) from rfl) (Or.inl ⟨.int tb, rfl, rfl⟩) ?_
    refine XW.fam (S' := (14, [(2, .int tb), (1, .int ta), (0, .ref 94)], [.ref 94, .int tb], (sh, I, L, R))) (M := mr_237) rfl (show mcode 237 13 = some (13, .aload_n 0, 1, 0, 0, 0, _) from rfl) (Or.inl ⟨.ref 94, rfl, rfl⟩) ?_
    refine XW.fam (S' := (17, [(2, .int tb), (1, .int ta), (0, .ref 94)], [.int (I 94 2), .int tb], (sh, I, L, R))) (M := mr_237) rfl (show mcode 237 14 = some (14, .getfield 258, 3, 12, 2, 0, _) from rfl) (Or.inr (Or.inr (Or.inr (Or.inr (Or.inr (Or.inr (Or.inr (Or.inl ⟨_, _, rfl, fl_ldI c94 (by decide) (by decide), rfl⟩)))))))) ?_
    rw [vm]
    have k1 : bcmp .ge tb m = true := bcT (c := .ge) (a := (tb).toInt) (b := (m).toInt) rfl rfl (by show (m).toInt ≤ (tb).toInt; omega)
    refine XW.fam (S' := (77, [(2, .int tb), (1, .int ta), (0, .ref 94)], [], (sh, I, L, R))) (M := mr_237) rfl (show mcode 237 17 = some (17, .if_icmp .ge 60, 3, 77, 0, 0, _) from rfl) (Or.inr (Or.inl ⟨77, [], by simp [brn, k1], rfl⟩)) ?_
    exact K hw hf hkp (fun a b ha hb hab => hin a b ha hb (by omega)) tb
  | succ z ih =>
    intro I tb h1 h2 hz hw hf hkp hin K
    have c94 : sh[94]? = some (.inr 12) := hw.1 94 _ rfl
    have c98 : sh[98]? = some (.inl (.int, 400)) := hw.1 98 _ rfl
    have c102 : sh[102]? = some (.inl (.int, 400)) := hw.1 102 _ rfl
    have r94_6 : R 94 6 = some 98 := hw.2.1 94 6 _ rfl
    have r94_10 : R 94 10 = some 102 := hw.2.1 94 10 _ rfl
    have vm : I 94 2 = m := (hkp 94 2 (by decide)).trans em
    refine XW.fam (S' := (13, [(2, .int tb), (1, .int ta), (0, .ref 94)], [.int tb], (sh, I, L, R))) (M := mr_237) rfl (show mcode 237 12 = some (12, .iload_n 2, 1, 0, 0, 0, _) from rfl) (Or.inl ⟨.int tb, rfl, rfl⟩) ?_
    refine XW.fam (S' := (14, [(2, .int tb), (1, .int ta), (0, .ref 94)], [.ref 94, .int tb], (sh, I, L, R))) (M := mr_237) rfl (show mcode 237 13 = some (13, .aload_n 0, 1, 0, 0, 0, _) from rfl) (Or.inl ⟨.ref 94, rfl, rfl⟩) ?_
    refine XW.fam (S' := (17, [(2, .int tb), (1, .int ta), (0, .ref 94)], [.int (I 94 2), .int tb], (sh, I, L, R))) (M := mr_237) rfl (show mcode 237 14 = some (14, .getfield 258, 3, 12, 2, 0, _) from rfl) (Or.inr (Or.inr (Or.inr (Or.inr (Or.inr (Or.inr (Or.inr (Or.inl ⟨_, _, rfl, fl_ldI c94 (by decide) (by decide), rfl⟩)))))))) ?_
    rw [vm]
    cases k1 : bcmp .ge tb m with
    | true =>
      have gk1 : (m).toInt ≤ (tb).toInt := icT (c := .ge) (a := (tb).toInt) (b := (m).toInt) rfl rfl k1
      refine XW.fam (S' := (77, [(2, .int tb), (1, .int ta), (0, .ref 94)], [], (sh, I, L, R))) (M := mr_237) rfl (show mcode 237 17 = some (17, .if_icmp .ge 60, 3, 77, 0, 0, _) from rfl) (Or.inr (Or.inl ⟨77, [], by simp [brn, k1], rfl⟩)) ?_
      exact K hw hf hkp (fun a b ha hb hab => hin a b ha hb (by omega)) tb
    | false =>
      have gk1 : ¬ ((m).toInt ≤ (tb).toInt) := icF (c := .ge) (a := (tb).toInt) (b := (m).toInt) rfl rfl k1
      refine XW.fam (S' := (20, [(2, .int tb), (1, .int ta), (0, .ref 94)], [], (sh, I, L, R))) (M := mr_237) rfl (show mcode 237 17 = some (17, .if_icmp .ge 60, 3, 77, 0, 0, _) from rfl) (Or.inr (Or.inl ⟨20, [], by simp [brn, k1], rfl⟩)) ?_
      refine XW.fam (S' := (21, [(2, .int tb), (1, .int ta), (0, .ref 94)], [.ref 94], (sh, I, L, R))) (M := mr_237) rfl (show mcode 237 20 = some (20, .aload_n 0, 1, 0, 0, 0, _) from rfl) (Or.inl ⟨.ref 94, rfl, rfl⟩) ?_
      refine XW.fam (S' := (24, [(2, .int tb), (1, .int ta), (0, .ref 94)], [.ref 102], (sh, I, L, R))) (M := mr_237) rfl (show mcode 237 21 = some (21, .getfield 32, 3, 12, 10, 0, _) from rfl) (Or.inr (Or.inr (Or.inr (Or.inr (Or.inr (Or.inr (Or.inr (Or.inl ⟨_, _, rfl, fl_ld c94 r94_10 (by decide) (by decide), rfl⟩)))))))) ?_
      refine XW.fam (S' := (26, [(2, .int tb), (1, .int ta), (0, .ref 94)], [.int 20, .ref 102], (sh, I, L, R))) (M := mr_237) rfl (show mcode 237 24 = some (24, .bipush 20, 2, 0, 0, 0, _) from rfl) (Or.inl ⟨.int 20, rfl, rfl⟩) ?_
      refine XW.fam (S' := (27, [(2, .int tb), (1, .int ta), (0, .ref 94)], [.int ta, .int 20, .ref 102], (sh, I, L, R))) (M := mr_237) rfl (show mcode 237 26 = some (26, .iload_n 1, 1, 0, 0, 0, _) from rfl) (Or.inl ⟨.int ta, rfl, rfl⟩) ?_
      refine XW.fam (S' := (28, [(2, .int tb), (1, .int ta), (0, .ref 94)], [.int (20 * ta), .ref 102], (sh, I, L, R))) (M := mr_237) rfl (show mcode 237 27 = some (27, .imul, 1, 0, 0, 0, _) from rfl) (Or.inr (Or.inr (Or.inr (Or.inr (Or.inr (Or.inl ⟨_, rfl, rfl⟩)))))) ?_
      refine XW.fam (S' := (29, [(2, .int tb), (1, .int ta), (0, .ref 94)], [.int tb, .int (20 * ta), .ref 102], (sh, I, L, R))) (M := mr_237) rfl (show mcode 237 28 = some (28, .iload_n 2, 1, 0, 0, 0, _) from rfl) (Or.inl ⟨.int tb, rfl, rfl⟩) ?_
      refine XW.fam (S' := (30, [(2, .int tb), (1, .int ta), (0, .ref 94)], [.int ((20 * ta) + tb), .ref 102], (sh, I, L, R))) (M := mr_237) rfl (show mcode 237 29 = some (29, .iadd, 1, 0, 0, 0, _) from rfl) (Or.inr (Or.inr (Or.inr (Or.inr (Or.inr (Or.inl ⟨_, rfl, rfl⟩)))))) ?_
      refine XW.fam (S' := (31, [(2, .int tb), (1, .int ta), (0, .ref 94)], [.int ta, .int ((20 * ta) + tb), .ref 102], (sh, I, L, R))) (M := mr_237) rfl (show mcode 237 30 = some (30, .iload_n 1, 1, 0, 0, 0, _) from rfl) (Or.inl ⟨.int ta, rfl, rfl⟩) ?_
      refine XW.fam (S' := (32, [(2, .int tb), (1, .int ta), (0, .ref 94)], [.int tb, .int ta, .int ((20 * ta) + tb), .ref 102], (sh, I, L, R))) (M := mr_237) rfl (show mcode 237 31 = some (31, .iload_n 2, 1, 0, 0, 0, _) from rfl) (Or.inl ⟨.int tb, rfl, rfl⟩) ?_
      cases k2 : bcmp .ne ta tb with
      | true =>
        have gk2 : ¬ (ta).toInt = (tb).toInt := icT (c := .ne) (a := (ta).toInt) (b := (tb).toInt) rfl rfl k2
        refine XW.fam (S' := (39, [(2, .int tb), (1, .int ta), (0, .ref 94)], [.int ((20 * ta) + tb), .ref 102], (sh, I, L, R))) (M := mr_237) rfl (show mcode 237 32 = some (32, .if_icmp .ne 7, 3, 39, 0, 0, _) from rfl) (Or.inr (Or.inl ⟨39, [.int ((20 * ta) + tb), .ref 102], by simp [brn, k2], rfl⟩)) ?_
        refine XW.fam (S' := (40, [(2, .int tb), (1, .int ta), (0, .ref 94)], [.ref 94, .int ((20 * ta) + tb), .ref 102], (sh, I, L, R))) (M := mr_237) rfl (show mcode 237 39 = some (39, .aload_n 0, 1, 0, 0, 0, _) from rfl) (Or.inl ⟨.ref 94, rfl, rfl⟩) ?_
        refine XW.fam (S' := (43, [(2, .int tb), (1, .int ta), (0, .ref 94)], [.ref 98, .int ((20 * ta) + tb), .ref 102], (sh, I, L, R))) (M := mr_237) rfl (show mcode 237 40 = some (40, .getfield 20, 3, 12, 6, 0, _) from rfl) (Or.inr (Or.inr (Or.inr (Or.inr (Or.inr (Or.inr (Or.inr (Or.inl ⟨_, _, rfl, fl_ld c94 r94_6 (by decide) (by decide), rfl⟩)))))))) ?_
        refine XW.fam (S' := (45, [(2, .int tb), (1, .int ta), (0, .ref 94)], [.int 20, .ref 98, .int ((20 * ta) + tb), .ref 102], (sh, I, L, R))) (M := mr_237) rfl (show mcode 237 43 = some (43, .bipush 20, 2, 0, 0, 0, _) from rfl) (Or.inl ⟨.int 20, rfl, rfl⟩) ?_
        refine XW.fam (S' := (46, [(2, .int tb), (1, .int ta), (0, .ref 94)], [.int ta, .int 20, .ref 98, .int ((20 * ta) + tb), .ref 102], (sh, I, L, R))) (M := mr_237) rfl (show mcode 237 45 = some (45, .iload_n 1, 1, 0, 0, 0, _) from rfl) (Or.inl ⟨.int ta, rfl, rfl⟩) ?_
        refine XW.fam (S' := (47, [(2, .int tb), (1, .int ta), (0, .ref 94)], [.int (20 * ta), .ref 98, .int ((20 * ta) + tb), .ref 102], (sh, I, L, R))) (M := mr_237) rfl (show mcode 237 46 = some (46, .imul, 1, 0, 0, 0, _) from rfl) (Or.inr (Or.inr (Or.inr (Or.inr (Or.inr (Or.inl ⟨_, rfl, rfl⟩)))))) ?_
        refine XW.fam (S' := (48, [(2, .int tb), (1, .int ta), (0, .ref 94)], [.int tb, .int (20 * ta), .ref 98, .int ((20 * ta) + tb), .ref 102], (sh, I, L, R))) (M := mr_237) rfl (show mcode 237 47 = some (47, .iload_n 2, 1, 0, 0, 0, _) from rfl) (Or.inl ⟨.int tb, rfl, rfl⟩) ?_
        refine XW.fam (S' := (49, [(2, .int tb), (1, .int ta), (0, .ref 94)], [.int ((20 * ta) + tb), .ref 98, .int ((20 * ta) + tb), .ref 102], (sh, I, L, R))) (M := mr_237) rfl (show mcode 237 48 = some (48, .iadd, 1, 0, 0, 0, _) from rfl) (Or.inr (Or.inr (Or.inr (Or.inr (Or.inr (Or.inl ⟨_, rfl, rfl⟩)))))) ?_
        have xhin3 : (((20 * ta) + tb)).toInt = 20 * ta.toInt + tb.toInt := ix20b (by omega) (by omega)
        have hin3 : inR ((20 * ta) + tb) 400 = true := inR_of (by omega) (by omega)
        refine XW.fam (S' := (50, [(2, .int tb), (1, .int ta), (0, .ref 94)], [.int (I 98 (((20 * ta) + tb)).toNatClampNeg), .int ((20 * ta) + tb), .ref 102], (sh, I, L, R))) (M := mr_237) rfl (show mcode 237 49 = some (49, .iaload, 1, 0, 0, 0, _) from rfl) (Or.inr (Or.inr (Or.inl ⟨_, lda_i c98 hin3, rfl⟩))) ?_
        have hr98 : 0 ≤ ((I 98 (((20 * ta) + tb)).toNatClampNeg)).toInt ∧ ((I 98 (((20 * ta) + tb)).toNatClampNeg)).toInt ≤ 9 := hw.2.2.1 98 _
        cases k4 : bcmp .ne (I 98 (((20 * ta) + tb)).toNatClampNeg) 0 with
        | true =>
          have gk4 : ¬ ((I 98 (((20 * ta) + tb)).toNatClampNeg)).toInt = 0 := icT (c := .ne) (a := ((I 98 (((20 * ta) + tb)).toNatClampNeg)).toInt) (b := 0) rfl (by decide) k4
          refine XW.fam (S' := (59, [(2, .int tb), (1, .int ta), (0, .ref 94)], [.int ((20 * ta) + tb), .ref 102], (sh, I, L, R))) (M := mr_237) rfl (show mcode 237 50 = some (50, .ifCond .ne 9, 3, 59, 0, 0, _) from rfl) (Or.inr (Or.inl ⟨59, [.int ((20 * ta) + tb), .ref 102], by simp [brn, k4], rfl⟩)) ?_
          refine XW.fam (S' := (60, [(2, .int tb), (1, .int ta), (0, .ref 94)], [.ref 94, .int ((20 * ta) + tb), .ref 102], (sh, I, L, R))) (M := mr_237) rfl (show mcode 237 59 = some (59, .aload_n 0, 1, 0, 0, 0, _) from rfl) (Or.inl ⟨.ref 94, rfl, rfl⟩) ?_
          refine XW.fam (S' := (63, [(2, .int tb), (1, .int ta), (0, .ref 94)], [.ref 98, .int ((20 * ta) + tb), .ref 102], (sh, I, L, R))) (M := mr_237) rfl (show mcode 237 60 = some (60, .getfield 20, 3, 12, 6, 0, _) from rfl) (Or.inr (Or.inr (Or.inr (Or.inr (Or.inr (Or.inr (Or.inr (Or.inl ⟨_, _, rfl, fl_ld c94 r94_6 (by decide) (by decide), rfl⟩)))))))) ?_
          refine XW.fam (S' := (65, [(2, .int tb), (1, .int ta), (0, .ref 94)], [.int 20, .ref 98, .int ((20 * ta) + tb), .ref 102], (sh, I, L, R))) (M := mr_237) rfl (show mcode 237 63 = some (63, .bipush 20, 2, 0, 0, 0, _) from rfl) (Or.inl ⟨.int 20, rfl, rfl⟩) ?_
          refine XW.fam (S' := (66, [(2, .int tb), (1, .int ta), (0, .ref 94)], [.int ta, .int 20, .ref 98, .int ((20 * ta) + tb), .ref 102], (sh, I, L, R))) (M := mr_237) rfl (show mcode 237 65 = some (65, .iload_n 1, 1, 0, 0, 0, _) from rfl) (Or.inl ⟨.int ta, rfl, rfl⟩) ?_
          refine XW.fam (S' := (67, [(2, .int tb), (1, .int ta), (0, .ref 94)], [.int (20 * ta), .ref 98, .int ((20 * ta) + tb), .ref 102], (sh, I, L, R))) (M := mr_237) rfl (show mcode 237 66 = some (66, .imul, 1, 0, 0, 0, _) from rfl) (Or.inr (Or.inr (Or.inr (Or.inr (Or.inr (Or.inl ⟨_, rfl, rfl⟩)))))) ?_
          refine XW.fam (S' := (68, [(2, .int tb), (1, .int ta), (0, .ref 94)], [.int tb, .int (20 * ta), .ref 98, .int ((20 * ta) + tb), .ref 102], (sh, I, L, R))) (M := mr_237) rfl (show mcode 237 67 = some (67, .iload_n 2, 1, 0, 0, 0, _) from rfl) (Or.inl ⟨.int tb, rfl, rfl⟩) ?_
          refine XW.fam (S' := (69, [(2, .int tb), (1, .int ta), (0, .ref 94)], [.int ((20 * ta) + tb), .ref 98, .int ((20 * ta) + tb), .ref 102], (sh, I, L, R))) (M := mr_237) rfl (show mcode 237 68 = some (68, .iadd, 1, 0, 0, 0, _) from rfl) (Or.inr (Or.inr (Or.inr (Or.inr (Or.inr (Or.inl ⟨_, rfl, rfl⟩)))))) ?_
          have xhin5 : (((20 * ta) + tb)).toInt = 20 * ta.toInt + tb.toInt := ix20b (by omega) (by omega)
          have hin5 : inR ((20 * ta) + tb) 400 = true := inR_of (by omega) (by omega)
          refine XW.fam (S' := (70, [(2, .int tb), (1, .int ta), (0, .ref 94)], [.int (I 98 (((20 * ta) + tb)).toNatClampNeg), .int ((20 * ta) + tb), .ref 102], (sh, I, L, R))) (M := mr_237) rfl (show mcode 237 69 = some (69, .iaload, 1, 0, 0, 0, _) from rfl) (Or.inr (Or.inr (Or.inl ⟨_, lda_i c98 hin5, rfl⟩))) ?_
          have hr98 : 0 ≤ ((I 98 (((20 * ta) + tb)).toNatClampNeg)).toInt ∧ ((I 98 (((20 * ta) + tb)).toNatClampNeg)).toInt ≤ 9 := hw.2.2.1 98 _
          have xhin6 : (((20 * ta) + tb)).toInt = 20 * ta.toInt + tb.toInt := ix20b (by omega) (by omega)
          have hin6 : inR ((20 * ta) + tb) 400 = true := inR_of (by omega) (by omega)
          obtain ⟨I7, eI7⟩ : ∃ X, X = up2 I 102 (((20 * ta) + tb)).toNatClampNeg (I 98 (((20 * ta) + tb)).toNatClampNeg) := ⟨_, rfl⟩
          refine XW.fam (S' := (71, [(2, .int tb), (1, .int ta), (0, .ref 94)], [], (sh, I7, L, R))) (M := mr_237) rfl (show mcode 237 70 = some (70, .iastore, 1, 0, 0, 0, _) from rfl) (Or.inr (Or.inr (Or.inr (Or.inl ⟨_, _, by rw [eI7]; exact sta_i c102 hin6, rfl⟩)))) ?_
          have hwI7 : wOK (mkT vV []) (wE sh R) (sh, I7, L, R) := by rw [eI7]; exact wOK_u2 (q := 102) (k := (((20 * ta) + tb)).toNatClampNeg) (x := (I 98 (((20 * ta) + tb)).toNatClampNeg)) wE_put hw rfl (by show ((-2147483648) : Int) ≤ _; omega) (by show _ ≤ (1999999991 : Int); omega)
          have hfI7 : fresh (sh, I7, L, R) := by rw [eI7]; exact fresh_I hf c102
          have v8 : I7 94 2 = m := by rw [eI7, up2_ne (fun e => by cases e.1)]; exact vm
          have v9 : I7 102 (((20 * ta) + tb)).toNatClampNeg = (I 98 (((20 * ta) + tb)).toNatClampNeg) := by rw [eI7]; exact up2_eq
          refine XW.fam (S' := (74, [(2, .int (tb + Int32.ofInt 1)), (1, .int ta), (0, .ref 94)], [], (sh, I7, L, R))) (M := mr_237) rfl (show mcode 237 71 = some (71, .iinc 2 1, 3, 0, 0, 0, _) from rfl) (Or.inr (Or.inr (Or.inr (Or.inr (Or.inr (Or.inr (Or.inr (Or.inr (Or.inr ⟨2, 1, tb, rfl, rfl, by decide, rfl⟩))))))))) ?_
          refine XW.fam (S' := (12, [(2, .int (tb + Int32.ofInt 1)), (1, .int ta), (0, .ref 94)], [], (sh, I7, L, R))) (M := mr_237) rfl (show mcode 237 74 = some (74, .goto (-62), 3, 12, 0, 0, _) from rfl) (Or.inr (Or.inl ⟨12, [], rfl, rfl⟩)) ?_
          have eo := incO (m := tb) (by omega) (by omega)
          have ek : (((20 * ta) + tb)).toNatClampNeg = 20 * ta.toInt.toNat + tb.toInt.toNat := by
            show ((((20 * ta) + tb))).toInt.toNat = _
            have xx := ix20b (a := ta) (b := tb) (by omega) (by omega)
            omega
          refine XW.sub (ls' := [(2, .int (tb + Int32.ofInt 1)), (1, .int ta), (0, .ref 94)]) (List.forall_mem_cons.mpr ⟨List.mem_of_getElem? (i := 0) rfl, (List.forall_mem_cons.mpr ⟨List.mem_of_getElem? (i := 1) rfl, (List.forall_mem_cons.mpr ⟨List.mem_of_getElem? (i := 2) rfl, (fun _ h => absurd h List.not_mem_nil)⟩)⟩)⟩) ?_
          refine ih (tb + Int32.ofInt 1) (by omega) (by omega) (by omega) hwI7 hfI7 (fun q k hq => by rw [eI7, up2_ne (fun e => hq e.1)]; exact hkp q k hq) (fun a b ha hb hab => ?_) K
          by_cases ce : a = ta.toInt.toNat ∧ b = tb.toInt.toNat
          · rw [eI7, ce.1, ce.2, rwT_eq ek]
            unfold iniF
            rw [if_neg (by omega)]
            have e98 : rwT J 98 ta.toInt.toNat tb.toInt.toNat = (I 98 (((20 * ta) + tb)).toNatClampNeg).toInt := by unfold rwT; rw [← ek, hkp 98 _ (by decide)]
            rw [if_neg (by rw [e98]; omega), e98]
          · rw [eI7, rwT_ne ek (by omega) (by omega) ce]
            exact hin a b ha hb (by omega)
        | false =>
          have gk4 : ¬ (¬ ((I 98 (((20 * ta) + tb)).toNatClampNeg)).toInt = 0) := icF (c := .ne) (a := ((I 98 (((20 * ta) + tb)).toNatClampNeg)).toInt) (b := 0) rfl (by decide) k4
          refine XW.fam (S' := (53, [(2, .int tb), (1, .int ta), (0, .ref 94)], [.int ((20 * ta) + tb), .ref 102], (sh, I, L, R))) (M := mr_237) rfl (show mcode 237 50 = some (50, .ifCond .ne 9, 3, 59, 0, 0, _) from rfl) (Or.inr (Or.inl ⟨53, [.int ((20 * ta) + tb), .ref 102], by simp [brn, k4], rfl⟩)) ?_
          refine XW.fam (S' := (56, [(2, .int tb), (1, .int ta), (0, .ref 94)], [.int 100000, .int ((20 * ta) + tb), .ref 102], (sh, I, L, R))) (M := mr_237) rfl (show mcode 237 53 = some (53, .ldc_w 261, 3, 0, 0, 100000, _) from rfl) (Or.inr (Or.inr (Or.inr (Or.inr (Or.inl ⟨.int 100000, rfl, rfl⟩))))) ?_
          refine XW.fam (S' := (70, [(2, .int tb), (1, .int ta), (0, .ref 94)], [.int 100000, .int ((20 * ta) + tb), .ref 102], (sh, I, L, R))) (M := mr_237) rfl (show mcode 237 56 = some (56, .goto 14, 3, 70, 0, 0, _) from rfl) (Or.inr (Or.inl ⟨70, [.int 100000, .int ((20 * ta) + tb), .ref 102], rfl, rfl⟩)) ?_
          have xhin10 : (((20 * ta) + tb)).toInt = 20 * ta.toInt + tb.toInt := ix20b (by omega) (by omega)
          have hin10 : inR ((20 * ta) + tb) 400 = true := inR_of (by omega) (by omega)
          obtain ⟨I11, eI11⟩ : ∃ X, X = up2 I 102 (((20 * ta) + tb)).toNatClampNeg 100000 := ⟨_, rfl⟩
          refine XW.fam (S' := (71, [(2, .int tb), (1, .int ta), (0, .ref 94)], [], (sh, I11, L, R))) (M := mr_237) rfl (show mcode 237 70 = some (70, .iastore, 1, 0, 0, 0, _) from rfl) (Or.inr (Or.inr (Or.inr (Or.inl ⟨_, _, by rw [eI11]; exact sta_i c102 hin10, rfl⟩)))) ?_
          have hwI11 : wOK (mkT vV []) (wE sh R) (sh, I11, L, R) := by rw [eI11]; exact wOK_u2 (q := 102) (k := (((20 * ta) + tb)).toNatClampNeg) (x := 100000) wE_put hw rfl (by show ((-2147483648) : Int) ≤ _; omega) (by show _ ≤ (1999999991 : Int); omega)
          have hfI11 : fresh (sh, I11, L, R) := by rw [eI11]; exact fresh_I hf c102
          have v12 : I11 94 2 = m := by rw [eI11, up2_ne (fun e => by cases e.1)]; exact vm
          have v13 : I11 102 (((20 * ta) + tb)).toNatClampNeg = 100000 := by rw [eI11]; exact up2_eq
          refine XW.fam (S' := (74, [(2, .int (tb + Int32.ofInt 1)), (1, .int ta), (0, .ref 94)], [], (sh, I11, L, R))) (M := mr_237) rfl (show mcode 237 71 = some (71, .iinc 2 1, 3, 0, 0, 0, _) from rfl) (Or.inr (Or.inr (Or.inr (Or.inr (Or.inr (Or.inr (Or.inr (Or.inr (Or.inr ⟨2, 1, tb, rfl, rfl, by decide, rfl⟩))))))))) ?_
          refine XW.fam (S' := (12, [(2, .int (tb + Int32.ofInt 1)), (1, .int ta), (0, .ref 94)], [], (sh, I11, L, R))) (M := mr_237) rfl (show mcode 237 74 = some (74, .goto (-62), 3, 12, 0, 0, _) from rfl) (Or.inr (Or.inl ⟨12, [], rfl, rfl⟩)) ?_
          have eo := incO (m := tb) (by omega) (by omega)
          have ek : (((20 * ta) + tb)).toNatClampNeg = 20 * ta.toInt.toNat + tb.toInt.toNat := by
            show ((((20 * ta) + tb))).toInt.toNat = _
            have xx := ix20b (a := ta) (b := tb) (by omega) (by omega)
            omega
          refine XW.sub (ls' := [(2, .int (tb + Int32.ofInt 1)), (1, .int ta), (0, .ref 94)]) (List.forall_mem_cons.mpr ⟨List.mem_of_getElem? (i := 0) rfl, (List.forall_mem_cons.mpr ⟨List.mem_of_getElem? (i := 1) rfl, (List.forall_mem_cons.mpr ⟨List.mem_of_getElem? (i := 2) rfl, (fun _ h => absurd h List.not_mem_nil)⟩)⟩)⟩) ?_
          refine ih (tb + Int32.ofInt 1) (by omega) (by omega) (by omega) hwI11 hfI11 (fun q k hq => by rw [eI11, up2_ne (fun e => hq e.1)]; exact hkp q k hq) (fun a b ha hb hab => ?_) K
          by_cases ce : a = ta.toInt.toNat ∧ b = tb.toInt.toNat
          · rw [eI11, ce.1, ce.2, rwT_eq ek]
            unfold iniF
            rw [if_neg (by omega)]
            have e98 : rwT J 98 ta.toInt.toNat tb.toInt.toNat = (I 98 (((20 * ta) + tb)).toNatClampNeg).toInt := by unfold rwT; rw [← ek, hkp 98 _ (by decide)]
            rw [if_pos (by rw [e98]; omega)]
            rfl
          · rw [eI11, rwT_ne ek (by omega) (by omega) ce]
            exact hin a b ha hb (by omega)
      | false =>
        have gk2 : ¬ (¬ (ta).toInt = (tb).toInt) := icF (c := .ne) (a := (ta).toInt) (b := (tb).toInt) rfl rfl k2
        refine XW.fam (S' := (35, [(2, .int tb), (1, .int ta), (0, .ref 94)], [.int ((20 * ta) + tb), .ref 102], (sh, I, L, R))) (M := mr_237) rfl (show mcode 237 32 = some (32, .if_icmp .ne 7, 3, 39, 0, 0, _) from rfl) (Or.inr (Or.inl ⟨35, [.int ((20 * ta) + tb), .ref 102], by simp [brn, k2], rfl⟩)) ?_
        refine XW.fam (S' := (36, [(2, .int tb), (1, .int ta), (0, .ref 94)], [.int 0, .int ((20 * ta) + tb), .ref 102], (sh, I, L, R))) (M := mr_237) rfl (show mcode 237 35 = some (35, .iconst 0, 1, 0, 0, 0, _) from rfl) (Or.inl ⟨.int 0, rfl, rfl⟩) ?_
        refine XW.fam (S' := (70, [(2, .int tb), (1, .int ta), (0, .ref 94)], [.int 0, .int ((20 * ta) + tb), .ref 102], (sh, I, L, R))) (M := mr_237) rfl (show mcode 237 36 = some (36, .goto 34, 3, 70, 0, 0, _) from rfl) (Or.inr (Or.inl ⟨70, [.int 0, .int ((20 * ta) + tb), .ref 102], rfl, rfl⟩)) ?_
        have xhin14 : (((20 * ta) + tb)).toInt = 20 * ta.toInt + tb.toInt := ix20b (by omega) (by omega)
        have hin14 : inR ((20 * ta) + tb) 400 = true := inR_of (by omega) (by omega)
        obtain ⟨I15, eI15⟩ : ∃ X, X = up2 I 102 (((20 * ta) + tb)).toNatClampNeg 0 := ⟨_, rfl⟩
        refine XW.fam (S' := (71, [(2, .int tb), (1, .int ta), (0, .ref 94)], [], (sh, I15, L, R))) (M := mr_237) rfl (show mcode 237 70 = some (70, .iastore, 1, 0, 0, 0, _) from rfl) (Or.inr (Or.inr (Or.inr (Or.inl ⟨_, _, by rw [eI15]; exact sta_i c102 hin14, rfl⟩)))) ?_
        have hwI15 : wOK (mkT vV []) (wE sh R) (sh, I15, L, R) := by rw [eI15]; exact wOK_u2 (q := 102) (k := (((20 * ta) + tb)).toNatClampNeg) (x := 0) wE_put hw rfl (by show ((-2147483648) : Int) ≤ _; omega) (by show _ ≤ (1999999991 : Int); omega)
        have hfI15 : fresh (sh, I15, L, R) := by rw [eI15]; exact fresh_I hf c102
        have v16 : I15 94 2 = m := by rw [eI15, up2_ne (fun e => by cases e.1)]; exact vm
        have v17 : I15 102 (((20 * ta) + tb)).toNatClampNeg = 0 := by rw [eI15]; exact up2_eq
        refine XW.fam (S' := (74, [(2, .int (tb + Int32.ofInt 1)), (1, .int ta), (0, .ref 94)], [], (sh, I15, L, R))) (M := mr_237) rfl (show mcode 237 71 = some (71, .iinc 2 1, 3, 0, 0, 0, _) from rfl) (Or.inr (Or.inr (Or.inr (Or.inr (Or.inr (Or.inr (Or.inr (Or.inr (Or.inr ⟨2, 1, tb, rfl, rfl, by decide, rfl⟩))))))))) ?_
        refine XW.fam (S' := (12, [(2, .int (tb + Int32.ofInt 1)), (1, .int ta), (0, .ref 94)], [], (sh, I15, L, R))) (M := mr_237) rfl (show mcode 237 74 = some (74, .goto (-62), 3, 12, 0, 0, _) from rfl) (Or.inr (Or.inl ⟨12, [], rfl, rfl⟩)) ?_
        have eo := incO (m := tb) (by omega) (by omega)
        have ek : (((20 * ta) + tb)).toNatClampNeg = 20 * ta.toInt.toNat + tb.toInt.toNat := by
          show ((((20 * ta) + tb))).toInt.toNat = _
          have xx := ix20b (a := ta) (b := tb) (by omega) (by omega)
          omega
        refine XW.sub (ls' := [(2, .int (tb + Int32.ofInt 1)), (1, .int ta), (0, .ref 94)]) (List.forall_mem_cons.mpr ⟨List.mem_of_getElem? (i := 0) rfl, (List.forall_mem_cons.mpr ⟨List.mem_of_getElem? (i := 1) rfl, (List.forall_mem_cons.mpr ⟨List.mem_of_getElem? (i := 2) rfl, (fun _ h => absurd h List.not_mem_nil)⟩)⟩)⟩) ?_
        refine ih (tb + Int32.ofInt 1) (by omega) (by omega) (by omega) hwI15 hfI15 (fun q k hq => by rw [eI15, up2_ne (fun e => hq e.1)]; exact hkp q k hq) (fun a b ha hb hab => ?_) K
        by_cases ce : a = ta.toInt.toNat ∧ b = tb.toInt.toNat
        · rw [eI15, ce.1, ce.2, rwT_eq ek]
          unfold iniF
          rw [if_pos (by omega)]
          rfl
        · rw [eI15, rwT_ne ek (by omega) (by omega) ce]
          exact hin a b ha hb (by omega)
theorem ff_out1 {d : Nat} {sh : List mE} {J : Nat → Nat → Int32} {L : Nat → Nat → Int64} {R : Nat → Nat → Option Nat} {m : Int32} (hm0 : 0 ≤ m.toInt) (hm1 : m.toInt ≤ 20) (em : J 94 2 = m) {Q : Option Value → mW → Prop} : ∀ (z : Nat) {I : Nat → Nat → Int32} (ta : Int32), 0 ≤ ta.toInt → ta.toInt ≤ m.toInt → m.toInt - ta.toInt < z → wOK (mkT vV []) (wE sh R) (sh, I, L, R) → fresh (sh, I, L, R) → (∀ q k, ¬ q = 102 → I q k = J q k) → (∀ a b : Nat, a < m.toInt.toNat → b < m.toInt.toNat → a < ta.toInt.toNat → rwT I 102 a b = iniF J a b) → (∀ {I : Nat → Nat → Int32}, wOK (mkT vV []) (wE sh R) (sh, I, L, R) → fresh (sh, I, L, R) → (∀ q k, ¬ q = 102 → I q k = J q k) → (∀ a b : Nat, a < m.toInt.toNat → b < m.toInt.toNat → rwT I 102 a b = iniF J a b) → ∀ ta : Int32, XW 237 mr_237 none (d + 1) 0 0 Q (83, [(1, .int ta), (0, .ref 94)], [], (sh, I, L, R))) → XW 237 mr_237 none (d + 1) 0 0 Q (2, [(1, .int ta), (0, .ref 94)], [], (sh, I, L, R)) := by
  have z0 : (0 : Int32).toInt = 0 := rfl
  intro z
  induction z with
  | zero =>
    intro I ta h1 h2 hz hw hf hkp hin K
    have c94 : sh[94]? = some (.inr 12) := hw.1 94 _ rfl
    have vm : I 94 2 = m := (hkp 94 2 (by decide)).trans em
    refine XW.fam (S' := (3, [(1, .int ta), (0, .ref 94)], [.int ta], (sh, I, L, R))) (M := mr_237) rfl (show mcode 237 2 = some (2, .iload_n 1, 1, 0, 0, 0, _) from rfl) (Or.inl ⟨.int ta, rfl, rfl⟩) ?_
    refine XW.fam (S' := (4, [(1, .int ta), (0, .ref 94)], [.ref 94, .int ta], (sh, I, L, R))) (M := mr_237) rfl (show mcode 237 3 = some (3, .aload_n 0, 1, 0, 0, 0, _) from rfl) (Or.inl ⟨.ref 94, rfl, rfl⟩) ?_
    refine XW.fam (S' := (7, [(1, .int ta), (0, .ref 94)], [.int (I 94 2), .int ta], (sh, I, L, R))) (M := mr_237) rfl (show mcode 237 4 = some (4, .getfield 258, 3, 12, 2, 0, _) from rfl) (Or.inr (Or.inr (Or.inr (Or.inr (Or.inr (Or.inr (Or.inr (Or.inl ⟨_, _, rfl, fl_ldI c94 (by decide) (by decide), rfl⟩)))))))) ?_
    rw [vm]
    have k1 : bcmp .ge ta m = true := bcT (c := .ge) (a := (ta).toInt) (b := (m).toInt) rfl rfl (by show (m).toInt ≤ (ta).toInt; omega)
    refine XW.fam (S' := (83, [(1, .int ta), (0, .ref 94)], [], (sh, I, L, R))) (M := mr_237) rfl (show mcode 237 7 = some (7, .if_icmp .ge 76, 3, 83, 0, 0, _) from rfl) (Or.inr (Or.inl ⟨83, [], by simp [brn, k1], rfl⟩)) ?_
    exact K hw hf hkp (fun a b ha hb => hin a b ha hb (by omega)) ta
  | succ z ih =>
    intro I ta h1 h2 hz hw hf hkp hin K
    have c94 : sh[94]? = some (.inr 12) := hw.1 94 _ rfl
    have vm : I 94 2 = m := (hkp 94 2 (by decide)).trans em
    refine XW.fam (S' := (3, [(1, .int ta), (0, .ref 94)], [.int ta], (sh, I, L, R))) (M := mr_237) rfl (show mcode 237 2 = some (2, .iload_n 1, 1, 0, 0, 0, _) from rfl) (Or.inl ⟨.int ta, rfl, rfl⟩) ?_
    refine XW.fam (S' := (4, [(1, .int ta), (0, .ref 94)], [.ref 94, .int ta], (sh, I, L, R))) (M := mr_237) rfl (show mcode 237 3 = some (3, .aload_n 0, 1, 0, 0, 0, _) from rfl) (Or.inl ⟨.ref 94, rfl, rfl⟩) ?_
    refine XW.fam (S' := (7, [(1, .int ta), (0, .ref 94)], [.int (I 94 2), .int ta], (sh, I, L, R))) (M := mr_237) rfl (show mcode 237 4 = some (4, .getfield 258, 3, 12, 2, 0, _) from rfl) (Or.inr (Or.inr (Or.inr (Or.inr (Or.inr (Or.inr (Or.inr (Or.inl ⟨_, _, rfl, fl_ldI c94 (by decide) (by decide), rfl⟩)))))))) ?_
    rw [vm]
    cases k1 : bcmp .ge ta m with
    | true =>
      have gk1 : (m).toInt ≤ (ta).toInt := icT (c := .ge) (a := (ta).toInt) (b := (m).toInt) rfl rfl k1
      refine XW.fam (S' := (83, [(1, .int ta), (0, .ref 94)], [], (sh, I, L, R))) (M := mr_237) rfl (show mcode 237 7 = some (7, .if_icmp .ge 76, 3, 83, 0, 0, _) from rfl) (Or.inr (Or.inl ⟨83, [], by simp [brn, k1], rfl⟩)) ?_
      exact K hw hf hkp (fun a b ha hb => hin a b ha hb (by omega)) ta
    | false =>
      have gk1 : ¬ ((m).toInt ≤ (ta).toInt) := icF (c := .ge) (a := (ta).toInt) (b := (m).toInt) rfl rfl k1
      refine XW.fam (S' := (10, [(1, .int ta), (0, .ref 94)], [], (sh, I, L, R))) (M := mr_237) rfl (show mcode 237 7 = some (7, .if_icmp .ge 76, 3, 83, 0, 0, _) from rfl) (Or.inr (Or.inl ⟨10, [], by simp [brn, k1], rfl⟩)) ?_
      refine XW.fam (S' := (11, [(1, .int ta), (0, .ref 94)], [.int 0], (sh, I, L, R))) (M := mr_237) rfl (show mcode 237 10 = some (10, .iconst 0, 1, 0, 0, 0, _) from rfl) (Or.inl ⟨.int 0, rfl, rfl⟩) ?_
      refine XW.fam (S' := (12, [(2, .int 0), (1, .int ta), (0, .ref 94)], [], (sh, I, L, R))) (M := mr_237) rfl (show mcode 237 11 = some (11, .istore_n 2, 1, 0, 0, 0, _) from rfl) (Or.inr (Or.inr (Or.inr (Or.inr (Or.inr (Or.inr (Or.inl ⟨_, [], _, rfl, rfl, rfl⟩))))))) ?_
      refine XW.sub (ls' := [(2, .int 0), (1, .int ta), (0, .ref 94)]) (List.forall_mem_cons.mpr ⟨List.mem_of_getElem? (i := 0) rfl, (List.forall_mem_cons.mpr ⟨List.mem_of_getElem? (i := 1) rfl, (List.forall_mem_cons.mpr ⟨List.mem_of_getElem? (i := 2) rfl, (fun _ h => absurd h List.not_mem_nil)⟩)⟩)⟩) ?_
      refine ff_in1 (d := d) hm0 hm1 em (by omega) 21 0 (by decide) (by omega) (by omega) hw hf hkp (fun a b ha hb hab => hin a b ha hb (by omega)) (fun {I} hw hf hkp hin tb => ?_)
      have vm : I 94 2 = m := (hkp 94 2 (by decide)).trans em
      refine XW.fam (S' := (80, [(1, .int (ta + Int32.ofInt 1)), (2, .int tb), (0, .ref 94)], [], (sh, I, L, R))) (M := mr_237) rfl (show mcode 237 77 = some (77, .iinc 1 1, 3, 0, 0, 0, _) from rfl) (Or.inr (Or.inr (Or.inr (Or.inr (Or.inr (Or.inr (Or.inr (Or.inr (Or.inr ⟨1, 1, ta, rfl, rfl, by decide, rfl⟩))))))))) ?_
      refine XW.fam (S' := (2, [(1, .int (ta + Int32.ofInt 1)), (2, .int tb), (0, .ref 94)], [], (sh, I, L, R))) (M := mr_237) rfl (show mcode 237 80 = some (80, .goto (-78), 3, 2, 0, 0, _) from rfl) (Or.inr (Or.inl ⟨2, [], rfl, rfl⟩)) ?_
      have eo := incO (m := ta) (by omega) (by omega)
      refine XW.sub (ls' := [(1, .int (ta + Int32.ofInt 1)), (0, .ref 94)]) (List.forall_mem_cons.mpr ⟨List.mem_of_getElem? (i := 0) rfl, (List.forall_mem_cons.mpr ⟨List.mem_of_getElem? (i := 2) rfl, (fun _ h => absurd h List.not_mem_nil)⟩)⟩) ?_
      exact ih (ta + Int32.ofInt 1) (by omega) (by omega) (by omega) hw hf hkp (fun a b ha hb hab => hin a b ha hb (by omega)) K
theorem tc_farOf {d : Nat} {sh : List mE} {I : Nat → Nat → Int32} {L : Nat → Nat → Int64} {R : Nat → Nat → Option Nat} {a b : Int32} (hw : wOK (mkT vV []) (wE sh R) (sh, I, L, R)) (ha : 0 ≤ a.toInt ∧ a.toInt ≤ 19) (hb : 0 ≤ b.toInt ∧ b.toInt ≤ 19) : Tc 238 d 0 0 [.ref 94, .int a, .int b] (sh, I, L, R) (fun r w' => (∃ x : Int32, r = some (.int x) ∧ x.toInt = rwT I 102 a.toInt.toNat b.toInt.toNat) ∧ w' = (sh, I, L, R)) := by
  have c94 : sh[94]? = some (.inr 12) := hw.1 94 _ rfl
  have c102 : sh[102]? = some (.inl (.int, 400)) := hw.1 102 _ rfl
  have r94_10 : R 94 10 = some 102 := hw.2.1 94 10 _ rfl
  have z20 : (20 : Int32).toInt = 20 := rfl
  refine Tc.of mr_238 rfl (show 3 ≤ mr_238.2.2.2.1 by decide) ?_
  refine XW.fam (S' := (1, [(0, .ref 94), (1, .int a), (2, .int b)], [.ref 94], (sh, I, L, R))) (M := mr_238) rfl (show mcode 238 0 = some (0, .aload_n 0, 1, 0, 0, 0, _) from rfl) (Or.inl ⟨.ref 94, rfl, rfl⟩) ?_
  refine XW.fam (S' := (4, [(0, .ref 94), (1, .int a), (2, .int b)], [.ref 102], (sh, I, L, R))) (M := mr_238) rfl (show mcode 238 1 = some (1, .getfield 32, 3, 12, 10, 0, _) from rfl) (Or.inr (Or.inr (Or.inr (Or.inr (Or.inr (Or.inr (Or.inr (Or.inl ⟨_, _, rfl, fl_ld c94 r94_10 (by decide) (by decide), rfl⟩)))))))) ?_
  refine XW.fam (S' := (6, [(0, .ref 94), (1, .int a), (2, .int b)], [.int 20, .ref 102], (sh, I, L, R))) (M := mr_238) rfl (show mcode 238 4 = some (4, .bipush 20, 2, 0, 0, 0, _) from rfl) (Or.inl ⟨.int 20, rfl, rfl⟩) ?_
  refine XW.fam (S' := (7, [(0, .ref 94), (1, .int a), (2, .int b)], [.int a, .int 20, .ref 102], (sh, I, L, R))) (M := mr_238) rfl (show mcode 238 6 = some (6, .iload_n 1, 1, 0, 0, 0, _) from rfl) (Or.inl ⟨.int a, rfl, rfl⟩) ?_
  refine XW.fam (S' := (8, [(0, .ref 94), (1, .int a), (2, .int b)], [.int (20 * a), .ref 102], (sh, I, L, R))) (M := mr_238) rfl (show mcode 238 7 = some (7, .imul, 1, 0, 0, 0, _) from rfl) (Or.inr (Or.inr (Or.inr (Or.inr (Or.inr (Or.inl ⟨_, rfl, rfl⟩)))))) ?_
  refine XW.fam (S' := (9, [(0, .ref 94), (1, .int a), (2, .int b)], [.int b, .int (20 * a), .ref 102], (sh, I, L, R))) (M := mr_238) rfl (show mcode 238 8 = some (8, .iload_n 2, 1, 0, 0, 0, _) from rfl) (Or.inl ⟨.int b, rfl, rfl⟩) ?_
  refine XW.fam (S' := (10, [(0, .ref 94), (1, .int a), (2, .int b)], [.int ((20 * a) + b), .ref 102], (sh, I, L, R))) (M := mr_238) rfl (show mcode 238 9 = some (9, .iadd, 1, 0, 0, 0, _) from rfl) (Or.inr (Or.inr (Or.inr (Or.inr (Or.inr (Or.inl ⟨_, rfl, rfl⟩)))))) ?_
  have xhin1 : (((20 * a) + b)).toInt = 20 * a.toInt + b.toInt := ix20b (by omega) (by omega)
  have hin1 : inR ((20 * a) + b) 400 = true := inR_of (by omega) (by omega)
  refine XW.fam (S' := (11, [(0, .ref 94), (1, .int a), (2, .int b)], [.int (I 102 (((20 * a) + b)).toNatClampNeg)], (sh, I, L, R))) (M := mr_238) rfl (show mcode 238 10 = some (10, .iaload, 1, 0, 0, 0, _) from rfl) (Or.inr (Or.inr (Or.inl ⟨_, lda_i c102 hin1, rfl⟩))) ?_
  refine XW.ret (r := some (.int (I 102 (((20 * a) + b)).toNatClampNeg))) ⟨⟨.int, rfl, rfl⟩, by decide +kernel⟩ ?_
  refine ⟨⟨_, rfl, ?_⟩, rfl⟩
  show (I 102 ((20 * a) + b).toInt.toNat).toInt = (I 102 (20 * a.toInt.toNat + b.toInt.toNat)).toInt
  have ek : ((20 * a) + b).toInt.toNat = 20 * a.toInt.toNat + b.toInt.toNat := by
    have xx := ix20b (a := a) (b := b) (by omega) (by omega)
    omega
  rw [ek]
theorem ff_in3 {d : Nat} {sh : List mE} {J : Nat → Nat → Int32} {L : Nat → Nat → Int64} {R : Nat → Nat → Option Nat} {m : Int32} {ta tk : Int32} (hm0 : 0 ≤ m.toInt) (hm1 : m.toInt ≤ 20) (em : J 94 2 = m) (htk : 0 ≤ tk.toInt ∧ tk.toInt < m.toInt) (hta : 0 ≤ ta.toInt ∧ ta.toInt < m.toInt) {W0 : Nat → Nat → Int} (hkk : W0 tk.toInt.toNat tk.toInt.toNat = 0) (hW0 : ∀ a b, a < m.toInt.toNat → b < m.toInt.toNat → 0 ≤ W0 a b ∧ W0 a b ≤ 100000) {Q : Option Value → mW → Prop} : ∀ (z : Nat) {I : Nat → Nat → Int32} (tb : Int32), 0 ≤ tb.toInt → tb.toInt ≤ m.toInt → m.toInt - tb.toInt < z → wOK (mkT vV []) (wE sh R) (sh, I, L, R) → fresh (sh, I, L, R) → (∀ q k, ¬ q = 102 → I q k = J q k) → (∀ a b : Nat, a < m.toInt.toNat → b < m.toInt.toNat → ((a < ta.toInt.toNat ∨ (a = ta.toInt.toNat ∧ b < tb.toInt.toNat)) → rwT I 102 a b = stpF W0 tk.toInt.toNat a b) ∧ (¬ (a < ta.toInt.toNat ∨ (a = ta.toInt.toNat ∧ b < tb.toInt.toNat)) → rwT I 102 a b = W0 a b)) → (∀ {I : Nat → Nat → Int32}, wOK (mkT vV []) (wE sh R) (sh, I, L, R) → fresh (sh, I, L, R) → (∀ q k, ¬ q = 102 → I q k = J q k) → (∀ a b : Nat, a < m.toInt.toNat → b < m.toInt.toNat → (a < ta.toInt.toNat + 1 → rwT I 102 a b = stpF W0 tk.toInt.toNat a b) ∧ (¬ a < ta.toInt.toNat + 1 → rwT I 102 a b = W0 a b)) → ∀ tb : Int32, XW 237 mr_237 none (d + 1) 0 0 Q (158, [(3, .int tb), (2, .int ta), (1, .int tk), (0, .ref 94)], [], (sh, I, L, R))) → XW 237 mr_237 none (d + 1) 0 0 Q (105, [(3, .int tb), (2, .int ta), (1, .int tk), (0, .ref 94)], [], (sh, I, L, R)) := by
  have z20 : (20 : Int32).toInt = 20 := rfl
  intro z
  induction z with
  | zero =>
    intro I tb h1 h2 hz hw hf hkp hmx K
    have c94 : sh[94]? = some (.inr 12) := hw.1 94 _ rfl
    have c102 : sh[102]? = some (.inl (.int, 400)) := hw.1 102 _ rfl
    have r94_10 : R 94 10 = some 102 := hw.2.1 94 10 _ rfl
    have vm : I 94 2 = m := (hkp 94 2 (by decide)).trans em
    refine XW.fam (S' := (106, [(3, .int tb), (2, .int ta), (1, .int tk), (0, .ref 94)], [.int tb], (sh, I, L, R))) (M := mr_237) rfl (show mcode 237 105 = some (105, .iload_n 3, 1, 0, 0, 0, _) from rfl) (Or.inl ⟨.int tb, rfl, rfl⟩) ?_
    refine XW.fam (S' := (107, [(3, .int tb), (2, .int ta), (1, .int tk), (0, .ref 94)], [.ref 94, .int tb], (sh, I, L, R))) (M := mr_237) rfl (show mcode 237 106 = some (106, .aload_n 0, 1, 0, 0, 0, _) from rfl) (Or.inl ⟨.ref 94, rfl, rfl⟩) ?_
    refine XW.fam (S' := (110, [(3, .int tb), (2, .int ta), (1, .int tk), (0, .ref 94)], [.int (I 94 2), .int tb], (sh, I, L, R))) (M := mr_237) rfl (show mcode 237 107 = some (107, .getfield 258, 3, 12, 2, 0, _) from rfl) (Or.inr (Or.inr (Or.inr (Or.inr (Or.inr (Or.inr (Or.inr (Or.inl ⟨_, _, rfl, fl_ldI c94 (by decide) (by decide), rfl⟩)))))))) ?_
    rw [vm]
    have k1 : bcmp .ge tb m = true := bcT (c := .ge) (a := (tb).toInt) (b := (m).toInt) rfl rfl (by show (m).toInt ≤ (tb).toInt; omega)
    refine XW.fam (S' := (158, [(3, .int tb), (2, .int ta), (1, .int tk), (0, .ref 94)], [], (sh, I, L, R))) (M := mr_237) rfl (show mcode 237 110 = some (110, .if_icmp .ge 48, 3, 158, 0, 0, _) from rfl) (Or.inr (Or.inl ⟨158, [], by simp [brn, k1], rfl⟩)) ?_
    exact K hw hf hkp (fun a b ha hb => ⟨fun q => (hmx a b ha hb).1 (by omega), fun q => (hmx a b ha hb).2 (by omega)⟩) tb
  | succ z ih =>
    intro I tb h1 h2 hz hw hf hkp hmx K
    have c94 : sh[94]? = some (.inr 12) := hw.1 94 _ rfl
    have c102 : sh[102]? = some (.inl (.int, 400)) := hw.1 102 _ rfl
    have r94_10 : R 94 10 = some 102 := hw.2.1 94 10 _ rfl
    have vm : I 94 2 = m := (hkp 94 2 (by decide)).trans em
    refine XW.fam (S' := (106, [(3, .int tb), (2, .int ta), (1, .int tk), (0, .ref 94)], [.int tb], (sh, I, L, R))) (M := mr_237) rfl (show mcode 237 105 = some (105, .iload_n 3, 1, 0, 0, 0, _) from rfl) (Or.inl ⟨.int tb, rfl, rfl⟩) ?_
    refine XW.fam (S' := (107, [(3, .int tb), (2, .int ta), (1, .int tk), (0, .ref 94)], [.ref 94, .int tb], (sh, I, L, R))) (M := mr_237) rfl (show mcode 237 106 = some (106, .aload_n 0, 1, 0, 0, 0, _) from rfl) (Or.inl ⟨.ref 94, rfl, rfl⟩) ?_
    refine XW.fam (S' := (110, [(3, .int tb), (2, .int ta), (1, .int tk), (0, .ref 94)], [.int (I 94 2), .int tb], (sh, I, L, R))) (M := mr_237) rfl (show mcode 237 107 = some (107, .getfield 258, 3, 12, 2, 0, _) from rfl) (Or.inr (Or.inr (Or.inr (Or.inr (Or.inr (Or.inr (Or.inr (Or.inl ⟨_, _, rfl, fl_ldI c94 (by decide) (by decide), rfl⟩)))))))) ?_
    rw [vm]
    cases k1 : bcmp .ge tb m with
    | true =>
      have gk1 : (m).toInt ≤ (tb).toInt := icT (c := .ge) (a := (tb).toInt) (b := (m).toInt) rfl rfl k1
      refine XW.fam (S' := (158, [(3, .int tb), (2, .int ta), (1, .int tk), (0, .ref 94)], [], (sh, I, L, R))) (M := mr_237) rfl (show mcode 237 110 = some (110, .if_icmp .ge 48, 3, 158, 0, 0, _) from rfl) (Or.inr (Or.inl ⟨158, [], by simp [brn, k1], rfl⟩)) ?_
      exact K hw hf hkp (fun a b ha hb => ⟨fun q => (hmx a b ha hb).1 (by omega), fun q => (hmx a b ha hb).2 (by omega)⟩) tb
    | false =>
      have gk1 : ¬ ((m).toInt ≤ (tb).toInt) := icF (c := .ge) (a := (tb).toInt) (b := (m).toInt) rfl rfl k1
      refine XW.fam (S' := (113, [(3, .int tb), (2, .int ta), (1, .int tk), (0, .ref 94)], [], (sh, I, L, R))) (M := mr_237) rfl (show mcode 237 110 = some (110, .if_icmp .ge 48, 3, 158, 0, 0, _) from rfl) (Or.inr (Or.inl ⟨113, [], by simp [brn, k1], rfl⟩)) ?_
      refine XW.fam (S' := (114, [(3, .int tb), (2, .int ta), (1, .int tk), (0, .ref 94)], [.ref 94], (sh, I, L, R))) (M := mr_237) rfl (show mcode 237 113 = some (113, .aload_n 0, 1, 0, 0, 0, _) from rfl) (Or.inl ⟨.ref 94, rfl, rfl⟩) ?_
      refine XW.fam (S' := (115, [(3, .int tb), (2, .int ta), (1, .int tk), (0, .ref 94)], [.int ta, .ref 94], (sh, I, L, R))) (M := mr_237) rfl (show mcode 237 114 = some (114, .iload_n 2, 1, 0, 0, 0, _) from rfl) (Or.inl ⟨.int ta, rfl, rfl⟩) ?_
      refine XW.fam (S' := (116, [(3, .int tb), (2, .int ta), (1, .int tk), (0, .ref 94)], [.int tk, .int ta, .ref 94], (sh, I, L, R))) (M := mr_237) rfl (show mcode 237 115 = some (115, .iload_n 1, 1, 0, 0, 0, _) from rfl) (Or.inl ⟨.int tk, rfl, rfl⟩) ?_
      refine XW.call (d' := d) (mc' := 0) (ms' := 0) (av := [.ref 94, .int ta, .int tk]) (rest := []) (M := mr_237) (Ma := mr_238) rfl (show mcode 237 116 = some (116, .invokevirtual 262, 3, 238, 0, 0, _) from rfl) rfl (by decide) (by decide) ⟨rfl, 94, _, rfl, c94⟩ rfl rfl (show 0 ≤ 8 by decide) (tc_farOf (d := d) hw (by omega) (by omega)) (by omega) (Nat.zero_le _) (Nat.zero_le _) (fun rQ2 wQ2 Q2 => ?_)
      obtain ⟨⟨y1, rfl, hy1⟩, rfl⟩ := Q2
      refine XW.fam (S' := (120, [(3, .int tb), (2, .int ta), (1, .int tk), (0, .ref 94)], [.ref 94, .int y1], (sh, I, L, R))) (M := mr_237) rfl (show mcode 237 119 = some (119, .aload_n 0, 1, 0, 0, 0, _) from rfl) (Or.inl ⟨.ref 94, rfl, rfl⟩) ?_
      refine XW.fam (S' := (121, [(3, .int tb), (2, .int ta), (1, .int tk), (0, .ref 94)], [.int tk, .ref 94, .int y1], (sh, I, L, R))) (M := mr_237) rfl (show mcode 237 120 = some (120, .iload_n 1, 1, 0, 0, 0, _) from rfl) (Or.inl ⟨.int tk, rfl, rfl⟩) ?_
      refine XW.fam (S' := (122, [(3, .int tb), (2, .int ta), (1, .int tk), (0, .ref 94)], [.int tb, .int tk, .ref 94, .int y1], (sh, I, L, R))) (M := mr_237) rfl (show mcode 237 121 = some (121, .iload_n 3, 1, 0, 0, 0, _) from rfl) (Or.inl ⟨.int tb, rfl, rfl⟩) ?_
      refine XW.call (d' := d) (mc' := 0) (ms' := 0) (av := [.ref 94, .int tk, .int tb]) (rest := [.int y1]) (M := mr_237) (Ma := mr_238) rfl (show mcode 237 122 = some (122, .invokevirtual 262, 3, 238, 0, 0, _) from rfl) rfl (by decide) (by decide) ⟨rfl, 94, _, rfl, c94⟩ rfl rfl (show 1 ≤ 8 by decide) (tc_farOf (d := d) hw (by omega) (by omega)) (by omega) (Nat.zero_le _) (Nat.zero_le _) (fun rQ3 wQ3 Q3 => ?_)
      obtain ⟨⟨y2, rfl, hy2⟩, rfl⟩ := Q3
      refine XW.fam (S' := (126, [(3, .int tb), (2, .int ta), (1, .int tk), (0, .ref 94)], [.int (y1 + y2)], (sh, I, L, R))) (M := mr_237) rfl (show mcode 237 125 = some (125, .iadd, 1, 0, 0, 0, _) from rfl) (Or.inr (Or.inr (Or.inr (Or.inr (Or.inr (Or.inl ⟨_, rfl, rfl⟩)))))) ?_
      refine XW.fam (S' := (128, [(4, .int (y1 + y2)), (3, .int tb), (2, .int ta), (1, .int tk), (0, .ref 94)], [], (sh, I, L, R))) (M := mr_237) rfl (show mcode 237 126 = some (126, .istore 4, 2, 0, 0, 0, _) from rfl) (Or.inr (Or.inr (Or.inr (Or.inr (Or.inr (Or.inr (Or.inl ⟨_, [], _, rfl, rfl, rfl⟩))))))) ?_
      refine XW.fam (S' := (130, [(4, .int (y1 + y2)), (3, .int tb), (2, .int ta), (1, .int tk), (0, .ref 94)], [.int (y1 + y2)], (sh, I, L, R))) (M := mr_237) rfl (show mcode 237 128 = some (128, .iload 4, 2, 0, 0, 0, _) from rfl) (Or.inl ⟨.int (y1 + y2), rfl, rfl⟩) ?_
      refine XW.fam (S' := (131, [(4, .int (y1 + y2)), (3, .int tb), (2, .int ta), (1, .int tk), (0, .ref 94)], [.ref 94, .int (y1 + y2)], (sh, I, L, R))) (M := mr_237) rfl (show mcode 237 130 = some (130, .aload_n 0, 1, 0, 0, 0, _) from rfl) (Or.inl ⟨.ref 94, rfl, rfl⟩) ?_
      refine XW.fam (S' := (132, [(4, .int (y1 + y2)), (3, .int tb), (2, .int ta), (1, .int tk), (0, .ref 94)], [.int ta, .ref 94, .int (y1 + y2)], (sh, I, L, R))) (M := mr_237) rfl (show mcode 237 131 = some (131, .iload_n 2, 1, 0, 0, 0, _) from rfl) (Or.inl ⟨.int ta, rfl, rfl⟩) ?_
      refine XW.fam (S' := (133, [(4, .int (y1 + y2)), (3, .int tb), (2, .int ta), (1, .int tk), (0, .ref 94)], [.int tb, .int ta, .ref 94, .int (y1 + y2)], (sh, I, L, R))) (M := mr_237) rfl (show mcode 237 132 = some (132, .iload_n 3, 1, 0, 0, 0, _) from rfl) (Or.inl ⟨.int tb, rfl, rfl⟩) ?_
      have f1 : y1.toInt = W0 ta.toInt.toNat tk.toInt.toNat := by
        rw [hy1]
        by_cases c : (ta.toInt.toNat < ta.toInt.toNat ∨ (ta.toInt.toNat = ta.toInt.toNat ∧ tk.toInt.toNat < tb.toInt.toNat))
        · rw [(hmx _ _ (by omega) (by omega)).1 c, stp_col hkk]
        · exact (hmx _ _ (by omega) (by omega)).2 c
      have f2 : y2.toInt = W0 tk.toInt.toNat tb.toInt.toNat := by
        rw [hy2]
        by_cases c : (tk.toInt.toNat < ta.toInt.toNat ∨ (tk.toInt.toNat = ta.toInt.toNat ∧ tb.toInt.toNat < tb.toInt.toNat))
        · rw [(hmx _ _ (by omega) (by omega)).1 c, stp_row hkk]
        · exact (hmx _ _ (by omega) (by omega)).2 c
      have b1 := hW0 ta.toInt.toNat tk.toInt.toNat (by omega) (by omega)
      have b2 := hW0 tk.toInt.toNat tb.toInt.toNat (by omega) (by omega)
      have es := sumS (a := y1) (b := y2) (by omega) (by omega)
      refine XW.call (d' := d) (mc' := 0) (ms' := 0) (av := [.ref 94, .int ta, .int tb]) (rest := [.int (y1 + y2)]) (M := mr_237) (Ma := mr_238) rfl (show mcode 237 133 = some (133, .invokevirtual 262, 3, 238, 0, 0, _) from rfl) rfl (by decide) (by decide) ⟨rfl, 94, _, rfl, c94⟩ rfl rfl (show 1 ≤ 8 by decide) (tc_farOf (d := d) hw (by omega) (by omega)) (by omega) (Nat.zero_le _) (Nat.zero_le _) (fun rQ4 wQ4 Q4 => ?_)
      obtain ⟨⟨y3, rfl, hy3⟩, rfl⟩ := Q4
      cases k5 : bcmp .ge (y1 + y2) y3 with
      | true =>
        have gk5 : (y3).toInt ≤ ((y1 + y2)).toInt := icT (c := .ge) (a := ((y1 + y2)).toInt) (b := (y3).toInt) rfl rfl k5
        refine XW.fam (S' := (152, [(4, .int (y1 + y2)), (3, .int tb), (2, .int ta), (1, .int tk), (0, .ref 94)], [], (sh, I, L, R))) (M := mr_237) rfl (show mcode 237 136 = some (136, .if_icmp .ge 16, 3, 152, 0, 0, _) from rfl) (Or.inr (Or.inl ⟨152, [], by simp [brn, k5], rfl⟩)) ?_
        refine XW.fam (S' := (155, [(3, .int (tb + Int32.ofInt 1)), (4, .int (y1 + y2)), (2, .int ta), (1, .int tk), (0, .ref 94)], [], (sh, I, L, R))) (M := mr_237) rfl (show mcode 237 152 = some (152, .iinc 3 1, 3, 0, 0, 0, _) from rfl) (Or.inr (Or.inr (Or.inr (Or.inr (Or.inr (Or.inr (Or.inr (Or.inr (Or.inr ⟨3, 1, tb, rfl, rfl, by decide, rfl⟩))))))))) ?_
        refine XW.fam (S' := (105, [(3, .int (tb + Int32.ofInt 1)), (4, .int (y1 + y2)), (2, .int ta), (1, .int tk), (0, .ref 94)], [], (sh, I, L, R))) (M := mr_237) rfl (show mcode 237 155 = some (155, .goto (-50), 3, 105, 0, 0, _) from rfl) (Or.inr (Or.inl ⟨105, [], rfl, rfl⟩)) ?_
        have f3 : y3.toInt = W0 ta.toInt.toNat tb.toInt.toNat := by
          rw [hy3]
          exact (hmx _ _ (by omega) (by omega)).2 (by omega)
        have eo := incO (m := tb) (by omega) (by omega)
        refine XW.sub (ls' := [(3, .int (tb + Int32.ofInt 1)), (2, .int ta), (1, .int tk), (0, .ref 94)]) (List.forall_mem_cons.mpr ⟨List.mem_of_getElem? (i := 0) rfl, (List.forall_mem_cons.mpr ⟨List.mem_of_getElem? (i := 2) rfl, (List.forall_mem_cons.mpr ⟨List.mem_of_getElem? (i := 3) rfl, (List.forall_mem_cons.mpr ⟨List.mem_of_getElem? (i := 4) rfl, (fun _ h => absurd h List.not_mem_nil)⟩)⟩)⟩)⟩) ?_
        refine ih (tb + Int32.ofInt 1) (by omega) (by omega) (by omega) hw hf hkp (fun a b ha hb => ?_) K
        by_cases ce : a = ta.toInt.toNat ∧ b = tb.toInt.toNat
        · refine ⟨fun _ => ?_, fun q => absurd (Or.inr ⟨ce.1, by omega⟩) q⟩
          rw [ce.1, ce.2, ← hy3, f3]
          exact (if_neg (by omega)).symm
        · have hh := hmx a b ha hb
          exact ⟨fun q => hh.1 (by omega), fun q => hh.2 (by omega)⟩
      | false =>
        have gk5 : ¬ ((y3).toInt ≤ ((y1 + y2)).toInt) := icF (c := .ge) (a := ((y1 + y2)).toInt) (b := (y3).toInt) rfl rfl k5
        refine XW.fam (S' := (139, [(4, .int (y1 + y2)), (3, .int tb), (2, .int ta), (1, .int tk), (0, .ref 94)], [], (sh, I, L, R))) (M := mr_237) rfl (show mcode 237 136 = some (136, .if_icmp .ge 16, 3, 152, 0, 0, _) from rfl) (Or.inr (Or.inl ⟨139, [], by simp [brn, k5], rfl⟩)) ?_
        refine XW.fam (S' := (140, [(4, .int (y1 + y2)), (3, .int tb), (2, .int ta), (1, .int tk), (0, .ref 94)], [.ref 94], (sh, I, L, R))) (M := mr_237) rfl (show mcode 237 139 = some (139, .aload_n 0, 1, 0, 0, 0, _) from rfl) (Or.inl ⟨.ref 94, rfl, rfl⟩) ?_
        refine XW.fam (S' := (143, [(4, .int (y1 + y2)), (3, .int tb), (2, .int ta), (1, .int tk), (0, .ref 94)], [.ref 102], (sh, I, L, R))) (M := mr_237) rfl (show mcode 237 140 = some (140, .getfield 32, 3, 12, 10, 0, _) from rfl) (Or.inr (Or.inr (Or.inr (Or.inr (Or.inr (Or.inr (Or.inr (Or.inl ⟨_, _, rfl, fl_ld c94 r94_10 (by decide) (by decide), rfl⟩)))))))) ?_
        refine XW.fam (S' := (145, [(4, .int (y1 + y2)), (3, .int tb), (2, .int ta), (1, .int tk), (0, .ref 94)], [.int 20, .ref 102], (sh, I, L, R))) (M := mr_237) rfl (show mcode 237 143 = some (143, .bipush 20, 2, 0, 0, 0, _) from rfl) (Or.inl ⟨.int 20, rfl, rfl⟩) ?_
        refine XW.fam (S' := (146, [(4, .int (y1 + y2)), (3, .int tb), (2, .int ta), (1, .int tk), (0, .ref 94)], [.int ta, .int 20, .ref 102], (sh, I, L, R))) (M := mr_237) rfl (show mcode 237 145 = some (145, .iload_n 2, 1, 0, 0, 0, _) from rfl) (Or.inl ⟨.int ta, rfl, rfl⟩) ?_
        refine XW.fam (S' := (147, [(4, .int (y1 + y2)), (3, .int tb), (2, .int ta), (1, .int tk), (0, .ref 94)], [.int (20 * ta), .ref 102], (sh, I, L, R))) (M := mr_237) rfl (show mcode 237 146 = some (146, .imul, 1, 0, 0, 0, _) from rfl) (Or.inr (Or.inr (Or.inr (Or.inr (Or.inr (Or.inl ⟨_, rfl, rfl⟩)))))) ?_
        refine XW.fam (S' := (148, [(4, .int (y1 + y2)), (3, .int tb), (2, .int ta), (1, .int tk), (0, .ref 94)], [.int tb, .int (20 * ta), .ref 102], (sh, I, L, R))) (M := mr_237) rfl (show mcode 237 147 = some (147, .iload_n 3, 1, 0, 0, 0, _) from rfl) (Or.inl ⟨.int tb, rfl, rfl⟩) ?_
        refine XW.fam (S' := (149, [(4, .int (y1 + y2)), (3, .int tb), (2, .int ta), (1, .int tk), (0, .ref 94)], [.int ((20 * ta) + tb), .ref 102], (sh, I, L, R))) (M := mr_237) rfl (show mcode 237 148 = some (148, .iadd, 1, 0, 0, 0, _) from rfl) (Or.inr (Or.inr (Or.inr (Or.inr (Or.inr (Or.inl ⟨_, rfl, rfl⟩)))))) ?_
        refine XW.fam (S' := (151, [(4, .int (y1 + y2)), (3, .int tb), (2, .int ta), (1, .int tk), (0, .ref 94)], [.int (y1 + y2), .int ((20 * ta) + tb), .ref 102], (sh, I, L, R))) (M := mr_237) rfl (show mcode 237 149 = some (149, .iload 4, 2, 0, 0, 0, _) from rfl) (Or.inl ⟨.int (y1 + y2), rfl, rfl⟩) ?_
        have xhin6 : (((20 * ta) + tb)).toInt = 20 * ta.toInt + tb.toInt := ix20b (by omega) (by omega)
        have hin6 : inR ((20 * ta) + tb) 400 = true := inR_of (by omega) (by omega)
        obtain ⟨I7, eI7⟩ : ∃ X, X = up2 I 102 (((20 * ta) + tb)).toNatClampNeg (y1 + y2) := ⟨_, rfl⟩
        refine XW.fam (S' := (152, [(4, .int (y1 + y2)), (3, .int tb), (2, .int ta), (1, .int tk), (0, .ref 94)], [], (sh, I7, L, R))) (M := mr_237) rfl (show mcode 237 151 = some (151, .iastore, 1, 0, 0, 0, _) from rfl) (Or.inr (Or.inr (Or.inr (Or.inl ⟨_, _, by rw [eI7]; exact sta_i c102 hin6, rfl⟩)))) ?_
        have hwI7 : wOK (mkT vV []) (wE sh R) (sh, I7, L, R) := by rw [eI7]; exact wOK_u2 (q := 102) (k := (((20 * ta) + tb)).toNatClampNeg) (x := (y1 + y2)) wE_put hw rfl (by show ((-2147483648) : Int) ≤ _; omega) (by show _ ≤ (1999999991 : Int); omega)
        have hfI7 : fresh (sh, I7, L, R) := by rw [eI7]; exact fresh_I hf c102
        have v8 : I7 94 2 = m := by rw [eI7, up2_ne (fun e => by cases e.1)]; exact vm
        have v9 : I7 102 (((20 * ta) + tb)).toNatClampNeg = (y1 + y2) := by rw [eI7]; exact up2_eq
        refine XW.fam (S' := (155, [(3, .int (tb + Int32.ofInt 1)), (4, .int (y1 + y2)), (2, .int ta), (1, .int tk), (0, .ref 94)], [], (sh, I7, L, R))) (M := mr_237) rfl (show mcode 237 152 = some (152, .iinc 3 1, 3, 0, 0, 0, _) from rfl) (Or.inr (Or.inr (Or.inr (Or.inr (Or.inr (Or.inr (Or.inr (Or.inr (Or.inr ⟨3, 1, tb, rfl, rfl, by decide, rfl⟩))))))))) ?_
        refine XW.fam (S' := (105, [(3, .int (tb + Int32.ofInt 1)), (4, .int (y1 + y2)), (2, .int ta), (1, .int tk), (0, .ref 94)], [], (sh, I7, L, R))) (M := mr_237) rfl (show mcode 237 155 = some (155, .goto (-50), 3, 105, 0, 0, _) from rfl) (Or.inr (Or.inl ⟨105, [], rfl, rfl⟩)) ?_
        have f3 : y3.toInt = W0 ta.toInt.toNat tb.toInt.toNat := by
          rw [hy3]
          exact (hmx _ _ (by omega) (by omega)).2 (by omega)
        have eo := incO (m := tb) (by omega) (by omega)
        have ek : (((20 * ta) + tb)).toNatClampNeg = 20 * ta.toInt.toNat + tb.toInt.toNat := by
          show ((((20 * ta) + tb))).toInt.toNat = _
          have xx := ix20b (a := ta) (b := tb) (by omega) (by omega)
          omega
        refine XW.sub (ls' := [(3, .int (tb + Int32.ofInt 1)), (2, .int ta), (1, .int tk), (0, .ref 94)]) (List.forall_mem_cons.mpr ⟨List.mem_of_getElem? (i := 0) rfl, (List.forall_mem_cons.mpr ⟨List.mem_of_getElem? (i := 2) rfl, (List.forall_mem_cons.mpr ⟨List.mem_of_getElem? (i := 3) rfl, (List.forall_mem_cons.mpr ⟨List.mem_of_getElem? (i := 4) rfl, (fun _ h => absurd h List.not_mem_nil)⟩)⟩)⟩)⟩) ?_
        refine ih (tb + Int32.ofInt 1) (by omega) (by omega) (by omega) hwI7 hfI7 (fun q k hq => by rw [eI7, up2_ne (fun e => hq e.1)]; exact hkp q k hq) (fun a b ha hb => ?_) K
        by_cases ce : a = ta.toInt.toNat ∧ b = tb.toInt.toNat
        · refine ⟨fun _ => ?_, fun q => absurd (Or.inr ⟨ce.1, by omega⟩) q⟩
          rw [eI7, ce.1, ce.2, rwT_eq ek, es, f1, f2]
          exact (if_pos (by omega)).symm
        · have hh := hmx a b ha hb
          rw [eI7, rwT_ne ek (by omega) (by omega) ce]
          exact ⟨fun q => hh.1 (by omega), fun q => hh.2 (by omega)⟩
theorem ff_mid {d : Nat} {sh : List mE} {J : Nat → Nat → Int32} {L : Nat → Nat → Int64} {R : Nat → Nat → Option Nat} {m : Int32} {tk : Int32} (hm0 : 0 ≤ m.toInt) (hm1 : m.toInt ≤ 20) (em : J 94 2 = m) (htk : 0 ≤ tk.toInt ∧ tk.toInt < m.toInt) {W0 : Nat → Nat → Int} (hkk : W0 tk.toInt.toNat tk.toInt.toNat = 0) (hW0 : ∀ a b, a < m.toInt.toNat → b < m.toInt.toNat → 0 ≤ W0 a b ∧ W0 a b ≤ 100000) {Q : Option Value → mW → Prop} : ∀ (z : Nat) {I : Nat → Nat → Int32} (ta : Int32), 0 ≤ ta.toInt → ta.toInt ≤ m.toInt → m.toInt - ta.toInt < z → wOK (mkT vV []) (wE sh R) (sh, I, L, R) → fresh (sh, I, L, R) → (∀ q k, ¬ q = 102 → I q k = J q k) → (∀ a b : Nat, a < m.toInt.toNat → b < m.toInt.toNat → (a < ta.toInt.toNat → rwT I 102 a b = stpF W0 tk.toInt.toNat a b) ∧ (¬ a < ta.toInt.toNat → rwT I 102 a b = W0 a b)) → (∀ {I : Nat → Nat → Int32}, wOK (mkT vV []) (wE sh R) (sh, I, L, R) → fresh (sh, I, L, R) → (∀ q k, ¬ q = 102 → I q k = J q k) → (∀ a b : Nat, a < m.toInt.toNat → b < m.toInt.toNat → rwT I 102 a b = stpF W0 tk.toInt.toNat a b) → ∀ ta : Int32, XW 237 mr_237 none (d + 1) 0 0 Q (164, [(2, .int ta), (1, .int tk), (0, .ref 94)], [], (sh, I, L, R))) → XW 237 mr_237 none (d + 1) 0 0 Q (95, [(2, .int ta), (1, .int tk), (0, .ref 94)], [], (sh, I, L, R)) := by
  have z0 : (0 : Int32).toInt = 0 := rfl
  intro z
  induction z with
  | zero =>
    intro I ta h1 h2 hz hw hf hkp hmx K
    have c94 : sh[94]? = some (.inr 12) := hw.1 94 _ rfl
    have vm : I 94 2 = m := (hkp 94 2 (by decide)).trans em
    refine XW.fam (S' := (96, [(2, .int ta), (1, .int tk), (0, .ref 94)], [.int ta], (sh, I, L, R))) (M := mr_237) rfl (show mcode 237 95 = some (95, .iload_n 2, 1, 0, 0, 0, _) from rfl) (Or.inl ⟨.int ta, rfl, rfl⟩) ?_
    refine XW.fam (S' := (97, [(2, .int ta), (1, .int tk), (0, .ref 94)], [.ref 94, .int ta], (sh, I, L, R))) (M := mr_237) rfl (show mcode 237 96 = some (96, .aload_n 0, 1, 0, 0, 0, _) from rfl) (Or.inl ⟨.ref 94, rfl, rfl⟩) ?_
    refine XW.fam (S' := (100, [(2, .int ta), (1, .int tk), (0, .ref 94)], [.int (I 94 2), .int ta], (sh, I, L, R))) (M := mr_237) rfl (show mcode 237 97 = some (97, .getfield 258, 3, 12, 2, 0, _) from rfl) (Or.inr (Or.inr (Or.inr (Or.inr (Or.inr (Or.inr (Or.inr (Or.inl ⟨_, _, rfl, fl_ldI c94 (by decide) (by decide), rfl⟩)))))))) ?_
    rw [vm]
    have k1 : bcmp .ge ta m = true := bcT (c := .ge) (a := (ta).toInt) (b := (m).toInt) rfl rfl (by show (m).toInt ≤ (ta).toInt; omega)
    refine XW.fam (S' := (164, [(2, .int ta), (1, .int tk), (0, .ref 94)], [], (sh, I, L, R))) (M := mr_237) rfl (show mcode 237 100 = some (100, .if_icmp .ge 64, 3, 164, 0, 0, _) from rfl) (Or.inr (Or.inl ⟨164, [], by simp [brn, k1], rfl⟩)) ?_
    exact K hw hf hkp (fun a b ha hb => (hmx a b ha hb).1 (by omega)) ta
  | succ z ih =>
    intro I ta h1 h2 hz hw hf hkp hmx K
    have c94 : sh[94]? = some (.inr 12) := hw.1 94 _ rfl
    have vm : I 94 2 = m := (hkp 94 2 (by decide)).trans em
    refine XW.fam (S' := (96, [(2, .int ta), (1, .int tk), (0, .ref 94)], [.int ta], (sh, I, L, R))) (M := mr_237) rfl (show mcode 237 95 = some (95, .iload_n 2, 1, 0, 0, 0, _) from rfl) (Or.inl ⟨.int ta, rfl, rfl⟩) ?_
    refine XW.fam (S' := (97, [(2, .int ta), (1, .int tk), (0, .ref 94)], [.ref 94, .int ta], (sh, I, L, R))) (M := mr_237) rfl (show mcode 237 96 = some (96, .aload_n 0, 1, 0, 0, 0, _) from rfl) (Or.inl ⟨.ref 94, rfl, rfl⟩) ?_
    refine XW.fam (S' := (100, [(2, .int ta), (1, .int tk), (0, .ref 94)], [.int (I 94 2), .int ta], (sh, I, L, R))) (M := mr_237) rfl (show mcode 237 97 = some (97, .getfield 258, 3, 12, 2, 0, _) from rfl) (Or.inr (Or.inr (Or.inr (Or.inr (Or.inr (Or.inr (Or.inr (Or.inl ⟨_, _, rfl, fl_ldI c94 (by decide) (by decide), rfl⟩)))))))) ?_
    rw [vm]
    cases k1 : bcmp .ge ta m with
    | true =>
      have gk1 : (m).toInt ≤ (ta).toInt := icT (c := .ge) (a := (ta).toInt) (b := (m).toInt) rfl rfl k1
      refine XW.fam (S' := (164, [(2, .int ta), (1, .int tk), (0, .ref 94)], [], (sh, I, L, R))) (M := mr_237) rfl (show mcode 237 100 = some (100, .if_icmp .ge 64, 3, 164, 0, 0, _) from rfl) (Or.inr (Or.inl ⟨164, [], by simp [brn, k1], rfl⟩)) ?_
      exact K hw hf hkp (fun a b ha hb => (hmx a b ha hb).1 (by omega)) ta
    | false =>
      have gk1 : ¬ ((m).toInt ≤ (ta).toInt) := icF (c := .ge) (a := (ta).toInt) (b := (m).toInt) rfl rfl k1
      refine XW.fam (S' := (103, [(2, .int ta), (1, .int tk), (0, .ref 94)], [], (sh, I, L, R))) (M := mr_237) rfl (show mcode 237 100 = some (100, .if_icmp .ge 64, 3, 164, 0, 0, _) from rfl) (Or.inr (Or.inl ⟨103, [], by simp [brn, k1], rfl⟩)) ?_
      refine XW.fam (S' := (104, [(2, .int ta), (1, .int tk), (0, .ref 94)], [.int 0], (sh, I, L, R))) (M := mr_237) rfl (show mcode 237 103 = some (103, .iconst 0, 1, 0, 0, 0, _) from rfl) (Or.inl ⟨.int 0, rfl, rfl⟩) ?_
      refine XW.fam (S' := (105, [(3, .int 0), (2, .int ta), (1, .int tk), (0, .ref 94)], [], (sh, I, L, R))) (M := mr_237) rfl (show mcode 237 104 = some (104, .istore_n 3, 1, 0, 0, 0, _) from rfl) (Or.inr (Or.inr (Or.inr (Or.inr (Or.inr (Or.inr (Or.inl ⟨_, [], _, rfl, rfl, rfl⟩))))))) ?_
      refine XW.sub (ls' := [(3, .int 0), (2, .int ta), (1, .int tk), (0, .ref 94)]) (List.forall_mem_cons.mpr ⟨List.mem_of_getElem? (i := 0) rfl, (List.forall_mem_cons.mpr ⟨List.mem_of_getElem? (i := 1) rfl, (List.forall_mem_cons.mpr ⟨List.mem_of_getElem? (i := 2) rfl, (List.forall_mem_cons.mpr ⟨List.mem_of_getElem? (i := 3) rfl, (fun _ h => absurd h List.not_mem_nil)⟩)⟩)⟩)⟩) ?_
      refine ff_in3 (d := d) hm0 hm1 em htk (by omega) hkk hW0 21 0 (by decide) (by omega) (by omega) hw hf hkp (fun a b ha hb => ⟨fun q => (hmx a b ha hb).1 (by omega), fun q => (hmx a b ha hb).2 (by omega)⟩) (fun {I} hw hf hkp hmx tb => ?_)
      have vm : I 94 2 = m := (hkp 94 2 (by decide)).trans em
      refine XW.fam (S' := (161, [(2, .int (ta + Int32.ofInt 1)), (3, .int tb), (1, .int tk), (0, .ref 94)], [], (sh, I, L, R))) (M := mr_237) rfl (show mcode 237 158 = some (158, .iinc 2 1, 3, 0, 0, 0, _) from rfl) (Or.inr (Or.inr (Or.inr (Or.inr (Or.inr (Or.inr (Or.inr (Or.inr (Or.inr ⟨2, 1, ta, rfl, rfl, by decide, rfl⟩))))))))) ?_
      refine XW.fam (S' := (95, [(2, .int (ta + Int32.ofInt 1)), (3, .int tb), (1, .int tk), (0, .ref 94)], [], (sh, I, L, R))) (M := mr_237) rfl (show mcode 237 161 = some (161, .goto (-66), 3, 95, 0, 0, _) from rfl) (Or.inr (Or.inl ⟨95, [], rfl, rfl⟩)) ?_
      have eo := incO (m := ta) (by omega) (by omega)
      refine XW.sub (ls' := [(2, .int (ta + Int32.ofInt 1)), (1, .int tk), (0, .ref 94)]) (List.forall_mem_cons.mpr ⟨List.mem_of_getElem? (i := 0) rfl, (List.forall_mem_cons.mpr ⟨List.mem_of_getElem? (i := 2) rfl, (List.forall_mem_cons.mpr ⟨List.mem_of_getElem? (i := 3) rfl, (fun _ h => absurd h List.not_mem_nil)⟩)⟩)⟩) ?_
      exact ih (ta + Int32.ofInt 1) (by omega) (by omega) (by omega) hw hf hkp (fun a b ha hb => ⟨fun q => (hmx a b ha hb).1 (by omega), fun q => (hmx a b ha hb).2 (by omega)⟩) K
theorem ff_k {d : Nat} {sh : List mE} {J : Nat → Nat → Int32} {L : Nat → Nat → Int64} {R : Nat → Nat → Option Nat} {m : Int32} (hm0 : 0 ≤ m.toInt) (hm1 : m.toInt ≤ 20) (em : J 94 2 = m) : ∀ (z : Nat) {I : Nat → Nat → Int32} (tk : Int32), 0 ≤ tk.toInt → tk.toInt ≤ m.toInt → m.toInt - tk.toInt < z → wOK (mkT vV []) (wE sh R) (sh, I, L, R) → fresh (sh, I, L, R) → (∀ q k, ¬ q = 102 → I q k = J q k) → FwP m.toInt.toNat tk.toInt.toNat 100000 (rwT J 98) (rwT I 102) → XW 237 mr_237 none (d + 1) 0 0 (fun r w' => r = none ∧ fresh w' ∧ wOK (mkT vV []) (wE sh R) w' ∧ (∀ q k, ¬ q = 102 → w'.2.1 q k = J q k) ∧ Grt m.toInt.toNat 100000 (rwT J 98) (rwT w'.2.1 102)) (85, [(1, .int tk), (0, .ref 94)], [], (sh, I, L, R)) := by
  have z0 : (0 : Int32).toInt = 0 := rfl
  intro z
  induction z with
  | zero =>
    intro I tk h1 h2 hz hw hf hkp hfw
    have c94 : sh[94]? = some (.inr 12) := hw.1 94 _ rfl
    have vm : I 94 2 = m := (hkp 94 2 (by decide)).trans em
    refine XW.fam (S' := (86, [(1, .int tk), (0, .ref 94)], [.int tk], (sh, I, L, R))) (M := mr_237) rfl (show mcode 237 85 = some (85, .iload_n 1, 1, 0, 0, 0, _) from rfl) (Or.inl ⟨.int tk, rfl, rfl⟩) ?_
    refine XW.fam (S' := (87, [(1, .int tk), (0, .ref 94)], [.ref 94, .int tk], (sh, I, L, R))) (M := mr_237) rfl (show mcode 237 86 = some (86, .aload_n 0, 1, 0, 0, 0, _) from rfl) (Or.inl ⟨.ref 94, rfl, rfl⟩) ?_
    refine XW.fam (S' := (90, [(1, .int tk), (0, .ref 94)], [.int (I 94 2), .int tk], (sh, I, L, R))) (M := mr_237) rfl (show mcode 237 87 = some (87, .getfield 258, 3, 12, 2, 0, _) from rfl) (Or.inr (Or.inr (Or.inr (Or.inr (Or.inr (Or.inr (Or.inr (Or.inl ⟨_, _, rfl, fl_ldI c94 (by decide) (by decide), rfl⟩)))))))) ?_
    rw [vm]
    have k1 : bcmp .ge tk m = true := bcT (c := .ge) (a := (tk).toInt) (b := (m).toInt) rfl rfl (by show (m).toInt ≤ (tk).toInt; omega)
    refine XW.fam (S' := (170, [(1, .int tk), (0, .ref 94)], [], (sh, I, L, R))) (M := mr_237) rfl (show mcode 237 90 = some (90, .if_icmp .ge 80, 3, 170, 0, 0, _) from rfl) (Or.inr (Or.inl ⟨170, [], by simp [brn, k1], rfl⟩)) ?_
    refine XW.ret (r := none) ⟨rfl, by decide +kernel⟩ ?_
    have en : tk.toInt.toNat = m.toInt.toNat := by omega
    rw [en] at hfw
    exact ⟨rfl, hf, hw, hkp, fw_end hfw⟩
  | succ z ih =>
    intro I tk h1 h2 hz hw hf hkp hfw
    have c94 : sh[94]? = some (.inr 12) := hw.1 94 _ rfl
    have vm : I 94 2 = m := (hkp 94 2 (by decide)).trans em
    refine XW.fam (S' := (86, [(1, .int tk), (0, .ref 94)], [.int tk], (sh, I, L, R))) (M := mr_237) rfl (show mcode 237 85 = some (85, .iload_n 1, 1, 0, 0, 0, _) from rfl) (Or.inl ⟨.int tk, rfl, rfl⟩) ?_
    refine XW.fam (S' := (87, [(1, .int tk), (0, .ref 94)], [.ref 94, .int tk], (sh, I, L, R))) (M := mr_237) rfl (show mcode 237 86 = some (86, .aload_n 0, 1, 0, 0, 0, _) from rfl) (Or.inl ⟨.ref 94, rfl, rfl⟩) ?_
    refine XW.fam (S' := (90, [(1, .int tk), (0, .ref 94)], [.int (I 94 2), .int tk], (sh, I, L, R))) (M := mr_237) rfl (show mcode 237 87 = some (87, .getfield 258, 3, 12, 2, 0, _) from rfl) (Or.inr (Or.inr (Or.inr (Or.inr (Or.inr (Or.inr (Or.inr (Or.inl ⟨_, _, rfl, fl_ldI c94 (by decide) (by decide), rfl⟩)))))))) ?_
    rw [vm]
    cases k1 : bcmp .ge tk m with
    | true =>
      have gk1 : (m).toInt ≤ (tk).toInt := icT (c := .ge) (a := (tk).toInt) (b := (m).toInt) rfl rfl k1
      refine XW.fam (S' := (170, [(1, .int tk), (0, .ref 94)], [], (sh, I, L, R))) (M := mr_237) rfl (show mcode 237 90 = some (90, .if_icmp .ge 80, 3, 170, 0, 0, _) from rfl) (Or.inr (Or.inl ⟨170, [], by simp [brn, k1], rfl⟩)) ?_
      refine XW.ret (r := none) ⟨rfl, by decide +kernel⟩ ?_
      have en : tk.toInt.toNat = m.toInt.toNat := by omega
      rw [en] at hfw
      exact ⟨rfl, hf, hw, hkp, fw_end hfw⟩
    | false =>
      have gk1 : ¬ ((m).toInt ≤ (tk).toInt) := icF (c := .ge) (a := (tk).toInt) (b := (m).toInt) rfl rfl k1
      refine XW.fam (S' := (93, [(1, .int tk), (0, .ref 94)], [], (sh, I, L, R))) (M := mr_237) rfl (show mcode 237 90 = some (90, .if_icmp .ge 80, 3, 170, 0, 0, _) from rfl) (Or.inr (Or.inl ⟨93, [], by simp [brn, k1], rfl⟩)) ?_
      refine XW.fam (S' := (94, [(1, .int tk), (0, .ref 94)], [.int 0], (sh, I, L, R))) (M := mr_237) rfl (show mcode 237 93 = some (93, .iconst 0, 1, 0, 0, 0, _) from rfl) (Or.inl ⟨.int 0, rfl, rfl⟩) ?_
      refine XW.fam (S' := (95, [(2, .int 0), (1, .int tk), (0, .ref 94)], [], (sh, I, L, R))) (M := mr_237) rfl (show mcode 237 94 = some (94, .istore_n 2, 1, 0, 0, 0, _) from rfl) (Or.inr (Or.inr (Or.inr (Or.inr (Or.inr (Or.inr (Or.inl ⟨_, [], _, rfl, rfl, rfl⟩))))))) ?_
      refine XW.sub (ls' := [(2, .int 0), (1, .int tk), (0, .ref 94)]) (List.forall_mem_cons.mpr ⟨List.mem_of_getElem? (i := 0) rfl, (List.forall_mem_cons.mpr ⟨List.mem_of_getElem? (i := 1) rfl, (List.forall_mem_cons.mpr ⟨List.mem_of_getElem? (i := 2) rfl, (fun _ h => absurd h List.not_mem_nil)⟩)⟩)⟩) ?_
      refine ff_mid (d := d) (W0 := rwT I 102) hm0 hm1 em (by omega) (hfw.1 _ (by omega)) hfw.2.1 21 0 (by decide) (by omega) (by omega) hw hf hkp (fun a b ha hb => ⟨fun q => absurd q (Nat.not_lt_zero _), fun q => rfl⟩) (fun {I2} hw2 hf2 hkp2 hst ta => ?_)
      have vm2 : I2 94 2 = m := (hkp2 94 2 (by decide)).trans em
      refine XW.fam (S' := (167, [(1, .int (tk + Int32.ofInt 1)), (2, .int ta), (0, .ref 94)], [], (sh, I2, L, R))) (M := mr_237) rfl (show mcode 237 164 = some (164, .iinc 1 1, 3, 0, 0, 0, _) from rfl) (Or.inr (Or.inr (Or.inr (Or.inr (Or.inr (Or.inr (Or.inr (Or.inr (Or.inr ⟨1, 1, tk, rfl, rfl, by decide, rfl⟩))))))))) ?_
      refine XW.fam (S' := (85, [(1, .int (tk + Int32.ofInt 1)), (2, .int ta), (0, .ref 94)], [], (sh, I2, L, R))) (M := mr_237) rfl (show mcode 237 167 = some (167, .goto (-82), 3, 85, 0, 0, _) from rfl) (Or.inr (Or.inl ⟨85, [], rfl, rfl⟩)) ?_
      have eo := incO (m := tk) (by omega) (by omega)
      refine XW.sub (ls' := [(1, .int (tk + Int32.ofInt 1)), (0, .ref 94)]) (List.forall_mem_cons.mpr ⟨List.mem_of_getElem? (i := 0) rfl, (List.forall_mem_cons.mpr ⟨List.mem_of_getElem? (i := 2) rfl, (fun _ h => absurd h List.not_mem_nil)⟩)⟩) ?_
      have en : (tk + Int32.ofInt 1).toInt.toNat = tk.toInt.toNat + 1 := by omega
      refine ih (tk + Int32.ofInt 1) (by omega) (by omega) (by omega) hw2 hf2 hkp2 ?_
      rw [en]
      exact fw_step (by omega) hfw hst
theorem tc_fars {d : Nat} {sh : List mE} {I : Nat → Nat → Int32} {L : Nat → Nat → Int64} {R : Nat → Nat → Option Nat} {m : Int32} (hw : wOK (mkT vV []) (wE sh R) (sh, I, L, R)) (hf : fresh (sh, I, L, R)) (em : I 94 2 = m) : Tc 237 (d + 1) 0 0 [.ref 94] (sh, I, L, R) (fun r w' => r = none ∧ fresh w' ∧ wOK (mkT vV []) (wE sh R) w' ∧ (∀ q k, ¬ q = 102 → w'.2.1 q k = I q k) ∧ Grt m.toInt.toNat 100000 (rwT I 98) (rwT w'.2.1 102)) := by
  have z0 : (0 : Int32).toInt = 0 := rfl
  have hm : 0 ≤ (I 94 2).toInt ∧ (I 94 2).toInt ≤ 20 := hw.2.2.1 94 2
  rw [em] at hm
  refine Tc.of mr_237 rfl (show 1 ≤ mr_237.2.2.2.1 by decide) ?_
  refine XW.fam (S' := (1, [(0, .ref 94)], [.int 0], (sh, I, L, R))) (M := mr_237) rfl (show mcode 237 0 = some (0, .iconst 0, 1, 0, 0, 0, _) from rfl) (Or.inl ⟨.int 0, rfl, rfl⟩) ?_
  refine XW.fam (S' := (2, [(1, .int 0), (0, .ref 94)], [], (sh, I, L, R))) (M := mr_237) rfl (show mcode 237 1 = some (1, .istore_n 1, 1, 0, 0, 0, _) from rfl) (Or.inr (Or.inr (Or.inr (Or.inr (Or.inr (Or.inr (Or.inl ⟨_, [], _, rfl, rfl, rfl⟩))))))) ?_
  refine ff_out1 (d := d) (J := I) hm.1 hm.2 em 21 0 (by decide) (by omega) (by omega) hw hf (fun _ _ _ => rfl) (fun a b ha hb hab => absurd hab (Nat.not_lt_zero _)) (fun {I2} hw2 hf2 hkp2 hin ta => ?_)
  have vm2 : I2 94 2 = m := (hkp2 94 2 (by decide)).trans em
  refine XW.fam (S' := (84, [(1, .int ta), (0, .ref 94)], [.int 0], (sh, I2, L, R))) (M := mr_237) rfl (show mcode 237 83 = some (83, .iconst 0, 1, 0, 0, 0, _) from rfl) (Or.inl ⟨.int 0, rfl, rfl⟩) ?_
  refine XW.fam (S' := (85, [(1, .int 0), (0, .ref 94)], [], (sh, I2, L, R))) (M := mr_237) rfl (show mcode 237 84 = some (84, .istore_n 1, 1, 0, 0, 0, _) from rfl) (Or.inr (Or.inr (Or.inr (Or.inr (Or.inr (Or.inr (Or.inl ⟨_, [], _, rfl, rfl, rfl⟩))))))) ?_
  refine XW.sub (ls' := [(1, .int 0), (0, .ref 94)]) (List.forall_mem_cons.mpr ⟨List.mem_of_getElem? (i := 0) rfl, (List.forall_mem_cons.mpr ⟨List.mem_of_getElem? (i := 1) rfl, (fun _ h => absurd h List.not_mem_nil)⟩)⟩) ?_
  exact ff_k (d := d) (J := I) hm.1 hm.2 em 21 0 (by decide) (by omega) (by omega) hw2 hf2 hkp2 (fw_zero (fun a b ha hb => by have h98 : 0 ≤ (I 98 (20 * a + b)).toInt ∧ (I 98 (20 * a + b)).toInt ≤ 9 := hw.2.2.1 98 _; unfold rwT; omega) (by decide) hin)
