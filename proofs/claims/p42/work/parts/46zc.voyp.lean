/-! ===== voyages, voyage of both sides (wip/genvoyp.py) ===== -/
def x00 (I : Nat → Nat → Int32) (q : Nat) : yySt := (fun p => (I q p).toInt, fun _ => 0, fun _ => false)
theorem yyQ_congr {B M : Nat → Int} {x y : yySt} : ∀ {n : Nat}, (∀ k, k < n → x.2.1 k = y.2.1 k) → yyQ B M x n = yyQ B M y n
  | 0, _ => rfl
  | n + 1, h => by
    show yyQ B M x n + (M n - x.2.1 n) * B n = yyQ B M y n + (M n - y.2.1 n) * B n
    rw [yyQ_congr (n := n) (fun k hk => h k (by omega)), h n (by omega)]
theorem yyT_max {W : Nat → Int} {b : Int} : ∀ {n : Nat}, (∀ p, p < n → W p ≤ b) → yyT W n ≤ b * n
  | 0, _ => by show (0 : Int) ≤ b * ((0 : Nat) : Int); rw [Int.natCast_zero, Int.mul_zero]; exact Int.le_refl _
  | n + 1, h => by
    have ih := yyT_max (n := n) (fun p hp => h p (by omega))
    have := h n (by omega)
    have e : b * ((n + 1 : Nat) : Int) = b * (n : Int) + b := by rw [Int.natCast_add, Int.mul_add]; show b * (n : Int) + b * 1 = _; rw [Int.mul_one]
    show yyT W n + W n ≤ b * ((n + 1 : Nat) : Int)
    omega
/-- what voyages needs of our side: ships told are ships, with berths and passages; who waits -/
def RLv (w : mW) : Prop := (∀ k : Nat, (k : Int) < (w.2.1 75 2).toInt → 0 ≤ (w.2.1 76 k).toInt ∧ (w.2.1 76 k).toInt < (w.2.1 53 3).toInt) ∧ (∀ s : Nat, (s : Int) < (w.2.1 53 3).toInt → 1 ≤ (w.2.1 55 s).toInt ∧ 1 ≤ (w.2.1 56 s).toInt) ∧ ∀ p : Nat, (p : Int) < (w.2.1 75 3).toInt → 0 ≤ (w.2.1 78 p).toInt ∧ (w.2.1 78 p).toInt ≤ 999
theorem RLv_keep {w w2 : mW} (h1 : w2.2.1 75 2 = w.2.1 75 2) (h2 : w2.2.1 75 3 = w.2.1 75 3) (h3 : w2.2.1 53 3 = w.2.1 53 3) (h4 : ∀ k, w2.2.1 76 k = w.2.1 76 k) (h5 : ∀ k, w2.2.1 55 k = w.2.1 55 k) (h6 : ∀ k, w2.2.1 56 k = w.2.1 56 k) (h7 : ∀ k, w2.2.1 78 k = w.2.1 78 k) (h : RLv w) : RLv w2 := by
  refine ⟨fun k hk => ?_, fun s hs => ?_, fun p hp => ?_⟩
  · rw [h1] at hk
    rw [h3, h4]
    exact h.1 k hk
  · rw [h3] at hs
    rw [h5, h6]
    exact h.2.1 s hs
  · rw [h2] at hp
    rw [h7]
    exact h.2.2 p hp
/-- the best rows of both sides are alike -/
def RLw (w : mW) : Prop := rwL w.2.1 82 (w.2.1 75 11).toInt.toNat = rwL w.2.1 155 (w.2.1 94 89).toInt.toNat
theorem RLw_keep {w w2 : mW} (h1 : w2.2.1 75 11 = w.2.1 75 11) (h2 : w2.2.1 94 89 = w.2.1 94 89) (h3 : ∀ k, w2.2.1 82 k = w.2.1 82 k) (h4 : ∀ k, w2.2.1 155 k = w.2.1 155 k) (h : RLw w) : RLw w2 := by
  unfold RLw at h ⊢
  rw [h1, h2, rwL_congr (I := w2.2.1) (J := w.2.1) (q := 82) (q' := 82) (fun k _ => h3 k), rwL_congr (I := w2.2.1) (J := w.2.1) (q := 155) (q' := 155) (fun k _ => h4 k)]
  exact h
/-- voyages: refused; none told; or the most men home, with the first best row -/
def Qvy (qs ks qp kp qb kb rb : Nat) (md : aM) (E : Int) (l : List Int) (v : Int32) (w : mW) (r : Option Value) (w' : mW) : Prop := fresh w' ∧ (∃ sh R, wOK (mkT vV []) (wE sh R) w') ∧ (∀ q k, inm md q k = false → w'.2.1 q k = w.2.1 q k) ∧ ((¬ (1 ≤ v.toInt ∧ v.toInt ≤ 200) ∧ r = some (.int (-1)) ∧ w'.2.1 = w.2.1) ∨ ((1 ≤ v.toInt ∧ v.toInt ≤ 200) ∧ ((w.2.1 qs ks).toInt = 0 ∨ (w.2.1 qp kp).toInt = 0) ∧ r = some (.int (-2)) ∧ w'.2.1 = w.2.1) ∨ ((1 ≤ v.toInt ∧ v.toInt ≤ 200) ∧ ¬ ((w.2.1 qs ks).toInt = 0 ∨ (w.2.1 qp kp).toInt = 0) ∧ (∃ y : Int32, r = some (.int y) ∧ y.toInt = E) ∧ w'.2.1 qs ks = 0 ∧ w'.2.1 qp kp = 0 ∧ rwL w'.2.1 rb (w'.2.1 qb kb).toInt.toNat = l))
theorem Qvy_int {qs ks qp kp qb kb rb : Nat} {md : aM} {E : Int} {l : List Int} {v : Int32} {w w' : mW} {r : Option Value} (h : Qvy qs ks qp kp qb kb rb md E l v w r w') : ∃ y : Int32, r = some (.int y) := by
  rcases h.2.2.2 with ⟨-, h, -⟩ | ⟨-, -, h, -⟩ | ⟨-, -, ⟨y, h, -⟩, -⟩
  · exact ⟨_, h⟩
  · exact ⟨_, h⟩
  · exact ⟨y, h⟩
def mdVyC : aM := [(75, some 2), (75, some 3), (75, some 11), (75, some 12), (79, none), (80, none), (81, none), (82, none)]
def mdVyM : aM := [(94, some 79), (94, some 81), (94, some 89), (94, some 90), (94, some 91), (151, none), (152, none), (153, none), (154, none), (155, none)]
def EvC (w : mW) (v : Int32) : Int := yyW (w.2.1 75 2).toInt.toNat (w.2.1 75 3).toInt.toNat (vRow w.2.1 55 76) (vRow w.2.1 56 76) v.toInt (x00 w.2.1 78)
def LvC (w : mW) (v : Int32) : List Int := yyL (w.2.1 75 2).toInt.toNat (w.2.1 75 3).toInt.toNat (vRow w.2.1 55 76) (vRow w.2.1 56 76) v.toInt (x00 w.2.1 78)
def EvM (w : mW) (v : Int32) : Int := yyW (w.2.1 94 79).toInt.toNat (w.2.1 94 81).toInt.toNat (vRow w.2.1 135 148) (vRow w.2.1 136 148) v.toInt (x00 w.2.1 150)
def LvM (w : mW) (v : Int32) : List Int := yyL (w.2.1 94 79).toInt.toNat (w.2.1 94 81).toInt.toNat (vRow w.2.1 135 148) (vRow w.2.1 136 148) v.toInt (x00 w.2.1 150)
theorem vRow_congr {I J : Nat → Nat → Int32} {q t : Nat} (h1 : ∀ k, I q k = J q k) (h2 : ∀ k, I t k = J t k) : vRow I q t = vRow J q t := by
  funext k
  unfold vRow
  rw [h2, h1]
theorem inm_vc {q k : Nat} (h : inm mdVyC q k = false) : inm mdCh q k = false := by
  unfold inm at h ⊢
  rw [List.any_eq_false] at h ⊢
  intro e he
  refine h e ?_
  rcases List.mem_cons.mp he with rfl | he
  · exact List.mem_of_getElem? (i := 2) rfl
  rcases List.mem_cons.mp he with rfl | he
  · exact List.mem_of_getElem? (i := 3) rfl
  rcases List.mem_cons.mp he with rfl | he
  · exact List.mem_of_getElem? (i := 6) rfl
  rcases List.mem_singleton.mp he with rfl
  exact List.mem_of_getElem? (i := 7) rfl
theorem inm_vm {q k : Nat} (h : inm mdVyM q k = false) : inm mdMh q k = false := by
  unfold inm at h ⊢
  rw [List.any_eq_false] at h ⊢
  intro e he
  refine h e ?_
  rcases List.mem_cons.mp he with rfl | he
  · exact List.mem_of_getElem? (i := 2) rfl
  rcases List.mem_cons.mp he with rfl | he
  · exact List.mem_of_getElem? (i := 3) rfl
  rcases List.mem_cons.mp he with rfl | he
  · exact List.mem_of_getElem? (i := 4) rfl
  rcases List.mem_cons.mp he with rfl | he
  · exact List.mem_of_getElem? (i := 8) rfl
  rcases List.mem_singleton.mp he with rfl
  exact List.mem_of_getElem? (i := 9) rfl
theorem plan1_lp {d : Nat} {sh : List mE} {J : Nat → Nat → Int32} {L : Nat → Nat → Int64} {R : Nat → Nat → Option Nat} {ma mc dv : Int32} {Q : Option Value → mW → Prop} (hS : stC J ma mc) (hv : 1 ≤ dv.toInt ∧ dv.toInt ≤ 200) : ∀ (z : Nat) {I : Nat → Nat → Int32} (k b : Int32), 0 ≤ k.toInt → k.toInt ≤ ma.toInt → ma.toInt - k.toInt < z → wOK (mkT vV []) (wE sh R) (sh, I, L, R) → fresh (sh, I, L, R) → (∀ q j, ¬ q = 79 → ¬ q = 80 → I q j = J q j) → (∀ j : Nat, (j : Int) < k.toInt → (I 79 j).toInt = vMx dv.toInt (vRow J 56 76 j) ∧ I 80 j = 0) → (b.toInt = yyQ (vRow J 55 76) (fun k => vMx dv.toInt (vRow J 56 76 k)) ((fun _ => 0, fun _ => 0, fun _ => false) : yySt) k.toInt.toNat ∧ b.toInt ≤ 180 * k.toInt ∧ 0 ≤ b.toInt) → (∀ {I : Nat → Nat → Int32} {b : Int32}, wOK (mkT vV []) (wE sh R) (sh, I, L, R) → fresh (sh, I, L, R) → (∀ q j, ¬ q = 79 → ¬ q = 80 → I q j = J q j) → (∀ j : Nat, (j : Int) < ma.toInt → (I 79 j).toInt = vMx dv.toInt (vRow J 56 76 j) ∧ I 80 j = 0) → (b.toInt = yyQ (vRow J 55 76) (fun k => vMx dv.toInt (vRow J 56 76 k)) ((fun _ => 0, fun _ => 0, fun _ => false) : yySt) ma.toInt.toNat ∧ b.toInt ≤ 180 * ma.toInt.toNat ∧ 0 ≤ b.toInt) → ∀ k : Int32, XW 183 mr_183 none (d + 13) 0 0 Q (115, [(3, .int k), (2, .int b), (1, .int dv), (0, .ref 75)], [], (sh, I, L, R))) → XW 183 mr_183 none (d + 13) 0 0 Q (34, [(3, .int k), (2, .int b), (1, .int dv), (0, .ref 75)], [], (sh, I, L, R)) := by
  have z0 : (0 : Int32).toInt = 0 := rfl
  have z1 : (1 : Int32).toInt = 1 := rfl
  have z2 : (2 : Int32).toInt = 2 := rfl
  have z3 : (3 : Int32).toInt = 3 := rfl
  obtain ⟨⟨hc2, hc3⟩, ha, hc', hS4⟩ := id hS
  intro z
  induction z with
  | zero =>
    intro I k b h1 h2 hz
    exfalso
    omega
  | succ z ih =>
    intro I k b h1 h2 hz hw hf hkp hin hb K
    have hb1 := hb.2
    have em : I 75 2 = ma := (hkp 75 2 (by decide) (by decide)).trans hc2
    obtain ⟨sv, esv⟩ : ∃ z : Int32, I 76 (k).toNatClampNeg = z := ⟨_, rfl⟩
    have c53 : sh[53]? = some (.inr 7) := hw.1 53 _ rfl
    have c75 : sh[75]? = some (.inr 9) := hw.1 75 _ rfl
    have c76 : sh[76]? = some (.inl (.int, 3)) := hw.1 76 _ rfl
    have c79 : sh[79]? = some (.inl (.int, 3)) := hw.1 79 _ rfl
    have c80 : sh[80]? = some (.inl (.int, 3)) := hw.1 80 _ rfl
    have r75_1 : R 75 1 = some 53 := hw.2.1 75 1 _ rfl
    have r75_4 : R 75 4 = some 76 := hw.2.1 75 4 _ rfl
    have r75_7 : R 75 7 = some 79 := hw.2.1 75 7 _ rfl
    have r75_8 : R 75 8 = some 80 := hw.2.1 75 8 _ rfl
    refine XW.fam (S' := (35, [(3, .int k), (2, .int b), (1, .int dv), (0, .ref 75)], [.int k], (sh, I, L, R))) (M := mr_183) rfl (show mcode 183 34 = some (34, .iload_n 3, 1, 0, 0, 0, _) from rfl) (Or.inl ⟨.int k, rfl, rfl⟩) ?_
    refine XW.fam (S' := (36, [(3, .int k), (2, .int b), (1, .int dv), (0, .ref 75)], [.ref 75, .int k], (sh, I, L, R))) (M := mr_183) rfl (show mcode 183 35 = some (35, .aload_n 0, 1, 0, 0, 0, _) from rfl) (Or.inl ⟨.ref 75, rfl, rfl⟩) ?_
    refine XW.fam (S' := (39, [(3, .int k), (2, .int b), (1, .int dv), (0, .ref 75)], [.int (I 75 2), .int k], (sh, I, L, R))) (M := mr_183) rfl (show mcode 183 36 = some (36, .getfield 60, 3, 9, 2, 0, _) from rfl) (Or.inr (Or.inr (Or.inr (Or.inr (Or.inr (Or.inr (Or.inr (Or.inl ⟨_, _, rfl, fl_ldI c75 (by decide) (by decide), rfl⟩)))))))) ?_
    rw [em]
    cases k1 : bcmp .ge k ma with
    | true =>
      have gk1 : (ma).toInt ≤ (k).toInt := icT (c := .ge) (a := (k).toInt) (b := (ma).toInt) rfl rfl k1
      refine XW.fam (S' := (115, [(3, .int k), (2, .int b), (1, .int dv), (0, .ref 75)], [], (sh, I, L, R))) (M := mr_183) rfl (show mcode 183 39 = some (39, .if_icmp .ge 76, 3, 115, 0, 0, _) from rfl) (Or.inr (Or.inl ⟨115, [], by simp [brn, k1], rfl⟩)) ?_
      have ek : k.toInt.toNat = ma.toInt.toNat := by omega
      rw [ek] at hb
      exact K hw hf hkp (fun j hj => hin j (by omega)) ⟨hb.1, by omega, hb.2.2⟩ k
    | false =>
      have gk1 : ¬ ((ma).toInt ≤ (k).toInt) := icF (c := .ge) (a := (k).toInt) (b := (ma).toInt) rfl rfl k1
      refine XW.fam (S' := (42, [(3, .int k), (2, .int b), (1, .int dv), (0, .ref 75)], [], (sh, I, L, R))) (M := mr_183) rfl (show mcode 183 39 = some (39, .if_icmp .ge 76, 3, 115, 0, 0, _) from rfl) (Or.inr (Or.inl ⟨42, [], by simp [brn, k1], rfl⟩)) ?_
      have kn : (k).toNatClampNeg = k.toInt.toNat := rfl
      have hbk := (hS.2.2.2 (k).toNatClampNeg (by omega))
      have esj : sv = J 76 (k).toNatClampNeg := by rw [← esv]; exact hkp 76 _ (by decide) (by decide)
      refine XW.fam (S' := (43, [(3, .int k), (2, .int b), (1, .int dv), (0, .ref 75)], [.int 1], (sh, I, L, R))) (M := mr_183) rfl (show mcode 183 42 = some (42, .iconst 1, 1, 0, 0, 0, _) from rfl) (Or.inl ⟨.int 1, rfl, rfl⟩) ?_
      refine XW.fam (S' := (44, [(3, .int k), (2, .int b), (1, .int dv), (0, .ref 75)], [.ref 75, .int 1], (sh, I, L, R))) (M := mr_183) rfl (show mcode 183 43 = some (43, .aload_n 0, 1, 0, 0, 0, _) from rfl) (Or.inl ⟨.ref 75, rfl, rfl⟩) ?_
      refine XW.fam (S' := (47, [(3, .int k), (2, .int b), (1, .int dv), (0, .ref 75)], [.ref 53, .int 1], (sh, I, L, R))) (M := mr_183) rfl (show mcode 183 44 = some (44, .getfield 37, 3, 9, 1, 0, _) from rfl) (Or.inr (Or.inr (Or.inr (Or.inr (Or.inr (Or.inr (Or.inr (Or.inl ⟨_, _, rfl, fl_ld c75 r75_1 (by decide) (by decide), rfl⟩)))))))) ?_
      refine XW.fam (S' := (48, [(3, .int k), (2, .int b), (1, .int dv), (0, .ref 75)], [.ref 75, .ref 53, .int 1], (sh, I, L, R))) (M := mr_183) rfl (show mcode 183 47 = some (47, .aload_n 0, 1, 0, 0, 0, _) from rfl) (Or.inl ⟨.ref 75, rfl, rfl⟩) ?_
      refine XW.fam (S' := (51, [(3, .int k), (2, .int b), (1, .int dv), (0, .ref 75)], [.ref 76, .ref 53, .int 1], (sh, I, L, R))) (M := mr_183) rfl (show mcode 183 48 = some (48, .getfield 11, 3, 9, 4, 0, _) from rfl) (Or.inr (Or.inr (Or.inr (Or.inr (Or.inr (Or.inr (Or.inr (Or.inl ⟨_, _, rfl, fl_ld c75 r75_4 (by decide) (by decide), rfl⟩)))))))) ?_
      refine XW.fam (S' := (52, [(3, .int k), (2, .int b), (1, .int dv), (0, .ref 75)], [.int k, .ref 76, .ref 53, .int 1], (sh, I, L, R))) (M := mr_183) rfl (show mcode 183 51 = some (51, .iload_n 3, 1, 0, 0, 0, _) from rfl) (Or.inl ⟨.int k, rfl, rfl⟩) ?_
      have hin2 : inR k 3 = true := inR_of (by omega) (by omega)
      refine XW.fam (S' := (53, [(3, .int k), (2, .int b), (1, .int dv), (0, .ref 75)], [.int (I 76 (k).toNatClampNeg), .ref 53, .int 1], (sh, I, L, R))) (M := mr_183) rfl (show mcode 183 52 = some (52, .iaload, 1, 0, 0, 0, _) from rfl) (Or.inr (Or.inr (Or.inl ⟨_, lda_i c76 hin2, rfl⟩))) ?_
      rw [esv]
      refine XW.call (d' := d + 1) (mc' := 0) (ms' := 0) (av := [.ref 53, .int sv]) (rest := [.int 1]) (M := mr_183) (Ma := mr_184) rfl (show mcode 183 53 = some (53, .invokevirtual 75, 3, 184, 0, 0, _) from rfl) rfl (by decide) (by decide) ⟨rfl, 53, _, rfl, c53⟩ rfl rfl (show 1 ≤ 8 by decide) (tc_po (d := d) hw (by rw [esj, hkp 53 3 (by decide) (by decide)]; exact hbk.1)) (by omega) (Nat.zero_le _) (Nat.zero_le _) (fun rQ3 wQ3 Q3 => ?_)
      obtain ⟨rfl, rfl⟩ := Q3
      obtain ⟨pas, epas⟩ : ∃ z : Int32, I 56 sv.toNatClampNeg = z := ⟨_, rfl⟩
      rw [epas]
      have hpas : pas.toInt = vRow J 56 76 (k).toNatClampNeg := by
        rw [← epas, esj, hkp 56 _ (by decide) (by decide)]
        exact (vRow_of hbk.2.2.1).symm
      refine XW.call (d' := d) (mc' := 0) (ms' := 0) (av := [.int 1, .int pas]) (rest := []) (M := mr_183) (Ma := mr_22) rfl (show mcode 183 56 = some (56, .invokestatic 78, 3, 22, 0, 0, _) from rfl) rfl (by decide) (by decide) rfl rfl rfl (show 0 ≤ 8 by decide) (tc_max) (by omega) (Nat.zero_le _) (Nat.zero_le _) (fun rQ4 wQ4 Q4 => ?_)
      obtain ⟨rfl, rfl⟩ := Q4
      obtain ⟨pm, epm⟩ : ∃ z : Int32, z = (if (1 : Int32) < pas then pas else 1) := ⟨_, rfl⟩
      rw [← epm]
      have tpm := maxI epm
      have hpm : pm.toInt = vRow J 56 76 (k).toNatClampNeg := by
        rw [tpm]
        have z1 : (1 : Int32).toInt = 1 := rfl
        rw [z1, hpas]
        have := vRow_ge (J := J) (q := 56) (t := 76) (k := (k).toNatClampNeg)
        split <;> omega
      have hp1 := vRow_ge (J := J) (q := 56) (t := 76) (k := (k).toNatClampNeg)
      have hnz : ¬ pm = 0 := fun e => by rw [e] at hpm; have z0 : (0 : Int32).toInt = 0 := rfl; omega
      have g1 : (dv / pm).toInt = dv.toInt / vRow J 56 76 (k).toNatClampNeg := by
        rw [div32 (by omega), hpm]
        exact Int.tdiv_eq_ediv_of_nonneg (by omega)
      have g2 : 0 ≤ dv.toInt / vRow J 56 76 (k).toNatClampNeg ∧ dv.toInt / vRow J 56 76 (k).toNatClampNeg ≤ dv.toInt := ⟨Int.ediv_nonneg (by omega) (by omega), Int.ediv_le_self _ (by omega)⟩
      have g3 := inc32 (m := dv / pm) (by omega) (by omega)
      have g4 : ((dv / pm + 1) / 2).toInt = (dv.toInt / vRow J 56 76 (k).toNatClampNeg + 1) / 2 := by
        have z2 : (2 : Int32).toInt = 2 := rfl
        rw [div32 (y := 2) (by decide), z2, g3, g1]
        exact Int.tdiv_eq_ediv_of_nonneg (by omega)
      refine XW.fam (S' := (61, [(4, .int pm), (3, .int k), (2, .int b), (1, .int dv), (0, .ref 75)], [], (sh, I, L, R))) (M := mr_183) rfl (show mcode 183 59 = some (59, .istore 4, 2, 0, 0, 0, _) from rfl) (Or.inr (Or.inr (Or.inr (Or.inr (Or.inr (Or.inr (Or.inl ⟨_, [], _, rfl, rfl, rfl⟩))))))) ?_
      refine XW.fam (S' := (62, [(4, .int pm), (3, .int k), (2, .int b), (1, .int dv), (0, .ref 75)], [.ref 75], (sh, I, L, R))) (M := mr_183) rfl (show mcode 183 61 = some (61, .aload_n 0, 1, 0, 0, 0, _) from rfl) (Or.inl ⟨.ref 75, rfl, rfl⟩) ?_
      refine XW.fam (S' := (65, [(4, .int pm), (3, .int k), (2, .int b), (1, .int dv), (0, .ref 75)], [.ref 79], (sh, I, L, R))) (M := mr_183) rfl (show mcode 183 62 = some (62, .getfield 21, 3, 9, 7, 0, _) from rfl) (Or.inr (Or.inr (Or.inr (Or.inr (Or.inr (Or.inr (Or.inr (Or.inl ⟨_, _, rfl, fl_ld c75 r75_7 (by decide) (by decide), rfl⟩)))))))) ?_
      refine XW.fam (S' := (66, [(4, .int pm), (3, .int k), (2, .int b), (1, .int dv), (0, .ref 75)], [.int k, .ref 79], (sh, I, L, R))) (M := mr_183) rfl (show mcode 183 65 = some (65, .iload_n 3, 1, 0, 0, 0, _) from rfl) (Or.inl ⟨.int k, rfl, rfl⟩) ?_
      refine XW.fam (S' := (67, [(4, .int pm), (3, .int k), (2, .int b), (1, .int dv), (0, .ref 75)], [.int 3, .int k, .ref 79], (sh, I, L, R))) (M := mr_183) rfl (show mcode 183 66 = some (66, .iconst 3, 1, 0, 0, 0, _) from rfl) (Or.inl ⟨.int 3, rfl, rfl⟩) ?_
      refine XW.fam (S' := (68, [(4, .int pm), (3, .int k), (2, .int b), (1, .int dv), (0, .ref 75)], [.int dv, .int 3, .int k, .ref 79], (sh, I, L, R))) (M := mr_183) rfl (show mcode 183 67 = some (67, .iload_n 1, 1, 0, 0, 0, _) from rfl) (Or.inl ⟨.int dv, rfl, rfl⟩) ?_
      refine XW.fam (S' := (70, [(4, .int pm), (3, .int k), (2, .int b), (1, .int dv), (0, .ref 75)], [.int pm, .int dv, .int 3, .int k, .ref 79], (sh, I, L, R))) (M := mr_183) rfl (show mcode 183 68 = some (68, .iload 4, 2, 0, 0, 0, _) from rfl) (Or.inl ⟨.int pm, rfl, rfl⟩) ?_
      refine XW.fam (S' := (71, [(4, .int pm), (3, .int k), (2, .int b), (1, .int dv), (0, .ref 75)], [.int (dv / pm), .int 3, .int k, .ref 79], (sh, I, L, R))) (M := mr_183) rfl (show mcode 183 70 = some (70, .idiv, 1, 0, 0, 0, _) from rfl) (Or.inr (Or.inr (Or.inr (Or.inr (Or.inr (Or.inl ⟨_, stk_bin (by simp only [ibin]; rw [if_neg (hnz)]), rfl⟩)))))) ?_
      refine XW.fam (S' := (72, [(4, .int pm), (3, .int k), (2, .int b), (1, .int dv), (0, .ref 75)], [.int 1, .int (dv / pm), .int 3, .int k, .ref 79], (sh, I, L, R))) (M := mr_183) rfl (show mcode 183 71 = some (71, .iconst 1, 1, 0, 0, 0, _) from rfl) (Or.inl ⟨.int 1, rfl, rfl⟩) ?_
      refine XW.fam (S' := (73, [(4, .int pm), (3, .int k), (2, .int b), (1, .int dv), (0, .ref 75)], [.int ((dv / pm) + 1), .int 3, .int k, .ref 79], (sh, I, L, R))) (M := mr_183) rfl (show mcode 183 72 = some (72, .iadd, 1, 0, 0, 0, _) from rfl) (Or.inr (Or.inr (Or.inr (Or.inr (Or.inr (Or.inl ⟨_, rfl, rfl⟩)))))) ?_
      refine XW.fam (S' := (74, [(4, .int pm), (3, .int k), (2, .int b), (1, .int dv), (0, .ref 75)], [.int 2, .int ((dv / pm) + 1), .int 3, .int k, .ref 79], (sh, I, L, R))) (M := mr_183) rfl (show mcode 183 73 = some (73, .iconst 2, 1, 0, 0, 0, _) from rfl) (Or.inl ⟨.int 2, rfl, rfl⟩) ?_
      refine XW.fam (S' := (75, [(4, .int pm), (3, .int k), (2, .int b), (1, .int dv), (0, .ref 75)], [.int (((dv / pm) + 1) / 2), .int 3, .int k, .ref 79], (sh, I, L, R))) (M := mr_183) rfl (show mcode 183 74 = some (74, .idiv, 1, 0, 0, 0, _) from rfl) (Or.inr (Or.inr (Or.inr (Or.inr (Or.inr (Or.inl ⟨_, stk_bin (by simp only [ibin]; rw [if_neg (by decide)]), rfl⟩)))))) ?_
      refine XW.call (d' := d) (mc' := 0) (ms' := 0) (av := [.int 3, .int (((dv / pm) + 1) / 2)]) (rest := [.int k, .ref 79]) (M := mr_183) (Ma := mr_21) rfl (show mcode 183 75 = some (75, .invokestatic 83, 3, 21, 0, 0, _) from rfl) rfl (by decide) (by decide) rfl rfl rfl (show 2 ≤ 8 by decide) (tc_min) (by omega) (Nat.zero_le _) (Nat.zero_le _) (fun rQ5 wQ5 Q5 => ?_)
      obtain ⟨rfl, rfl⟩ := Q5
      obtain ⟨mv, emv⟩ : ∃ z : Int32, z = (if (((dv / pm) + 1) / 2) < (3 : Int32) then (((dv / pm) + 1) / 2) else 3) := ⟨_, rfl⟩
      rw [← emv]
      have tmv := minI emv
      have hmv : mv.toInt = vMx dv.toInt (vRow J 56 76 (k).toNatClampNeg) := by
        have z3 : (3 : Int32).toInt = 3 := rfl
        rw [tmv, g4, z3]
        unfold vMx
        split <;> split <;> omega
      have hmr := vMx_rng (d := dv.toInt) (p := vRow J 56 76 (k).toNatClampNeg) (by omega) (by omega)
      rw [← hmv] at hmr
      have hin6 : inR k 3 = true := inR_of (by omega) (by omega)
      obtain ⟨I7, eI7⟩ : ∃ X, X = up2 I 79 (k).toNatClampNeg mv := ⟨_, rfl⟩
      refine XW.fam (S' := (79, [(4, .int pm), (3, .int k), (2, .int b), (1, .int dv), (0, .ref 75)], [], (sh, I7, L, R))) (M := mr_183) rfl (show mcode 183 78 = some (78, .iastore, 1, 0, 0, 0, _) from rfl) (Or.inr (Or.inr (Or.inr (Or.inl ⟨_, _, by rw [eI7]; exact sta_i c79 hin6, rfl⟩)))) ?_
      have xb := i32b (mv)
      unfold lo32 hi32 at xb
      have hwI7 : wOK (mkT vV []) (wE sh R) (sh, I7, L, R) := by rw [eI7]; exact wOK_u2 (q := 79) (k := (k).toNatClampNeg) (x := mv) wE_put hw rfl (by show ((-2147483648) : Int) ≤ _; omega) (by show _ ≤ (2147483647 : Int); omega)
      have hfI7 : fresh (sh, I7, L, R) := by rw [eI7]; exact fresh_I hf c79
      have v8 : I7 75 2 = ma := by rw [eI7, up2_ne (fun e => by cases e.1)]; exact em
      have v9 : I7 76 (k).toNatClampNeg = sv := by rw [eI7, up2_ne (fun e => by cases e.1)]; exact esv
      have v10 : I7 79 (k).toNatClampNeg = mv := by rw [eI7]; exact up2_eq
      refine XW.fam (S' := (80, [(4, .int pm), (3, .int k), (2, .int b), (1, .int dv), (0, .ref 75)], [.ref 75], (sh, I7, L, R))) (M := mr_183) rfl (show mcode 183 79 = some (79, .aload_n 0, 1, 0, 0, 0, _) from rfl) (Or.inl ⟨.ref 75, rfl, rfl⟩) ?_
      refine XW.fam (S' := (83, [(4, .int pm), (3, .int k), (2, .int b), (1, .int dv), (0, .ref 75)], [.ref 80], (sh, I7, L, R))) (M := mr_183) rfl (show mcode 183 80 = some (80, .getfield 24, 3, 9, 8, 0, _) from rfl) (Or.inr (Or.inr (Or.inr (Or.inr (Or.inr (Or.inr (Or.inr (Or.inl ⟨_, _, rfl, fl_ld c75 r75_8 (by decide) (by decide), rfl⟩)))))))) ?_
      refine XW.fam (S' := (84, [(4, .int pm), (3, .int k), (2, .int b), (1, .int dv), (0, .ref 75)], [.int k, .ref 80], (sh, I7, L, R))) (M := mr_183) rfl (show mcode 183 83 = some (83, .iload_n 3, 1, 0, 0, 0, _) from rfl) (Or.inl ⟨.int k, rfl, rfl⟩) ?_
      refine XW.fam (S' := (85, [(4, .int pm), (3, .int k), (2, .int b), (1, .int dv), (0, .ref 75)], [.int 0, .int k, .ref 80], (sh, I7, L, R))) (M := mr_183) rfl (show mcode 183 84 = some (84, .iconst 0, 1, 0, 0, 0, _) from rfl) (Or.inl ⟨.int 0, rfl, rfl⟩) ?_
      have hin11 : inR k 3 = true := inR_of (by omega) (by omega)
      obtain ⟨I12, eI12⟩ : ∃ X, X = up2 I7 80 (k).toNatClampNeg 0 := ⟨_, rfl⟩
      refine XW.fam (S' := (86, [(4, .int pm), (3, .int k), (2, .int b), (1, .int dv), (0, .ref 75)], [], (sh, I12, L, R))) (M := mr_183) rfl (show mcode 183 85 = some (85, .iastore, 1, 0, 0, 0, _) from rfl) (Or.inr (Or.inr (Or.inr (Or.inl ⟨_, _, by rw [eI12]; exact sta_i c80 hin11, rfl⟩)))) ?_
      have xb := i32b (0)
      unfold lo32 hi32 at xb
      have hwI12 : wOK (mkT vV []) (wE sh R) (sh, I12, L, R) := by rw [eI12]; exact wOK_u2 (q := 80) (k := (k).toNatClampNeg) (x := 0) wE_put hwI7 rfl (by show ((-2147483648) : Int) ≤ _; omega) (by show _ ≤ (2147483647 : Int); omega)
      have hfI12 : fresh (sh, I12, L, R) := by rw [eI12]; exact fresh_I hfI7 c80
      have v13 : I12 75 2 = ma := by rw [eI12, up2_ne (fun e => by cases e.1)]; exact v8
      have v14 : I12 76 (k).toNatClampNeg = sv := by rw [eI12, up2_ne (fun e => by cases e.1)]; exact v9
      have v15 : I12 79 (k).toNatClampNeg = mv := by rw [eI12, up2_ne (fun e => by cases e.1)]; exact v10
      have v16 : I12 80 (k).toNatClampNeg = 0 := by rw [eI12]; exact up2_eq
      refine XW.fam (S' := (87, [(4, .int pm), (3, .int k), (2, .int b), (1, .int dv), (0, .ref 75)], [.int b], (sh, I12, L, R))) (M := mr_183) rfl (show mcode 183 86 = some (86, .iload_n 2, 1, 0, 0, 0, _) from rfl) (Or.inl ⟨.int b, rfl, rfl⟩) ?_
      refine XW.fam (S' := (88, [(4, .int pm), (3, .int k), (2, .int b), (1, .int dv), (0, .ref 75)], [.ref 75, .int b], (sh, I12, L, R))) (M := mr_183) rfl (show mcode 183 87 = some (87, .aload_n 0, 1, 0, 0, 0, _) from rfl) (Or.inl ⟨.ref 75, rfl, rfl⟩) ?_
      refine XW.fam (S' := (91, [(4, .int pm), (3, .int k), (2, .int b), (1, .int dv), (0, .ref 75)], [.ref 79, .int b], (sh, I12, L, R))) (M := mr_183) rfl (show mcode 183 88 = some (88, .getfield 21, 3, 9, 7, 0, _) from rfl) (Or.inr (Or.inr (Or.inr (Or.inr (Or.inr (Or.inr (Or.inr (Or.inl ⟨_, _, rfl, fl_ld c75 r75_7 (by decide) (by decide), rfl⟩)))))))) ?_
      refine XW.fam (S' := (92, [(4, .int pm), (3, .int k), (2, .int b), (1, .int dv), (0, .ref 75)], [.int k, .ref 79, .int b], (sh, I12, L, R))) (M := mr_183) rfl (show mcode 183 91 = some (91, .iload_n 3, 1, 0, 0, 0, _) from rfl) (Or.inl ⟨.int k, rfl, rfl⟩) ?_
      have hin17 : inR k 3 = true := inR_of (by omega) (by omega)
      refine XW.fam (S' := (93, [(4, .int pm), (3, .int k), (2, .int b), (1, .int dv), (0, .ref 75)], [.int (I12 79 (k).toNatClampNeg), .int b], (sh, I12, L, R))) (M := mr_183) rfl (show mcode 183 92 = some (92, .iaload, 1, 0, 0, 0, _) from rfl) (Or.inr (Or.inr (Or.inl ⟨_, lda_i c79 hin17, rfl⟩))) ?_
      rw [v15]
      refine XW.fam (S' := (94, [(4, .int pm), (3, .int k), (2, .int b), (1, .int dv), (0, .ref 75)], [.ref 75, .int mv, .int b], (sh, I12, L, R))) (M := mr_183) rfl (show mcode 183 93 = some (93, .aload_n 0, 1, 0, 0, 0, _) from rfl) (Or.inl ⟨.ref 75, rfl, rfl⟩) ?_
      refine XW.fam (S' := (97, [(4, .int pm), (3, .int k), (2, .int b), (1, .int dv), (0, .ref 75)], [.ref 53, .int mv, .int b], (sh, I12, L, R))) (M := mr_183) rfl (show mcode 183 94 = some (94, .getfield 37, 3, 9, 1, 0, _) from rfl) (Or.inr (Or.inr (Or.inr (Or.inr (Or.inr (Or.inr (Or.inr (Or.inl ⟨_, _, rfl, fl_ld c75 r75_1 (by decide) (by decide), rfl⟩)))))))) ?_
      refine XW.fam (S' := (98, [(4, .int pm), (3, .int k), (2, .int b), (1, .int dv), (0, .ref 75)], [.ref 75, .ref 53, .int mv, .int b], (sh, I12, L, R))) (M := mr_183) rfl (show mcode 183 97 = some (97, .aload_n 0, 1, 0, 0, 0, _) from rfl) (Or.inl ⟨.ref 75, rfl, rfl⟩) ?_
      refine XW.fam (S' := (101, [(4, .int pm), (3, .int k), (2, .int b), (1, .int dv), (0, .ref 75)], [.ref 76, .ref 53, .int mv, .int b], (sh, I12, L, R))) (M := mr_183) rfl (show mcode 183 98 = some (98, .getfield 11, 3, 9, 4, 0, _) from rfl) (Or.inr (Or.inr (Or.inr (Or.inr (Or.inr (Or.inr (Or.inr (Or.inl ⟨_, _, rfl, fl_ld c75 r75_4 (by decide) (by decide), rfl⟩)))))))) ?_
      refine XW.fam (S' := (102, [(4, .int pm), (3, .int k), (2, .int b), (1, .int dv), (0, .ref 75)], [.int k, .ref 76, .ref 53, .int mv, .int b], (sh, I12, L, R))) (M := mr_183) rfl (show mcode 183 101 = some (101, .iload_n 3, 1, 0, 0, 0, _) from rfl) (Or.inl ⟨.int k, rfl, rfl⟩) ?_
      have hin18 : inR k 3 = true := inR_of (by omega) (by omega)
      refine XW.fam (S' := (103, [(4, .int pm), (3, .int k), (2, .int b), (1, .int dv), (0, .ref 75)], [.int (I12 76 (k).toNatClampNeg), .ref 53, .int mv, .int b], (sh, I12, L, R))) (M := mr_183) rfl (show mcode 183 102 = some (102, .iaload, 1, 0, 0, 0, _) from rfl) (Or.inr (Or.inr (Or.inl ⟨_, lda_i c76 hin18, rfl⟩))) ?_
      rw [v14]
      refine XW.call (d' := d + 1) (mc' := 0) (ms' := 0) (av := [.ref 53, .int sv]) (rest := [.int mv, .int b]) (M := mr_183) (Ma := mr_185) rfl (show mcode 183 103 = some (103, .invokevirtual 86, 3, 185, 0, 0, _) from rfl) rfl (by decide) (by decide) ⟨rfl, 53, _, rfl, c53⟩ rfl rfl (show 2 ≤ 8 by decide) (tc_bo (d := d) hwI12 (by rw [esj, eI12, up2_ne (fun e => by cases e.1), eI7, up2_ne (fun e => by cases e.1), hkp 53 3 (by decide) (by decide)]; exact hbk.1)) (by omega) (Nat.zero_le _) (Nat.zero_le _) (fun rQ19 wQ19 Q19 => ?_)
      obtain ⟨rfl, rfl⟩ := Q19
      obtain ⟨room, eroom⟩ : ∃ z : Int32, I12 55 sv.toNatClampNeg = z := ⟨_, rfl⟩
      rw [eroom]
      have hroom : room.toInt = vRow J 55 76 (k).toNatClampNeg := by
        rw [← eroom, esj, eI12, up2_ne (fun e => by cases e.1), eI7, up2_ne (fun e => by cases e.1), hkp 55 _ (by decide) (by decide)]
        exact (vRow_of hbk.2.1.1).symm
      refine XW.fam (S' := (107, [(4, .int pm), (3, .int k), (2, .int b), (1, .int dv), (0, .ref 75)], [.int (mv * room), .int b], (sh, I12, L, R))) (M := mr_183) rfl (show mcode 183 106 = some (106, .imul, 1, 0, 0, 0, _) from rfl) (Or.inr (Or.inr (Or.inr (Or.inr (Or.inr (Or.inl ⟨_, rfl, rfl⟩)))))) ?_
      refine XW.fam (S' := (108, [(4, .int pm), (3, .int k), (2, .int b), (1, .int dv), (0, .ref 75)], [.int (b + (mv * room))], (sh, I12, L, R))) (M := mr_183) rfl (show mcode 183 107 = some (107, .iadd, 1, 0, 0, 0, _) from rfl) (Or.inr (Or.inr (Or.inr (Or.inr (Or.inr (Or.inl ⟨_, rfl, rfl⟩)))))) ?_
      refine XW.fam (S' := (109, [(2, .int (b + (mv * room))), (4, .int pm), (3, .int k), (1, .int dv), (0, .ref 75)], [], (sh, I12, L, R))) (M := mr_183) rfl (show mcode 183 108 = some (108, .istore_n 2, 1, 0, 0, 0, _) from rfl) (Or.inr (Or.inr (Or.inr (Or.inr (Or.inr (Or.inr (Or.inl ⟨_, [], _, rfl, rfl, rfl⟩))))))) ?_
      refine XW.fam (S' := (112, [(3, .int (k + Int32.ofInt 1)), (2, .int (b + (mv * room))), (4, .int pm), (1, .int dv), (0, .ref 75)], [], (sh, I12, L, R))) (M := mr_183) rfl (show mcode 183 109 = some (109, .iinc 3 1, 3, 0, 0, 0, _) from rfl) (Or.inr (Or.inr (Or.inr (Or.inr (Or.inr (Or.inr (Or.inr (Or.inr (Or.inr ⟨3, 1, k, rfl, rfl, by decide, rfl⟩))))))))) ?_
      refine XW.fam (S' := (34, [(3, .int (k + Int32.ofInt 1)), (2, .int (b + (mv * room))), (4, .int pm), (1, .int dv), (0, .ref 75)], [], (sh, I12, L, R))) (M := mr_183) rfl (show mcode 183 112 = some (112, .goto (-78), 3, 34, 0, 0, _) from rfl) (Or.inr (Or.inl ⟨34, [], rfl, rfl⟩)) ?_
      have eo := incO (m := k) (by omega) (by omega)
      have en : (k + Int32.ofInt 1).toInt.toNat = k.toInt.toNat + 1 := by omega
      have hB : vRow J 55 76 (k).toNatClampNeg = (J 55 (J 76 (k).toNatClampNeg).toNatClampNeg).toInt := vRow_of hbk.2.1.1
      have m0 : 0 ≤ mv.toInt * room.toInt := Int.mul_nonneg (by omega) (by omega)
      have m1 : mv.toInt * room.toInt ≤ 3 * 60 := Int.mul_le_mul (by omega) (by omega) (by omega) (by decide)
      have m2 : (mv * room).toInt = mv.toInt * room.toInt := mul_i (by unfold lo32; omega) (by unfold hi32; omega)
      have es := sumS (a := b) (b := mv * room) (by omega) (by omega)
      refine XW.sub (ls' := [(3, .int (k + Int32.ofInt 1)), (2, .int (b + (mv * room))), (1, .int dv), (0, .ref 75)]) (List.forall_mem_cons.mpr ⟨List.mem_of_getElem? (i := 0) rfl, (List.forall_mem_cons.mpr ⟨List.mem_of_getElem? (i := 1) rfl, (List.forall_mem_cons.mpr ⟨List.mem_of_getElem? (i := 3) rfl, (List.forall_mem_cons.mpr ⟨List.mem_of_getElem? (i := 4) rfl, (fun _ h => absurd h List.not_mem_nil)⟩)⟩)⟩)⟩) ?_
      refine ih (k + Int32.ofInt 1) (b + (mv * room)) (by omega) (by omega) (by omega) hwI12 hfI12 (fun q j a1 a2 => by rw [eI12, up2_ne (fun e => a2 e.1), eI7, up2_ne (fun e => a1 e.1)]; exact hkp q j a1 a2) (fun j hj => ?_) ⟨?_, by omega⟩ K
      · by_cases e : j = k.toInt.toNat
        · rw [e, ← kn]
          refine ⟨?_, ?_⟩
          · rw [eI12, up2_ne (fun e => by cases e.1), eI7, up2_eq]
            exact hmv
          · rw [eI12, up2_eq]
        · rw [eI12, up2_ne (fun z => by cases z.1), eI7, up2_ne (fun z => e (by exact z.2)), up2_ne (fun z => e (by exact z.2)), up2_ne (fun z => by cases z.1)]
          exact hin j (by omega)
      · rw [en, es, m2, hb.1, hmv, hroom]
        show _ = yyQ (vRow J 55 76) (fun k => vMx dv.toInt (vRow J 56 76 k)) ((fun _ => 0, fun _ => 0, fun _ => false) : yySt) k.toInt.toNat + (vMx dv.toInt (vRow J 56 76 k.toInt.toNat) - 0) * vRow J 55 76 k.toInt.toNat
        rw [Int.sub_zero, kn]
theorem plan2_lp {d : Nat} {sh : List mE} {I : Nat → Nat → Int32} {L : Nat → Nat → Int64} {R : Nat → Nat → Option Nat} {mc dv b : Int32} {Q : Option Value → mW → Prop} (hw : wOK (mkT vV []) (wE sh R) (sh, I, L, R)) (em : I 75 3 = mc) (hc : 0 ≤ mc.toInt ∧ mc.toInt ≤ 3) (hw9 : ∀ p : Nat, (p : Int) < mc.toInt → 0 ≤ (I 78 p).toInt ∧ (I 78 p).toInt ≤ 999) : ∀ (z : Nat) (p men : Int32), 0 ≤ p.toInt → p.toInt ≤ mc.toInt → mc.toInt - p.toInt < z → men.toInt = yyT (fun p => (I 78 p).toInt) p.toInt.toNat → (0 ≤ men.toInt ∧ men.toInt ≤ 999 * p.toInt) → (∀ {men : Int32}, men.toInt = yyT (fun p => (I 78 p).toInt) mc.toInt.toNat → (0 ≤ men.toInt ∧ men.toInt ≤ 3000) → ∀ p : Int32, XW 183 mr_183 none (d + 13) 0 0 Q (145, [(4, .int p), (3, .int men), (2, .int b), (1, .int dv), (0, .ref 75)], [], (sh, I, L, R))) → XW 183 mr_183 none (d + 13) 0 0 Q (120, [(4, .int p), (3, .int men), (2, .int b), (1, .int dv), (0, .ref 75)], [], (sh, I, L, R)) := by
  have c75 : sh[75]? = some (.inr 9) := hw.1 75 _ rfl
  have c78 : sh[78]? = some (.inl (.int, 3)) := hw.1 78 _ rfl
  have r75_6 : R 75 6 = some 78 := hw.2.1 75 6 _ rfl
  intro z
  induction z with
  | zero =>
    intro p men h1 h2 hz
    exfalso
    omega
  | succ z ih =>
    intro p men h1 h2 hz hm1 hm2 K
    refine XW.fam (S' := (122, [(4, .int p), (3, .int men), (2, .int b), (1, .int dv), (0, .ref 75)], [.int p], (sh, I, L, R))) (M := mr_183) rfl (show mcode 183 120 = some (120, .iload 4, 2, 0, 0, 0, _) from rfl) (Or.inl ⟨.int p, rfl, rfl⟩) ?_
    refine XW.fam (S' := (123, [(4, .int p), (3, .int men), (2, .int b), (1, .int dv), (0, .ref 75)], [.ref 75, .int p], (sh, I, L, R))) (M := mr_183) rfl (show mcode 183 122 = some (122, .aload_n 0, 1, 0, 0, 0, _) from rfl) (Or.inl ⟨.ref 75, rfl, rfl⟩) ?_
    refine XW.fam (S' := (126, [(4, .int p), (3, .int men), (2, .int b), (1, .int dv), (0, .ref 75)], [.int (I 75 3), .int p], (sh, I, L, R))) (M := mr_183) rfl (show mcode 183 123 = some (123, .getfield 68, 3, 9, 3, 0, _) from rfl) (Or.inr (Or.inr (Or.inr (Or.inr (Or.inr (Or.inr (Or.inr (Or.inl ⟨_, _, rfl, fl_ldI c75 (by decide) (by decide), rfl⟩)))))))) ?_
    rw [em]
    cases k1 : bcmp .ge p mc with
    | true =>
      have gk1 : (mc).toInt ≤ (p).toInt := icT (c := .ge) (a := (p).toInt) (b := (mc).toInt) rfl rfl k1
      refine XW.fam (S' := (145, [(4, .int p), (3, .int men), (2, .int b), (1, .int dv), (0, .ref 75)], [], (sh, I, L, R))) (M := mr_183) rfl (show mcode 183 126 = some (126, .if_icmp .ge 19, 3, 145, 0, 0, _) from rfl) (Or.inr (Or.inl ⟨145, [], by simp [brn, k1], rfl⟩)) ?_
      have ek : p.toInt.toNat = mc.toInt.toNat := by omega
      rw [ek] at hm1
      exact K hm1 (by omega) p
    | false =>
      have gk1 : ¬ ((mc).toInt ≤ (p).toInt) := icF (c := .ge) (a := (p).toInt) (b := (mc).toInt) rfl rfl k1
      refine XW.fam (S' := (129, [(4, .int p), (3, .int men), (2, .int b), (1, .int dv), (0, .ref 75)], [], (sh, I, L, R))) (M := mr_183) rfl (show mcode 183 126 = some (126, .if_icmp .ge 19, 3, 145, 0, 0, _) from rfl) (Or.inr (Or.inl ⟨129, [], by simp [brn, k1], rfl⟩)) ?_
      refine XW.fam (S' := (130, [(4, .int p), (3, .int men), (2, .int b), (1, .int dv), (0, .ref 75)], [.int men], (sh, I, L, R))) (M := mr_183) rfl (show mcode 183 129 = some (129, .iload_n 3, 1, 0, 0, 0, _) from rfl) (Or.inl ⟨.int men, rfl, rfl⟩) ?_
      refine XW.fam (S' := (131, [(4, .int p), (3, .int men), (2, .int b), (1, .int dv), (0, .ref 75)], [.ref 75, .int men], (sh, I, L, R))) (M := mr_183) rfl (show mcode 183 130 = some (130, .aload_n 0, 1, 0, 0, 0, _) from rfl) (Or.inl ⟨.ref 75, rfl, rfl⟩) ?_
      refine XW.fam (S' := (134, [(4, .int p), (3, .int men), (2, .int b), (1, .int dv), (0, .ref 75)], [.ref 78, .int men], (sh, I, L, R))) (M := mr_183) rfl (show mcode 183 131 = some (131, .getfield 18, 3, 9, 6, 0, _) from rfl) (Or.inr (Or.inr (Or.inr (Or.inr (Or.inr (Or.inr (Or.inr (Or.inl ⟨_, _, rfl, fl_ld c75 r75_6 (by decide) (by decide), rfl⟩)))))))) ?_
      refine XW.fam (S' := (136, [(4, .int p), (3, .int men), (2, .int b), (1, .int dv), (0, .ref 75)], [.int p, .ref 78, .int men], (sh, I, L, R))) (M := mr_183) rfl (show mcode 183 134 = some (134, .iload 4, 2, 0, 0, 0, _) from rfl) (Or.inl ⟨.int p, rfl, rfl⟩) ?_
      have hin2 : inR p 3 = true := inR_of (by omega) (by omega)
      refine XW.fam (S' := (137, [(4, .int p), (3, .int men), (2, .int b), (1, .int dv), (0, .ref 75)], [.int (I 78 (p).toNatClampNeg), .int men], (sh, I, L, R))) (M := mr_183) rfl (show mcode 183 136 = some (136, .iaload, 1, 0, 0, 0, _) from rfl) (Or.inr (Or.inr (Or.inl ⟨_, lda_i c78 hin2, rfl⟩))) ?_
      refine XW.fam (S' := (138, [(4, .int p), (3, .int men), (2, .int b), (1, .int dv), (0, .ref 75)], [.int (men + (I 78 (p).toNatClampNeg))], (sh, I, L, R))) (M := mr_183) rfl (show mcode 183 137 = some (137, .iadd, 1, 0, 0, 0, _) from rfl) (Or.inr (Or.inr (Or.inr (Or.inr (Or.inr (Or.inl ⟨_, rfl, rfl⟩)))))) ?_
      refine XW.fam (S' := (139, [(3, .int (men + (I 78 (p).toNatClampNeg))), (4, .int p), (2, .int b), (1, .int dv), (0, .ref 75)], [], (sh, I, L, R))) (M := mr_183) rfl (show mcode 183 138 = some (138, .istore_n 3, 1, 0, 0, 0, _) from rfl) (Or.inr (Or.inr (Or.inr (Or.inr (Or.inr (Or.inr (Or.inl ⟨_, [], _, rfl, rfl, rfl⟩))))))) ?_
      refine XW.fam (S' := (142, [(4, .int (p + Int32.ofInt 1)), (3, .int (men + (I 78 (p).toNatClampNeg))), (2, .int b), (1, .int dv), (0, .ref 75)], [], (sh, I, L, R))) (M := mr_183) rfl (show mcode 183 139 = some (139, .iinc 4 1, 3, 0, 0, 0, _) from rfl) (Or.inr (Or.inr (Or.inr (Or.inr (Or.inr (Or.inr (Or.inr (Or.inr (Or.inr ⟨4, 1, p, rfl, rfl, by decide, rfl⟩))))))))) ?_
      refine XW.fam (S' := (120, [(4, .int (p + Int32.ofInt 1)), (3, .int (men + (I 78 (p).toNatClampNeg))), (2, .int b), (1, .int dv), (0, .ref 75)], [], (sh, I, L, R))) (M := mr_183) rfl (show mcode 183 142 = some (142, .goto (-22), 3, 120, 0, 0, _) from rfl) (Or.inr (Or.inl ⟨120, [], rfl, rfl⟩)) ?_
      have eo := incO (m := p) (by omega) (by omega)
      have en : (p + Int32.ofInt 1).toInt.toNat = p.toInt.toNat + 1 := by omega
      have pn : (p).toNatClampNeg = p.toInt.toNat := rfl
      have hW := hw9 (p).toNatClampNeg (by omega)
      have es := sumS (a := men) (b := I 78 (p).toNatClampNeg) (by omega) (by omega)
      refine XW.sub (ls' := [(4, .int (p + Int32.ofInt 1)), (3, .int (men + (I 78 (p).toNatClampNeg))), (2, .int b), (1, .int dv), (0, .ref 75)]) (List.forall_mem_cons.mpr ⟨List.mem_of_getElem? (i := 0) rfl, (List.forall_mem_cons.mpr ⟨List.mem_of_getElem? (i := 1) rfl, (List.forall_mem_cons.mpr ⟨List.mem_of_getElem? (i := 2) rfl, (List.forall_mem_cons.mpr ⟨List.mem_of_getElem? (i := 3) rfl, (List.forall_mem_cons.mpr ⟨List.mem_of_getElem? (i := 4) rfl, (fun _ h => absurd h List.not_mem_nil)⟩)⟩)⟩)⟩)⟩) ?_
      refine ih (p + Int32.ofInt 1) (men + (I 78 (p).toNatClampNeg)) (by omega) (by omega) (by omega) ?_ (by omega) K
      rw [en, es, hm1]
      rfl
theorem stC_of {I J : Nat → Nat → Int32} {ma mc : Int32} (h2 : I 75 2 = J 75 2) (h3 : I 75 3 = J 75 3) (h53 : I 53 3 = J 53 3) (h76 : ∀ k, I 76 k = J 76 k) (h55 : ∀ k, I 55 k = J 55 k) (h56 : ∀ k, I 56 k = J 56 k) (h : stC J ma mc) : stC I ma mc := by
  obtain ⟨⟨a1, a2⟩, a3, a4, a5⟩ := h
  refine ⟨⟨h2.trans a1, h3.trans a2⟩, a3, a4, fun k hk => ?_⟩
  rw [h76, h53, h55, h56]
  exact a5 k hk
theorem dyC_0 {I : Nat → Nat → Int32} {ma mc men b dv : Int32} (hS : stC I ma mc) (hv : 1 ≤ dv.toInt ∧ dv.toInt ≤ 200) (h79 : ∀ j : Nat, (j : Int) < ma.toInt → (I 79 j).toInt = vMx dv.toInt (vRow I 56 76 j) ∧ I 80 j = 0) (h78 : ∀ p : Nat, (p : Int) < mc.toInt → 0 ≤ (I 78 p).toInt) (hm : men.toInt = yyT (fun p => (I 78 p).toInt) mc.toInt.toNat) (hm3 : men.toInt ≤ 3000) (hb : b.toInt = yyQ (vRow I 55 76) (fun k => vMx dv.toInt (vRow I 56 76 k)) ((fun _ => 0, fun _ => 0, fun _ => false) : yySt) ma.toInt.toNat) : vxC I I dv.toInt ma.toInt.toNat = x00 I 78 ∧ dyC I I ma mc dv.toInt 0 0 men b ∧ yyNu (vxC I I dv.toInt ma.toInt.toNat) ma.toInt.toNat < ((10 : Nat) : Int) := by
  have ha := hS.2.1
  have ex : vxC I I dv.toInt ma.toInt.toNat = x00 I 78 := by
    refine Prod.ext rfl (Prod.ext (funext fun k => ?_) rfl)
    show (if k < ma.toInt.toNat then vMx dv.toInt (vRow I 56 76 k) - (I 79 k).toInt else 0) = 0
    by_cases c : k < ma.toInt.toNat
    · rw [if_pos c, (h79 k (by omega)).1, Int.sub_self]
    · rw [if_neg c]
  have hN := yyNu_le (x := x00 I 78) (n := ma.toInt.toNat) (fun k _ => ⟨Int.le_refl _, by show (0 : Int) ≤ 3; decide⟩)
  refine ⟨ex, ⟨fun k hk => ?_, h78, ⟨by decide, ?_⟩, ⟨by decide, by decide⟩, ⟨?_, hm3⟩, ?_⟩, ?_⟩
  · have h := h79 k hk
    have v := vMx_rng (d := dv.toInt) (p := vRow I 56 76 k) (by omega) (by have := vRow_ge (J := I) (q := 56) (t := 76) (k := k); omega)
    rw [h.1, h.2, Int.sub_self, Int.mul_zero]
    exact ⟨⟨v.1, Int.le_refl _⟩, rfl⟩
  · rw [ex]
    have z0 : (0 : Int32).toInt = 0 := rfl
    omega
  · rw [ex]
    exact hm
  · rw [ex, hb]
    exact yyQ_congr (fun _ _ => rfl)
  · rw [ex]
    omega
theorem bsC_some {I : Nat → Nat → Int32} {m : Int} {l : List Int} (h : bsC I = some (m, l)) : (I 75 12).toInt = m ∧ rwL I 82 (I 75 11).toInt.toNat = l := by
  unfold bsC at h
  by_cases c : (I 75 12).toInt = -1
  · rw [if_pos c] at h
    cases h
  · rw [if_neg c] at h
    have h2 := Option.some.inj h
    exact ⟨congrArg Prod.fst h2, congrArg Prod.snd h2⟩
theorem bsM_some {I : Nat → Nat → Int32} {m : Int} {l : List Int} (h : bsM I = some (m, l)) : (I 94 90).toInt = m ∧ rwL I 155 (I 94 89).toInt.toNat = l := by
  unfold bsM at h
  by_cases c : (I 94 91).toInt = 0
  · rw [if_pos c] at h
    cases h
  · rw [if_neg c] at h
    have h2 := Option.some.inj h
    exact ⟨congrArg Prod.fst h2, congrArg Prod.snd h2⟩
theorem tc_plan {d : Nat} {sh : List mE} {I : Nat → Nat → Int32} {L : Nat → Nat → Int64} {R : Nat → Nat → Option Nat} {dv : Int32} (hw : wOK (mkT vV []) (wE sh R) (sh, I, L, R)) (hf : fresh (sh, I, L, R)) (hV : RLv (sh, I, L, R)) : Tc 183 (d + 13) 0 0 [.ref 75, .int dv] (sh, I, L, R) (Qvy 75 2 75 3 75 11 82 mdVyC (EvC (sh, I, L, R) dv) (LvC (sh, I, L, R) dv) dv (sh, I, L, R)) := by
  have c75 : sh[75]? = some (.inr 9) := hw.1 75 _ rfl
  have zm2 : ((-2) : Int32).toInt = (-2) := rfl
  have zm1 : ((-1) : Int32).toInt = (-1) := rfl
  have z0 : (0 : Int32).toInt = 0 := rfl
  have z1 : (1 : Int32).toInt = 1 := rfl
  have z200 : (200 : Int32).toInt = 200 := rfl
  have hma : 0 ≤ (I 75 2).toInt ∧ (I 75 2).toInt ≤ 3 := hw.2.2.1 75 2
  have hmc : 0 ≤ (I 75 3).toInt ∧ (I 75 3).toInt ≤ 3 := hw.2.2.1 75 3
  obtain ⟨ma, em⟩ : ∃ m, I 75 2 = m := ⟨_, rfl⟩
  obtain ⟨mc, emc⟩ : ∃ m, I 75 3 = m := ⟨_, rfl⟩
  rw [em] at hma
  rw [emc] at hmc
  refine Tc.of mr_183 rfl (show 2 ≤ mr_183.2.2.2.1 by decide) ?_
  refine XW.fam (S' := (1, [(0, .ref 75), (1, .int dv)], [.int dv], (sh, I, L, R))) (M := mr_183) rfl (show mcode 183 0 = some (0, .iload_n 1, 1, 0, 0, 0, _) from rfl) (Or.inl ⟨.int dv, rfl, rfl⟩) ?_
  refine XW.fam (S' := (2, [(0, .ref 75), (1, .int dv)], [.int 1, .int dv], (sh, I, L, R))) (M := mr_183) rfl (show mcode 183 1 = some (1, .iconst 1, 1, 0, 0, 0, _) from rfl) (Or.inl ⟨.int 1, rfl, rfl⟩) ?_
  refine XW.fam (S' := (5, [(0, .ref 75), (1, .int dv)], [.int 200, .int 1, .int dv], (sh, I, L, R))) (M := mr_183) rfl (show mcode 183 2 = some (2, .sipush 200, 3, 0, 0, 0, _) from rfl) (Or.inl ⟨.int 200, rfl, rfl⟩) ?_
  refine XW.call (d' := d) (mc' := 0) (ms' := 0) (av := [.int dv, .int 1, .int 200]) (rest := []) (M := mr_183) (Ma := mr_15) rfl (show mcode 183 5 = some (5, .invokestatic 71, 3, 15, 1, 0, _) from rfl) rfl (by decide) (by decide) rfl rfl rfl (show 0 ≤ 8 by decide) (tc_inC) (by omega) (Nat.zero_le _) (Nat.zero_le _) (fun rQ1 wQ1 Q1 => ?_)
  obtain ⟨hQ1, rfl⟩ := Q1
  rcases hQ1 with ⟨rfl, gQ1⟩ | ⟨rfl, gQ1⟩
  · skip
    refine XW.fam (S' := (11, [(0, .ref 75), (1, .int dv)], [], (sh, I, L, R))) (M := mr_183) rfl (show mcode 183 8 = some (8, .ifCond .ne 5, 3, 13, 0, 0, _) from rfl) (Or.inr (Or.inl ⟨11, [], rfl, rfl⟩)) ?_
    refine XW.fam (S' := (12, [(0, .ref 75), (1, .int dv)], [.int (-1)], (sh, I, L, R))) (M := mr_183) rfl (show mcode 183 11 = some (11, .iconst (-1), 1, 0, 0, 0, _) from rfl) (Or.inl ⟨.int (-1), rfl, rfl⟩) ?_
    refine XW.ret (r := some (.int (-1))) ⟨⟨.int, rfl, rfl⟩, by decide +kernel⟩ ?_
    exact ⟨hf, ⟨sh, R, hw⟩, fun _ _ _ => rfl, Or.inl ⟨by omega, rfl, rfl⟩⟩
  · skip
    refine XW.fam (S' := (13, [(0, .ref 75), (1, .int dv)], [], (sh, I, L, R))) (M := mr_183) rfl (show mcode 183 8 = some (8, .ifCond .ne 5, 3, 13, 0, 0, _) from rfl) (Or.inr (Or.inl ⟨13, [], rfl, rfl⟩)) ?_
    refine XW.fam (S' := (14, [(0, .ref 75), (1, .int dv)], [.ref 75], (sh, I, L, R))) (M := mr_183) rfl (show mcode 183 13 = some (13, .aload_n 0, 1, 0, 0, 0, _) from rfl) (Or.inl ⟨.ref 75, rfl, rfl⟩) ?_
    refine XW.fam (S' := (17, [(0, .ref 75), (1, .int dv)], [.int (I 75 2)], (sh, I, L, R))) (M := mr_183) rfl (show mcode 183 14 = some (14, .getfield 60, 3, 9, 2, 0, _) from rfl) (Or.inr (Or.inr (Or.inr (Or.inr (Or.inr (Or.inr (Or.inr (Or.inl ⟨_, _, rfl, fl_ldI c75 (by decide) (by decide), rfl⟩)))))))) ?_
    rw [em]
    cases k2 : bcmp .eq ma 0 with
    | true =>
      have gk2 : (ma).toInt = 0 := icT (c := .eq) (a := (ma).toInt) (b := 0) rfl (by decide) k2
      refine XW.fam (S' := (27, [(0, .ref 75), (1, .int dv)], [], (sh, I, L, R))) (M := mr_183) rfl (show mcode 183 17 = some (17, .ifCond .eq 10, 3, 27, 0, 0, _) from rfl) (Or.inr (Or.inl ⟨27, [], by simp [brn, k2], rfl⟩)) ?_
      refine XW.fam (S' := (29, [(0, .ref 75), (1, .int dv)], [.int (-2)], (sh, I, L, R))) (M := mr_183) rfl (show mcode 183 27 = some (27, .bipush (-2), 2, 0, 0, 0, _) from rfl) (Or.inl ⟨.int (-2), rfl, rfl⟩) ?_
      refine XW.ret (r := some (.int (-2))) ⟨⟨.int, rfl, rfl⟩, by decide +kernel⟩ ?_
      exact ⟨hf, ⟨sh, R, hw⟩, fun _ _ _ => rfl, Or.inr (Or.inl ⟨by omega, by show (I 75 2).toInt = 0 ∨ (I 75 3).toInt = 0; rw [em, emc]; omega, rfl, rfl⟩)⟩
    | false =>
      have gk2 : ¬ ((ma).toInt = 0) := icF (c := .eq) (a := (ma).toInt) (b := 0) rfl (by decide) k2
      refine XW.fam (S' := (20, [(0, .ref 75), (1, .int dv)], [], (sh, I, L, R))) (M := mr_183) rfl (show mcode 183 17 = some (17, .ifCond .eq 10, 3, 27, 0, 0, _) from rfl) (Or.inr (Or.inl ⟨20, [], by simp [brn, k2], rfl⟩)) ?_
      refine XW.fam (S' := (21, [(0, .ref 75), (1, .int dv)], [.ref 75], (sh, I, L, R))) (M := mr_183) rfl (show mcode 183 20 = some (20, .aload_n 0, 1, 0, 0, 0, _) from rfl) (Or.inl ⟨.ref 75, rfl, rfl⟩) ?_
      refine XW.fam (S' := (24, [(0, .ref 75), (1, .int dv)], [.int (I 75 3)], (sh, I, L, R))) (M := mr_183) rfl (show mcode 183 21 = some (21, .getfield 68, 3, 9, 3, 0, _) from rfl) (Or.inr (Or.inr (Or.inr (Or.inr (Or.inr (Or.inr (Or.inr (Or.inl ⟨_, _, rfl, fl_ldI c75 (by decide) (by decide), rfl⟩)))))))) ?_
      rw [emc]
      cases k3 : bcmp .ne mc 0 with
      | true =>
        have gk3 : ¬ (mc).toInt = 0 := icT (c := .ne) (a := (mc).toInt) (b := 0) rfl (by decide) k3
        refine XW.fam (S' := (30, [(0, .ref 75), (1, .int dv)], [], (sh, I, L, R))) (M := mr_183) rfl (show mcode 183 24 = some (24, .ifCond .ne 6, 3, 30, 0, 0, _) from rfl) (Or.inr (Or.inl ⟨30, [], by simp [brn, k3], rfl⟩)) ?_
        refine XW.fam (S' := (31, [(0, .ref 75), (1, .int dv)], [.int 0], (sh, I, L, R))) (M := mr_183) rfl (show mcode 183 30 = some (30, .iconst 0, 1, 0, 0, 0, _) from rfl) (Or.inl ⟨.int 0, rfl, rfl⟩) ?_
        refine XW.fam (S' := (32, [(2, .int 0), (0, .ref 75), (1, .int dv)], [], (sh, I, L, R))) (M := mr_183) rfl (show mcode 183 31 = some (31, .istore_n 2, 1, 0, 0, 0, _) from rfl) (Or.inr (Or.inr (Or.inr (Or.inr (Or.inr (Or.inr (Or.inl ⟨_, [], _, rfl, rfl, rfl⟩))))))) ?_
        refine XW.fam (S' := (33, [(2, .int 0), (0, .ref 75), (1, .int dv)], [.int 0], (sh, I, L, R))) (M := mr_183) rfl (show mcode 183 32 = some (32, .iconst 0, 1, 0, 0, 0, _) from rfl) (Or.inl ⟨.int 0, rfl, rfl⟩) ?_
        refine XW.fam (S' := (34, [(3, .int 0), (2, .int 0), (0, .ref 75), (1, .int dv)], [], (sh, I, L, R))) (M := mr_183) rfl (show mcode 183 33 = some (33, .istore_n 3, 1, 0, 0, 0, _) from rfl) (Or.inr (Or.inr (Or.inr (Or.inr (Or.inr (Or.inr (Or.inl ⟨_, [], _, rfl, rfl, rfl⟩))))))) ?_
        refine XW.sub (ls' := [(3, .int 0), (2, .int 0), (1, .int dv), (0, .ref 75)]) (List.forall_mem_cons.mpr ⟨List.mem_of_getElem? (i := 0) rfl, (List.forall_mem_cons.mpr ⟨List.mem_of_getElem? (i := 1) rfl, (List.forall_mem_cons.mpr ⟨List.mem_of_getElem? (i := 3) rfl, (List.forall_mem_cons.mpr ⟨List.mem_of_getElem? (i := 2) rfl, (fun _ h => absurd h List.not_mem_nil)⟩)⟩)⟩)⟩) ?_
        have hS : stC I ma mc := by
          refine ⟨⟨em, emc⟩, by omega, by omega, fun k hk => ?_⟩
          have a1 := hV.1 k (by show (k : Int) < (I 75 2).toInt; rw [em]; exact hk)
          have a2 : (I 53 3).toInt ≤ 16 := (hw.2.2.1 53 3).2
          have a1 : 0 ≤ (I 76 k).toInt ∧ (I 76 k).toInt < (I 53 3).toInt := a1
          have kn : (I 76 k).toNatClampNeg = (I 76 k).toInt.toNat := rfl
          have a3 : 1 ≤ (I 55 (I 76 k).toNatClampNeg).toInt ∧ 1 ≤ (I 56 (I 76 k).toNatClampNeg).toInt := hV.2.1 (I 76 k).toNatClampNeg (by show _ < (I 53 3).toInt; omega)
          have a4 : (I 55 (I 76 k).toNatClampNeg).toInt ≤ 60 := (hw.2.2.1 55 _).2
          have a5 : (I 56 (I 76 k).toNatClampNeg).toInt ≤ 30 := (hw.2.2.1 56 _).2
          exact ⟨⟨a1.1, a1.2, a2⟩, ⟨a3.1, a4⟩, ⟨a3.2, a5⟩⟩
        have hW9 : ∀ p : Nat, (p : Int) < mc.toInt → 0 ≤ (I 78 p).toInt ∧ (I 78 p).toInt ≤ 999 := fun p hp => hV.2.2 p (by show (p : Int) < (I 75 3).toInt; rw [emc]; exact hp)
        refine plan1_lp (d := d) (J := I) (ma := ma) (mc := mc) hS (by omega) 4 0 0 (by decide) (by omega) (by omega) hw hf (fun _ _ _ _ => rfl) (fun j hj => by exfalso; omega) ⟨rfl, by decide, by decide⟩ (fun {I1 b} hw1 hf1 hk1 hin1 hb1 k => ?_)
        have em3 : I1 75 3 = mc := (hk1 75 3 (by decide) (by decide)).trans emc
        refine XW.fam (S' := (116, [(3, .int k), (2, .int b), (1, .int dv), (0, .ref 75)], [.int 0], (sh, I1, L, R))) (M := mr_183) rfl (show mcode 183 115 = some (115, .iconst 0, 1, 0, 0, 0, _) from rfl) (Or.inl ⟨.int 0, rfl, rfl⟩) ?_
        refine XW.fam (S' := (117, [(3, .int 0), (2, .int b), (1, .int dv), (0, .ref 75)], [], (sh, I1, L, R))) (M := mr_183) rfl (show mcode 183 116 = some (116, .istore_n 3, 1, 0, 0, 0, _) from rfl) (Or.inr (Or.inr (Or.inr (Or.inr (Or.inr (Or.inr (Or.inl ⟨_, [], _, rfl, rfl, rfl⟩))))))) ?_
        refine XW.fam (S' := (118, [(3, .int 0), (2, .int b), (1, .int dv), (0, .ref 75)], [.int 0], (sh, I1, L, R))) (M := mr_183) rfl (show mcode 183 117 = some (117, .iconst 0, 1, 0, 0, 0, _) from rfl) (Or.inl ⟨.int 0, rfl, rfl⟩) ?_
        refine XW.fam (S' := (120, [(4, .int 0), (3, .int 0), (2, .int b), (1, .int dv), (0, .ref 75)], [], (sh, I1, L, R))) (M := mr_183) rfl (show mcode 183 118 = some (118, .istore 4, 2, 0, 0, 0, _) from rfl) (Or.inr (Or.inr (Or.inr (Or.inr (Or.inr (Or.inr (Or.inl ⟨_, [], _, rfl, rfl, rfl⟩))))))) ?_
        refine XW.sub (ls' := [(4, .int 0), (3, .int 0), (2, .int b), (1, .int dv), (0, .ref 75)]) (List.forall_mem_cons.mpr ⟨List.mem_of_getElem? (i := 0) rfl, (List.forall_mem_cons.mpr ⟨List.mem_of_getElem? (i := 1) rfl, (List.forall_mem_cons.mpr ⟨List.mem_of_getElem? (i := 2) rfl, (List.forall_mem_cons.mpr ⟨List.mem_of_getElem? (i := 3) rfl, (List.forall_mem_cons.mpr ⟨List.mem_of_getElem? (i := 4) rfl, (fun _ h => absurd h List.not_mem_nil)⟩)⟩)⟩)⟩)⟩) ?_
        refine plan2_lp (d := d) hw1 em3 (by omega) (fun p hp => by rw [hk1 78 p (by decide) (by decide)]; exact hW9 p hp) 4 0 0 (by decide) (by omega) (by omega) rfl ⟨by decide, by decide⟩ (fun {men} hm1 hm2 p => ?_)
        refine XW.fam (S' := (146, [(4, .int p), (3, .int men), (2, .int b), (1, .int dv), (0, .ref 75)], [.ref 75], (sh, I1, L, R))) (M := mr_183) rfl (show mcode 183 145 = some (145, .aload_n 0, 1, 0, 0, 0, _) from rfl) (Or.inl ⟨.ref 75, rfl, rfl⟩) ?_
        refine XW.fam (S' := (147, [(4, .int p), (3, .int men), (2, .int b), (1, .int dv), (0, .ref 75)], [.int (-1), .ref 75], (sh, I1, L, R))) (M := mr_183) rfl (show mcode 183 146 = some (146, .iconst (-1), 1, 0, 0, 0, _) from rfl) (Or.inl ⟨.int (-1), rfl, rfl⟩) ?_
        obtain ⟨I4, eI4⟩ : ∃ X, X = up2 I1 75 12 (-1) := ⟨_, rfl⟩
        refine XW.fam (S' := (150, [(4, .int p), (3, .int men), (2, .int b), (1, .int dv), (0, .ref 75)], [], (sh, I4, L, R))) (M := mr_183) rfl (show mcode 183 147 = some (147, .putfield 89, 3, 9, 12, 0, _) from rfl) (Or.inr (Or.inr (Or.inr (Or.inr (Or.inr (Or.inr (Or.inr (Or.inr (Or.inl ⟨_, _, _, rfl, by rw [eI4]; exact stf_I c75 (by decide) (by decide) (by decide), rfl⟩))))))))) ?_
        have hwI4 : wOK (mkT vV []) (wE sh R) (sh, I4, L, R) := by rw [eI4]; exact wOK_u2 (q := 75) (k := 12) (x := (-1)) wE_put hw1 rfl (by show ((-1) : Int) ≤ _; omega) (by show _ ≤ (540 : Int); omega)
        have hfI4 : fresh (sh, I4, L, R) := by rw [eI4]; exact fresh_I hf1 c75
        have v5 : I4 75 3 = mc := by rw [eI4, up2_ne (fun e => by cases e.2)]; exact em3
        have v6 : I4 75 12 = (-1) := by rw [eI4]; exact up2_eq
        refine XW.fam (S' := (151, [(4, .int p), (3, .int men), (2, .int b), (1, .int dv), (0, .ref 75)], [.ref 75], (sh, I4, L, R))) (M := mr_183) rfl (show mcode 183 150 = some (150, .aload_n 0, 1, 0, 0, 0, _) from rfl) (Or.inl ⟨.ref 75, rfl, rfl⟩) ?_
        refine XW.fam (S' := (152, [(4, .int p), (3, .int men), (2, .int b), (1, .int dv), (0, .ref 75)], [.int 0, .ref 75], (sh, I4, L, R))) (M := mr_183) rfl (show mcode 183 151 = some (151, .iconst 0, 1, 0, 0, 0, _) from rfl) (Or.inl ⟨.int 0, rfl, rfl⟩) ?_
        obtain ⟨I7, eI7⟩ : ∃ X, X = up2 I4 75 11 0 := ⟨_, rfl⟩
        refine XW.fam (S' := (155, [(4, .int p), (3, .int men), (2, .int b), (1, .int dv), (0, .ref 75)], [], (sh, I7, L, R))) (M := mr_183) rfl (show mcode 183 152 = some (152, .putfield 92, 3, 9, 11, 0, _) from rfl) (Or.inr (Or.inr (Or.inr (Or.inr (Or.inr (Or.inr (Or.inr (Or.inr (Or.inl ⟨_, _, _, rfl, by rw [eI7]; exact stf_I c75 (by decide) (by decide) (by decide), rfl⟩))))))))) ?_
        have hwI7 : wOK (mkT vV []) (wE sh R) (sh, I7, L, R) := by rw [eI7]; exact wOK_u2 (q := 75) (k := 11) (x := 0) wE_put hwI4 rfl (by show (0 : Int) ≤ _; omega) (by show _ ≤ (9 : Int); omega)
        have hfI7 : fresh (sh, I7, L, R) := by rw [eI7]; exact fresh_I hfI4 c75
        have v8 : I7 75 3 = mc := by rw [eI7, up2_ne (fun e => by cases e.2)]; exact v5
        have v9 : I7 75 12 = (-1) := by rw [eI7, up2_ne (fun e => by cases e.2)]; exact v6
        have v10 : I7 75 11 = 0 := by rw [eI7]; exact up2_eq
        refine XW.fam (S' := (156, [(4, .int p), (3, .int men), (2, .int b), (1, .int dv), (0, .ref 75)], [.ref 75], (sh, I7, L, R))) (M := mr_183) rfl (show mcode 183 155 = some (155, .aload_n 0, 1, 0, 0, 0, _) from rfl) (Or.inl ⟨.ref 75, rfl, rfl⟩) ?_
        refine XW.fam (S' := (157, [(4, .int p), (3, .int men), (2, .int b), (1, .int dv), (0, .ref 75)], [.int 0, .ref 75], (sh, I7, L, R))) (M := mr_183) rfl (show mcode 183 156 = some (156, .iconst 0, 1, 0, 0, 0, _) from rfl) (Or.inl ⟨.int 0, rfl, rfl⟩) ?_
        refine XW.fam (S' := (158, [(4, .int p), (3, .int men), (2, .int b), (1, .int dv), (0, .ref 75)], [.int 0, .int 0, .ref 75], (sh, I7, L, R))) (M := mr_183) rfl (show mcode 183 157 = some (157, .iconst 0, 1, 0, 0, 0, _) from rfl) (Or.inl ⟨.int 0, rfl, rfl⟩) ?_
        refine XW.fam (S' := (159, [(4, .int p), (3, .int men), (2, .int b), (1, .int dv), (0, .ref 75)], [.int men, .int 0, .int 0, .ref 75], (sh, I7, L, R))) (M := mr_183) rfl (show mcode 183 158 = some (158, .iload_n 3, 1, 0, 0, 0, _) from rfl) (Or.inl ⟨.int men, rfl, rfl⟩) ?_
        refine XW.fam (S' := (160, [(4, .int p), (3, .int men), (2, .int b), (1, .int dv), (0, .ref 75)], [.int b, .int men, .int 0, .int 0, .ref 75], (sh, I7, L, R))) (M := mr_183) rfl (show mcode 183 159 = some (159, .iload_n 2, 1, 0, 0, 0, _) from rfl) (Or.inl ⟨.int b, rfl, rfl⟩) ?_
        have kI : ∀ q j, ¬ q = 79 → ¬ q = 80 → ¬ (q = 75 ∧ j = 11) → ¬ (q = 75 ∧ j = 12) → I7 q j = I q j := by
          intro q j a1 a2 a3 a4
          rw [eI7, up2_ne a3, eI4, up2_ne a4]
          exact hk1 q j a1 a2
        have nn : ∀ {q j : Nat}, ¬ q = 75 → ∀ m : Nat, ¬ (q = 75 ∧ j = m) := fun h _ e => h e.1
        have k76 : ∀ k, I7 76 k = I 76 k := fun k => kI 76 k (by decide) (by decide) (nn (by decide) _) (nn (by decide) _)
        have k55 : ∀ k, I7 55 k = I 55 k := fun k => kI 55 k (by decide) (by decide) (nn (by decide) _) (nn (by decide) _)
        have k56 : ∀ k, I7 56 k = I 56 k := fun k => kI 56 k (by decide) (by decide) (nn (by decide) _) (nn (by decide) _)
        have k78 : ∀ k, I7 78 k = I 78 k := fun k => kI 78 k (by decide) (by decide) (nn (by decide) _) (nn (by decide) _)
        have hS2 : stC I7 ma mc := stC_of (kI 75 2 (by decide) (by decide) (by decide) (by decide)) (kI 75 3 (by decide) (by decide) (by decide) (by decide)) (kI 53 3 (by decide) (by decide) (by decide) (by decide)) k76 k55 k56 hS
        have eR : vRow I7 56 76 = vRow I 56 76 := vRow_congr k56 k76
        have eB : vRow I7 55 76 = vRow I 55 76 := vRow_congr k55 k76
        have k7 : ∀ q j, ¬ q = 75 → I7 q j = I1 q j := by
          intro q j a1
          rw [eI7, up2_ne (fun e => a1 e.1), eI4, up2_ne (fun e => a1 e.1)]
        obtain ⟨x2, hD2, hN2⟩ := dyC_0 (I := I7) (ma := ma) (mc := mc) (men := men) (b := b) (dv := dv) hS2 (by omega) (fun j hj => by rw [k7 79 j (by decide), k7 80 j (by decide), eR]; exact hin1 j hj) (fun p hp => by rw [k78]; exact (hW9 p hp).1) (by rw [hm1]; exact congrArg (fun f => yyT f mc.toInt.toNat) (funext fun p => by rw [k7 78 p (by decide)])) (by omega) (by rw [eB, eR]; exact hb1.1)
        have hWn := (yyW_rng (a := ma.toInt.toNat) (c := mc.toInt.toNat) (B := vRow I7 55 76) (P := vRow I7 56 76) (d := dv.toInt) (by omega) (fun _ => vRow_ge) _ (vxC I7 I7 dv.toInt ma.toInt.toNat) (Nat.le_refl _) (fun k _ => (dyC_c (by omega) hD2 k).1) (dyC_w hD2)).1
        have v12 : I7 75 12 = -1 := by rw [eI7, up2_ne (by decide), eI4]; exact up2_eq
        have b0 : bsC I7 = none := by unfold bsC; rw [v12]; exact if_pos rfl
        refine XW.call (d' := d + 2 + 10) (mc' := 0) (ms' := 0) (av := [.ref 75, .int 0, .int 0, .int men, .int b]) (rest := []) (M := mr_183) (Ma := mr_186) rfl (show mcode 183 160 = some (160, .invokevirtual 95, 3, 186, 0, 0, _) from rfl) rfl (by decide) (by decide) ⟨rfl, 75, _, rfl, c75⟩ rfl rfl (show 0 ≤ 8 by decide) (tc_cho (d := d) (J := I7) (ma := ma) (mc := mc) (dd := dv.toInt) (by omega) hS2 10 (I := I7) (L := L) 0 0 men b hwI7 hfI7 (fun _ _ _ => rfl) hD2 hN2) (by omega) (Nat.zero_le _) (Nat.zero_le _) (fun rQ11 wQ11 Q11 => ?_)
        obtain ⟨hrQ11, hfQ11, hwQ11, hIQ11, hPQ11, hZQ11⟩ := Q11
        subst hrQ11
        obtain ⟨shQ11, IQ11, LQ11, RQ11⟩ := wQ11
        obtain rfl : sh = shQ11 := hwQ11.2.2.2.1.symm
        obtain rfl : R = RQ11 := hwQ11.2.2.2.2.1.symm
        have hZ : bsC IQ11 = upY (yyW ma.toInt.toNat mc.toInt.toNat (vRow I7 55 76) (vRow I7 56 76) dv.toInt (vxC I7 I7 dv.toInt ma.toInt.toNat)) (yyL ma.toInt.toNat mc.toInt.toNat (vRow I7 55 76) (vRow I7 56 76) dv.toInt (vxC I7 I7 dv.toInt ma.toInt.toNat)) 0 [] (bsC I7) := hZQ11
        rw [b0, upY_none hWn] at hZ
        obtain ⟨hz1, hz2⟩ := bsC_some hZ
        have x3 : x00 I7 78 = x00 I 78 := Prod.ext (funext fun p => by show (I7 78 p).toInt = (I 78 p).toInt; rw [k78]) rfl
        rw [x2, x3, eB, eR, Int.zero_add] at hz1
        rw [x2, x3, eB, eR, List.nil_append] at hz2
        rw [x2, x3, eB, eR] at hWn
        obtain ⟨bh, ebh⟩ : ∃ z : Int32, IQ11 75 12 = z := ⟨_, rfl⟩
        rw [ebh] at hz1
        refine XW.fam (S' := (164, [(4, .int p), (3, .int men), (2, .int b), (1, .int dv), (0, .ref 75)], [.ref 75], (sh, IQ11, LQ11, R))) (M := mr_183) rfl (show mcode 183 163 = some (163, .aload_n 0, 1, 0, 0, 0, _) from rfl) (Or.inl ⟨.ref 75, rfl, rfl⟩) ?_
        refine XW.fam (S' := (165, [(4, .int p), (3, .int men), (2, .int b), (1, .int dv), (0, .ref 75)], [.int 0, .ref 75], (sh, IQ11, LQ11, R))) (M := mr_183) rfl (show mcode 183 164 = some (164, .iconst 0, 1, 0, 0, 0, _) from rfl) (Or.inl ⟨.int 0, rfl, rfl⟩) ?_
        obtain ⟨I12, eI12⟩ : ∃ X, X = up2 IQ11 75 2 0 := ⟨_, rfl⟩
        refine XW.fam (S' := (168, [(4, .int p), (3, .int men), (2, .int b), (1, .int dv), (0, .ref 75)], [], (sh, I12, LQ11, R))) (M := mr_183) rfl (show mcode 183 165 = some (165, .putfield 60, 3, 9, 2, 0, _) from rfl) (Or.inr (Or.inr (Or.inr (Or.inr (Or.inr (Or.inr (Or.inr (Or.inr (Or.inl ⟨_, _, _, rfl, by rw [eI12]; exact stf_I c75 (by decide) (by decide) (by decide), rfl⟩))))))))) ?_
        have hwI12 : wOK (mkT vV []) (wE sh R) (sh, I12, LQ11, R) := by rw [eI12]; exact wOK_u2 (q := 75) (k := 2) (x := 0) wE_put hwQ11 rfl (by show (0 : Int) ≤ _; omega) (by show _ ≤ (3 : Int); omega)
        have hfI12 : fresh (sh, I12, LQ11, R) := by rw [eI12]; exact fresh_I hfQ11 c75
        have v13 : I12 75 12 = bh := by rw [eI12, up2_ne (fun e => by cases e.2)]; exact ebh
        have v14 : I12 75 2 = 0 := by rw [eI12]; exact up2_eq
        refine XW.fam (S' := (169, [(4, .int p), (3, .int men), (2, .int b), (1, .int dv), (0, .ref 75)], [.ref 75], (sh, I12, LQ11, R))) (M := mr_183) rfl (show mcode 183 168 = some (168, .aload_n 0, 1, 0, 0, 0, _) from rfl) (Or.inl ⟨.ref 75, rfl, rfl⟩) ?_
        refine XW.fam (S' := (170, [(4, .int p), (3, .int men), (2, .int b), (1, .int dv), (0, .ref 75)], [.int 0, .ref 75], (sh, I12, LQ11, R))) (M := mr_183) rfl (show mcode 183 169 = some (169, .iconst 0, 1, 0, 0, 0, _) from rfl) (Or.inl ⟨.int 0, rfl, rfl⟩) ?_
        obtain ⟨I15, eI15⟩ : ∃ X, X = up2 I12 75 3 0 := ⟨_, rfl⟩
        refine XW.fam (S' := (173, [(4, .int p), (3, .int men), (2, .int b), (1, .int dv), (0, .ref 75)], [], (sh, I15, LQ11, R))) (M := mr_183) rfl (show mcode 183 170 = some (170, .putfield 68, 3, 9, 3, 0, _) from rfl) (Or.inr (Or.inr (Or.inr (Or.inr (Or.inr (Or.inr (Or.inr (Or.inr (Or.inl ⟨_, _, _, rfl, by rw [eI15]; exact stf_I c75 (by decide) (by decide) (by decide), rfl⟩))))))))) ?_
        have hwI15 : wOK (mkT vV []) (wE sh R) (sh, I15, LQ11, R) := by rw [eI15]; exact wOK_u2 (q := 75) (k := 3) (x := 0) wE_put hwI12 rfl (by show (0 : Int) ≤ _; omega) (by show _ ≤ (3 : Int); omega)
        have hfI15 : fresh (sh, I15, LQ11, R) := by rw [eI15]; exact fresh_I hfI12 c75
        have v16 : I15 75 12 = bh := by rw [eI15, up2_ne (fun e => by cases e.2)]; exact v13
        have v17 : I15 75 2 = 0 := by rw [eI15, up2_ne (fun e => by cases e.2)]; exact v14
        have v18 : I15 75 3 = 0 := by rw [eI15]; exact up2_eq
        refine XW.fam (S' := (174, [(4, .int p), (3, .int men), (2, .int b), (1, .int dv), (0, .ref 75)], [.int 0], (sh, I15, LQ11, R))) (M := mr_183) rfl (show mcode 183 173 = some (173, .iconst 0, 1, 0, 0, 0, _) from rfl) (Or.inl ⟨.int 0, rfl, rfl⟩) ?_
        refine XW.fam (S' := (175, [(4, .int p), (3, .int men), (2, .int b), (1, .int dv), (0, .ref 75)], [.ref 75, .int 0], (sh, I15, LQ11, R))) (M := mr_183) rfl (show mcode 183 174 = some (174, .aload_n 0, 1, 0, 0, 0, _) from rfl) (Or.inl ⟨.ref 75, rfl, rfl⟩) ?_
        refine XW.fam (S' := (178, [(4, .int p), (3, .int men), (2, .int b), (1, .int dv), (0, .ref 75)], [.int (I15 75 12), .int 0], (sh, I15, LQ11, R))) (M := mr_183) rfl (show mcode 183 175 = some (175, .getfield 89, 3, 9, 12, 0, _) from rfl) (Or.inr (Or.inr (Or.inr (Or.inr (Or.inr (Or.inr (Or.inr (Or.inl ⟨_, _, rfl, fl_ldI c75 (by decide) (by decide), rfl⟩)))))))) ?_
        rw [v16]
        refine XW.call (d' := d) (mc' := 0) (ms' := 0) (av := [.int 0, .int bh]) (rest := []) (M := mr_183) (Ma := mr_22) rfl (show mcode 183 178 = some (178, .invokestatic 78, 3, 22, 0, 0, _) from rfl) rfl (by decide) (by decide) rfl rfl rfl (show 0 ≤ 8 by decide) (tc_max) (by omega) (Nat.zero_le _) (Nat.zero_le _) (fun rQ19 wQ19 Q19 => ?_)
        obtain ⟨rfl, rfl⟩ := Q19
        obtain ⟨mx, emx⟩ : ∃ z : Int32, z = (if (0 : Int32) < bh then bh else 0) := ⟨_, rfl⟩
        rw [← emx]
        have tmx := maxI emx
        have hmx : mx.toInt = bh.toInt := by
          rw [tmx]
          have z0 : (0 : Int32).toInt = 0 := rfl
          rw [z0]
          split <;> omega
        refine XW.ret (r := some (.int mx)) ⟨⟨.int, rfl, rfl⟩, by decide +kernel⟩ ?_
        have k9 : ∀ q j, ¬ (q = 75 ∧ j = 2) → ¬ (q = 75 ∧ j = 3) → I15 q j = IQ11 q j := by
          intro q j a1 a2
          rw [eI15, up2_ne a2, eI12, up2_ne a1]
        refine ⟨hfI15, ⟨sh, R, hwI15⟩, fun q k hq => ?_, Or.inr (Or.inr ⟨by omega, by show ¬ ((I 75 2).toInt = 0 ∨ (I 75 3).toInt = 0); rw [em, emc]; omega, ⟨mx, rfl, ?_⟩, ?_, ?_, ?_⟩)⟩
        · show I15 q k = I q k
          rw [k9 q k (fun e => by rw [e.1, e.2] at hq; cases hq) (fun e => by rw [e.1, e.2] at hq; cases hq), (show IQ11 q k = I7 q k from hIQ11 q k (inm_vc hq))]
          exact kI q k (fun e => by rw [e] at hq; cases hq) (fun e => by rw [e] at hq; cases hq) (fun e => by rw [e.1, e.2] at hq; cases hq) (fun e => by rw [e.1, e.2] at hq; cases hq)
        · show mx.toInt = yyW (I 75 2).toInt.toNat (I 75 3).toInt.toNat _ _ _ _
          rw [em, emc, hmx]
          exact hz1
        · show I15 75 2 = 0
          rw [eI15, up2_ne (by decide), eI12, up2_eq]
        · show I15 75 3 = 0
          rw [eI15, up2_eq]
        · show rwL I15 82 (I15 75 11).toInt.toNat = yyL (I 75 2).toInt.toNat (I 75 3).toInt.toNat _ _ _ _
          rw [em, emc, k9 75 11 (by decide) (by decide), rwL_congr (I := I15) (J := IQ11) (q := 82) (q' := 82) (fun k _ => k9 82 k (fun e => by cases e.1) (fun e => by cases e.1))]
          exact hz2
      | false =>
        have gk3 : ¬ (¬ (mc).toInt = 0) := icF (c := .ne) (a := (mc).toInt) (b := 0) rfl (by decide) k3
        refine XW.fam (S' := (27, [(0, .ref 75), (1, .int dv)], [], (sh, I, L, R))) (M := mr_183) rfl (show mcode 183 24 = some (24, .ifCond .ne 6, 3, 30, 0, 0, _) from rfl) (Or.inr (Or.inl ⟨27, [], by simp [brn, k3], rfl⟩)) ?_
        refine XW.fam (S' := (29, [(0, .ref 75), (1, .int dv)], [.int (-2)], (sh, I, L, R))) (M := mr_183) rfl (show mcode 183 27 = some (27, .bipush (-2), 2, 0, 0, 0, _) from rfl) (Or.inl ⟨.int (-2), rfl, rfl⟩) ?_
        refine XW.ret (r := some (.int (-2))) ⟨⟨.int, rfl, rfl⟩, by decide +kernel⟩ ?_
        exact ⟨hf, ⟨sh, R, hw⟩, fun _ _ _ => rfl, Or.inr (Or.inl ⟨by omega, by show (I 75 2).toInt = 0 ∨ (I 75 3).toInt = 0; rw [em, emc]; omega, rfl, rfl⟩)⟩
theorem tc_voyC {d : Nat} {sh : List mE} {R : Nat → Nat → Option Nat} {w : mW} {dv : Int32} (hw : wOK (mkT vV []) (wE sh R) w) (hf : fresh w) (hV : RLv w) : Tc 182 (d + 14) 0 0 [.ref 0, .int dv] w (Qvy 75 2 75 3 75 11 82 mdVyC (EvC w dv) (LvC w dv) dv w) := by
  obtain ⟨sh0, I, L, R0⟩ := w
  obtain rfl : sh = sh0 := hw.2.2.2.1.symm
  obtain rfl : R = R0 := hw.2.2.2.2.1.symm
  have c0 : sh[0]? = some (.inr 0) := hw.1 0 _ rfl
  have c75 : sh[75]? = some (.inr 9) := hw.1 75 _ rfl
  have r0_8 : R 0 8 = some 75 := hw.2.1 0 8 _ rfl
  refine Tc.of mr_182 rfl (show 2 ≤ mr_182.2.2.2.1 by decide) ?_
  refine XW.fam (S' := (1, [(0, .ref 0), (1, .int dv)], [.ref 0], (sh, I, L, R))) (M := mr_182) rfl (show mcode 182 0 = some (0, .aload_n 0, 1, 0, 0, 0, _) from rfl) (Or.inl ⟨.ref 0, rfl, rfl⟩) ?_
  refine XW.fam (S' := (4, [(0, .ref 0), (1, .int dv)], [.ref 75], (sh, I, L, R))) (M := mr_182) rfl (show mcode 182 1 = some (1, .getfield 78, 3, 0, 8, 0, _) from rfl) (Or.inr (Or.inr (Or.inr (Or.inr (Or.inr (Or.inr (Or.inr (Or.inl ⟨_, _, rfl, fl_ld c0 r0_8 (by decide) (by decide), rfl⟩)))))))) ?_
  refine XW.fam (S' := (5, [(0, .ref 0), (1, .int dv)], [.int dv, .ref 75], (sh, I, L, R))) (M := mr_182) rfl (show mcode 182 4 = some (4, .iload_n 1, 1, 0, 0, 0, _) from rfl) (Or.inl ⟨.int dv, rfl, rfl⟩) ?_
  refine XW.call (d' := d + 13) (mc' := 0) (ms' := 0) (av := [.ref 75, .int dv]) (rest := []) (M := mr_182) (Ma := mr_183) rfl (show mcode 182 5 = some (5, .invokevirtual 295, 3, 183, 0, 0, _) from rfl) rfl (by decide) (by decide) ⟨rfl, 75, _, rfl, c75⟩ rfl rfl (show 0 ≤ 8 by decide) (tc_plan (d := d) hw hf hV) (by omega) (Nat.zero_le _) (Nat.zero_le _) (fun rQ1 wQ1 Q1 => ?_)
  obtain ⟨yQ1, eyQ1⟩ := Qvy_int Q1
  subst eyQ1
  refine XW.ret (r := some (.int yQ1)) ⟨⟨.int, rfl, rfl⟩, by decide +kernel⟩ ?_
  exact Q1
theorem up2_at {F : Nat → Nat → Int32} {q k j : Nat} {x : Int32} (h : j = k) : up2 F q k x q j = x := by rw [h, up2_eq]
/-- the same of the model's places -/
def RLm (w : mW) : Prop := (∀ k : Nat, (k : Int) < (w.2.1 94 79).toInt → 1 ≤ (w.2.1 135 (w.2.1 148 k).toNatClampNeg).toInt ∧ 1 ≤ (w.2.1 136 (w.2.1 148 k).toNatClampNeg).toInt) ∧ ∀ p : Nat, (p : Int) < (w.2.1 94 81).toInt → 0 ≤ (w.2.1 150 p).toInt ∧ (w.2.1 150 p).toInt ≤ 999
theorem RLm_of {w w1 : mW} (hns : w.2.1 75 2 = w.2.1 94 79) (hrs : ∀ k, w.2.1 76 k = w.2.1 148 k) (hnp : w.2.1 75 3 = w.2.1 94 81) (h55 : ∀ k, w.2.1 55 k = w.2.1 135 k) (h56 : ∀ k, w.2.1 56 k = w.2.1 136 k) (h78 : ∀ k, w.2.1 78 k = w.2.1 150 k) (hV : RLv w) (k79 : w1.2.1 94 79 = w.2.1 94 79) (k81 : w1.2.1 94 81 = w.2.1 94 81) (k148 : ∀ k, w1.2.1 148 k = w.2.1 148 k) (k135 : ∀ k, w1.2.1 135 k = w.2.1 135 k) (k136 : ∀ k, w1.2.1 136 k = w.2.1 136 k) (k150 : ∀ k, w1.2.1 150 k = w.2.1 150 k) : RLm w1 := by
  refine ⟨fun k hk => ?_, fun p hp => ?_⟩
  · rw [k79, ← hns] at hk
    have a1 := hV.1 k hk
    have kn : (w.2.1 76 k).toNatClampNeg = (w.2.1 76 k).toInt.toNat := rfl
    have a2 := hV.2.1 (w.2.1 76 k).toNatClampNeg (by omega)
    rw [k148, ← hrs, k135, k136, ← h55, ← h56]
    exact a2
  · rw [k81, ← hnp] at hp
    rw [k150, ← h78]
    exact hV.2.2 p hp
theorem dyM_0 {I : Nat → Nat → Int32} {ma mc : Int32} (hS : stM I ma mc) (z151 : ∀ j, j < 3 → I 151 j = 0) (z152 : ∀ j, j < 3 → I 152 j = 0) (z153 : ∀ j, j < 3 → I 153 j = 0) (h150 : ∀ p : Nat, (p : Int) < mc.toInt → 0 ≤ (I 150 p).toInt ∧ (I 150 p).toInt ≤ 999) : vxM I ma.toInt.toNat = x00 I 150 ∧ dyM I I ma mc 0 0 ∧ yyNu (vxM I ma.toInt.toNat) ma.toInt.toNat < ((10 : Nat) : Int) := by
  have ha := hS.2.1
  have hc := hS.2.2.1
  have z0 : (0 : Int32).toInt = 0 := rfl
  have ex : vxM I ma.toInt.toNat = x00 I 150 := by
    refine Prod.ext rfl (Prod.ext (funext fun k => ?_) (funext fun k => ?_))
    · show (if k < ma.toInt.toNat then (I 152 k).toInt else 0) = 0
      by_cases c : k < ma.toInt.toNat
      · rw [if_pos c, z152 k (by omega)]
        rfl
      · rw [if_neg c]
    · show (if k < ma.toInt.toNat then decide (¬ (I 153 k).toInt = 0) else false) = false
      by_cases c : k < ma.toInt.toNat
      · rw [if_pos c, z153 k (by omega)]
        rfl
      · rw [if_neg c]
  have hN := yyNu_le (x := x00 I 150) (n := ma.toInt.toNat) (fun k _ => ⟨Int.le_refl _, by show (0 : Int) ≤ 3; decide⟩)
  have hT := yyT_max (W := fun p => (I 150 p).toInt) (b := 999) (n := mc.toInt.toNat) (fun p hp => (h150 p (by omega)).2)
  refine ⟨ex, ⟨fun k hk => ?_, fun p hp => (h150 p hp).1, ⟨by decide, ?_⟩, by decide, ?_⟩, ?_⟩
  · rw [z152 k (by omega), z151 k (by omega)]
    refine ⟨⟨by decide, by decide⟩, ?_⟩
    rw [z0, Int.mul_zero]
  · rw [ex]
    omega
  · rw [ex]
    show (0 : Int32).toInt + yyT (fun p => (I 150 p).toInt) mc.toInt.toNat ≤ 3000
    omega
  · rw [ex]
    omega
theorem tc_voyM {d : Nat} {sh : List mE} {R : Nat → Nat → Option Nat} {w : mW} {dv : Int32} (hw : wOK (mkT vV []) (wE sh R) w) (hf : fresh w) (hV : RLm w) : Tc 334 (d + 13) 0 0 [.ref 94, .int dv] w (Qvy 94 79 94 81 94 89 155 mdVyM (EvM w dv) (LvM w dv) dv w) := by
  obtain ⟨sh0, I, L, R0⟩ := w
  obtain rfl : sh = sh0 := hw.2.2.2.1.symm
  obtain rfl : R = R0 := hw.2.2.2.2.1.symm
  have c94 : sh[94]? = some (.inr 12) := hw.1 94 _ rfl
  have c151 : sh[151]? = some (.inl (.int, 3)) := hw.1 151 _ rfl
  have c152 : sh[152]? = some (.inl (.int, 3)) := hw.1 152 _ rfl
  have c153 : sh[153]? = some (.inl (.boolean, 3)) := hw.1 153 _ rfl
  have r94_84 : R 94 84 = some 151 := hw.2.1 94 84 _ rfl
  have r94_85 : R 94 85 = some 152 := hw.2.1 94 85 _ rfl
  have r94_86 : R 94 86 = some 153 := hw.2.1 94 86 _ rfl
  have zm2 : ((-2) : Int32).toInt = (-2) := rfl
  have zm1 : ((-1) : Int32).toInt = (-1) := rfl
  have z0 : (0 : Int32).toInt = 0 := rfl
  have z1 : (1 : Int32).toInt = 1 := rfl
  have z2 : (2 : Int32).toInt = 2 := rfl
  have z3 : (3 : Int32).toInt = 3 := rfl
  have z200 : (200 : Int32).toInt = 200 := rfl
  have hma : 0 ≤ (I 94 79).toInt ∧ (I 94 79).toInt ≤ 3 := hw.2.2.1 94 79
  have hmc : 0 ≤ (I 94 81).toInt ∧ (I 94 81).toInt ≤ 3 := hw.2.2.1 94 81
  obtain ⟨ma, em⟩ : ∃ m, I 94 79 = m := ⟨_, rfl⟩
  obtain ⟨mc, emc⟩ : ∃ m, I 94 81 = m := ⟨_, rfl⟩
  rw [em] at hma
  rw [emc] at hmc
  refine Tc.of mr_334 rfl (show 2 ≤ mr_334.2.2.2.1 by decide) ?_
  refine XW.fam (S' := (1, [(0, .ref 94), (1, .int dv)], [.int dv], (sh, I, L, R))) (M := mr_334) rfl (show mcode 334 0 = some (0, .iload_n 1, 1, 0, 0, 0, _) from rfl) (Or.inl ⟨.int dv, rfl, rfl⟩) ?_
  refine XW.fam (S' := (2, [(0, .ref 94), (1, .int dv)], [.int 1, .int dv], (sh, I, L, R))) (M := mr_334) rfl (show mcode 334 1 = some (1, .iconst 1, 1, 0, 0, 0, _) from rfl) (Or.inl ⟨.int 1, rfl, rfl⟩) ?_
  refine XW.fam (S' := (5, [(0, .ref 94), (1, .int dv)], [.int 200, .int 1, .int dv], (sh, I, L, R))) (M := mr_334) rfl (show mcode 334 2 = some (2, .sipush 200, 3, 0, 0, 0, _) from rfl) (Or.inl ⟨.int 200, rfl, rfl⟩) ?_
  refine XW.call (d' := d) (mc' := 0) (ms' := 0) (av := [.int dv, .int 1, .int 200]) (rest := []) (M := mr_334) (Ma := mr_236) rfl (show mcode 334 5 = some (5, .invokestatic 254, 3, 236, 0, 0, _) from rfl) rfl (by decide) (by decide) rfl rfl rfl (show 0 ≤ 8 by decide) (tc_inM) (by omega) (Nat.zero_le _) (Nat.zero_le _) (fun rQ1 wQ1 Q1 => ?_)
  obtain ⟨hQ1, rfl⟩ := Q1
  rcases hQ1 with ⟨rfl, gQ1⟩ | ⟨rfl, gQ1⟩
  · skip
    refine XW.fam (S' := (11, [(0, .ref 94), (1, .int dv)], [], (sh, I, L, R))) (M := mr_334) rfl (show mcode 334 8 = some (8, .ifCond .ne 5, 3, 13, 0, 0, _) from rfl) (Or.inr (Or.inl ⟨11, [], rfl, rfl⟩)) ?_
    refine XW.fam (S' := (12, [(0, .ref 94), (1, .int dv)], [.int (-1)], (sh, I, L, R))) (M := mr_334) rfl (show mcode 334 11 = some (11, .iconst (-1), 1, 0, 0, 0, _) from rfl) (Or.inl ⟨.int (-1), rfl, rfl⟩) ?_
    refine XW.ret (r := some (.int (-1))) ⟨⟨.int, rfl, rfl⟩, by decide +kernel⟩ ?_
    exact ⟨hf, ⟨sh, R, hw⟩, fun _ _ _ => rfl, Or.inl ⟨by omega, rfl, rfl⟩⟩
  · skip
    refine XW.fam (S' := (13, [(0, .ref 94), (1, .int dv)], [], (sh, I, L, R))) (M := mr_334) rfl (show mcode 334 8 = some (8, .ifCond .ne 5, 3, 13, 0, 0, _) from rfl) (Or.inr (Or.inl ⟨13, [], rfl, rfl⟩)) ?_
    refine XW.fam (S' := (14, [(0, .ref 94), (1, .int dv)], [.ref 94], (sh, I, L, R))) (M := mr_334) rfl (show mcode 334 13 = some (13, .aload_n 0, 1, 0, 0, 0, _) from rfl) (Or.inl ⟨.ref 94, rfl, rfl⟩) ?_
    refine XW.fam (S' := (17, [(0, .ref 94), (1, .int dv)], [.int (I 94 79)], (sh, I, L, R))) (M := mr_334) rfl (show mcode 334 14 = some (14, .getfield 551, 3, 12, 79, 0, _) from rfl) (Or.inr (Or.inr (Or.inr (Or.inr (Or.inr (Or.inr (Or.inr (Or.inl ⟨_, _, rfl, fl_ldI c94 (by decide) (by decide), rfl⟩)))))))) ?_
    rw [em]
    cases k2 : bcmp .eq ma 0 with
    | true =>
      have gk2 : (ma).toInt = 0 := icT (c := .eq) (a := (ma).toInt) (b := 0) rfl (by decide) k2
      refine XW.fam (S' := (27, [(0, .ref 94), (1, .int dv)], [], (sh, I, L, R))) (M := mr_334) rfl (show mcode 334 17 = some (17, .ifCond .eq 10, 3, 27, 0, 0, _) from rfl) (Or.inr (Or.inl ⟨27, [], by simp [brn, k2], rfl⟩)) ?_
      refine XW.fam (S' := (29, [(0, .ref 94), (1, .int dv)], [.int (-2)], (sh, I, L, R))) (M := mr_334) rfl (show mcode 334 27 = some (27, .bipush (-2), 2, 0, 0, 0, _) from rfl) (Or.inl ⟨.int (-2), rfl, rfl⟩) ?_
      refine XW.ret (r := some (.int (-2))) ⟨⟨.int, rfl, rfl⟩, by decide +kernel⟩ ?_
      exact ⟨hf, ⟨sh, R, hw⟩, fun _ _ _ => rfl, Or.inr (Or.inl ⟨by omega, by show (I 94 79).toInt = 0 ∨ (I 94 81).toInt = 0; rw [em, emc]; omega, rfl, rfl⟩)⟩
    | false =>
      have gk2 : ¬ ((ma).toInt = 0) := icF (c := .eq) (a := (ma).toInt) (b := 0) rfl (by decide) k2
      refine XW.fam (S' := (20, [(0, .ref 94), (1, .int dv)], [], (sh, I, L, R))) (M := mr_334) rfl (show mcode 334 17 = some (17, .ifCond .eq 10, 3, 27, 0, 0, _) from rfl) (Or.inr (Or.inl ⟨20, [], by simp [brn, k2], rfl⟩)) ?_
      refine XW.fam (S' := (21, [(0, .ref 94), (1, .int dv)], [.ref 94], (sh, I, L, R))) (M := mr_334) rfl (show mcode 334 20 = some (20, .aload_n 0, 1, 0, 0, 0, _) from rfl) (Or.inl ⟨.ref 94, rfl, rfl⟩) ?_
      refine XW.fam (S' := (24, [(0, .ref 94), (1, .int dv)], [.int (I 94 81)], (sh, I, L, R))) (M := mr_334) rfl (show mcode 334 21 = some (21, .getfield 554, 3, 12, 81, 0, _) from rfl) (Or.inr (Or.inr (Or.inr (Or.inr (Or.inr (Or.inr (Or.inr (Or.inl ⟨_, _, rfl, fl_ldI c94 (by decide) (by decide), rfl⟩)))))))) ?_
      rw [emc]
      cases k3 : bcmp .ne mc 0 with
      | true =>
        have gk3 : ¬ (mc).toInt = 0 := icT (c := .ne) (a := (mc).toInt) (b := 0) rfl (by decide) k3
        refine XW.fam (S' := (30, [(0, .ref 94), (1, .int dv)], [], (sh, I, L, R))) (M := mr_334) rfl (show mcode 334 24 = some (24, .ifCond .ne 6, 3, 30, 0, 0, _) from rfl) (Or.inr (Or.inl ⟨30, [], by simp [brn, k3], rfl⟩)) ?_
        refine XW.fam (S' := (31, [(0, .ref 94), (1, .int dv)], [.int 0], (sh, I, L, R))) (M := mr_334) rfl (show mcode 334 30 = some (30, .iconst 0, 1, 0, 0, 0, _) from rfl) (Or.inl ⟨.int 0, rfl, rfl⟩) ?_
        refine XW.fam (S' := (32, [(2, .int 0), (0, .ref 94), (1, .int dv)], [], (sh, I, L, R))) (M := mr_334) rfl (show mcode 334 31 = some (31, .istore_n 2, 1, 0, 0, 0, _) from rfl) (Or.inr (Or.inr (Or.inr (Or.inr (Or.inr (Or.inr (Or.inl ⟨_, [], _, rfl, rfl, rfl⟩))))))) ?_
        refine XW.fam (S' := (33, [(2, .int 0), (0, .ref 94), (1, .int dv)], [.int 0], (sh, I, L, R))) (M := mr_334) rfl (show mcode 334 32 = some (32, .iload_n 2, 1, 0, 0, 0, _) from rfl) (Or.inl ⟨.int 0, rfl, rfl⟩) ?_
        refine XW.fam (S' := (34, [(2, .int 0), (0, .ref 94), (1, .int dv)], [.int 3, .int 0], (sh, I, L, R))) (M := mr_334) rfl (show mcode 334 33 = some (33, .iconst 3, 1, 0, 0, 0, _) from rfl) (Or.inl ⟨.int 3, rfl, rfl⟩) ?_
        refine XW.fam (S' := (37, [(2, .int 0), (0, .ref 94), (1, .int dv)], [], (sh, I, L, R))) (M := mr_334) rfl (show mcode 334 34 = some (34, .if_icmp .ge 30, 3, 64, 0, 0, _) from rfl) (Or.inr (Or.inl ⟨37, [], rfl, rfl⟩)) ?_
        refine XW.fam (S' := (38, [(2, .int 0), (0, .ref 94), (1, .int dv)], [.ref 94], (sh, I, L, R))) (M := mr_334) rfl (show mcode 334 37 = some (37, .aload_n 0, 1, 0, 0, 0, _) from rfl) (Or.inl ⟨.ref 94, rfl, rfl⟩) ?_
        refine XW.fam (S' := (41, [(2, .int 0), (0, .ref 94), (1, .int dv)], [.ref 151], (sh, I, L, R))) (M := mr_334) rfl (show mcode 334 38 = some (38, .getfield 187, 3, 12, 84, 0, _) from rfl) (Or.inr (Or.inr (Or.inr (Or.inr (Or.inr (Or.inr (Or.inr (Or.inl ⟨_, _, rfl, fl_ld c94 r94_84 (by decide) (by decide), rfl⟩)))))))) ?_
        refine XW.fam (S' := (42, [(2, .int 0), (0, .ref 94), (1, .int dv)], [.int 0, .ref 151], (sh, I, L, R))) (M := mr_334) rfl (show mcode 334 41 = some (41, .iload_n 2, 1, 0, 0, 0, _) from rfl) (Or.inl ⟨.int 0, rfl, rfl⟩) ?_
        refine XW.fam (S' := (43, [(2, .int 0), (0, .ref 94), (1, .int dv)], [.int 0, .int 0, .ref 151], (sh, I, L, R))) (M := mr_334) rfl (show mcode 334 42 = some (42, .iconst 0, 1, 0, 0, 0, _) from rfl) (Or.inl ⟨.int 0, rfl, rfl⟩) ?_
        have hin4 : inR 0 3 = true := inR_of (by omega) (by omega)
        obtain ⟨I5, eI5⟩ : ∃ X, X = up2 I 151 (0 : Int32).toNatClampNeg 0 := ⟨_, rfl⟩
        refine XW.fam (S' := (44, [(2, .int 0), (0, .ref 94), (1, .int dv)], [], (sh, I5, L, R))) (M := mr_334) rfl (show mcode 334 43 = some (43, .iastore, 1, 0, 0, 0, _) from rfl) (Or.inr (Or.inr (Or.inr (Or.inl ⟨_, _, by rw [eI5]; exact sta_i c151 hin4, rfl⟩)))) ?_
        have hwI5 : wOK (mkT vV []) (wE sh R) (sh, I5, L, R) := by rw [eI5]; exact wOK_u2 (q := 151) (k := (0 : Int32).toNatClampNeg) (x := 0) wE_put hw rfl (by show ((-2147483648) : Int) ≤ _; omega) (by show _ ≤ (2147483647 : Int); omega)
        have hfI5 : fresh (sh, I5, L, R) := by rw [eI5]; exact fresh_I hf c151
        have v6 : I5 94 79 = ma := by rw [eI5, up2_ne (fun e => by cases e.1)]; exact em
        have v7 : I5 94 81 = mc := by rw [eI5, up2_ne (fun e => by cases e.1)]; exact emc
        have v8 : I5 151 (0 : Int32).toNatClampNeg = 0 := by rw [eI5]; exact up2_eq
        refine XW.fam (S' := (45, [(2, .int 0), (0, .ref 94), (1, .int dv)], [.ref 94], (sh, I5, L, R))) (M := mr_334) rfl (show mcode 334 44 = some (44, .aload_n 0, 1, 0, 0, 0, _) from rfl) (Or.inl ⟨.ref 94, rfl, rfl⟩) ?_
        refine XW.fam (S' := (48, [(2, .int 0), (0, .ref 94), (1, .int dv)], [.ref 152], (sh, I5, L, R))) (M := mr_334) rfl (show mcode 334 45 = some (45, .getfield 190, 3, 12, 85, 0, _) from rfl) (Or.inr (Or.inr (Or.inr (Or.inr (Or.inr (Or.inr (Or.inr (Or.inl ⟨_, _, rfl, fl_ld c94 r94_85 (by decide) (by decide), rfl⟩)))))))) ?_
        refine XW.fam (S' := (49, [(2, .int 0), (0, .ref 94), (1, .int dv)], [.int 0, .ref 152], (sh, I5, L, R))) (M := mr_334) rfl (show mcode 334 48 = some (48, .iload_n 2, 1, 0, 0, 0, _) from rfl) (Or.inl ⟨.int 0, rfl, rfl⟩) ?_
        refine XW.fam (S' := (50, [(2, .int 0), (0, .ref 94), (1, .int dv)], [.int 0, .int 0, .ref 152], (sh, I5, L, R))) (M := mr_334) rfl (show mcode 334 49 = some (49, .iconst 0, 1, 0, 0, 0, _) from rfl) (Or.inl ⟨.int 0, rfl, rfl⟩) ?_
        have hin9 : inR 0 3 = true := inR_of (by omega) (by omega)
        obtain ⟨I10, eI10⟩ : ∃ X, X = up2 I5 152 (0 : Int32).toNatClampNeg 0 := ⟨_, rfl⟩
        refine XW.fam (S' := (51, [(2, .int 0), (0, .ref 94), (1, .int dv)], [], (sh, I10, L, R))) (M := mr_334) rfl (show mcode 334 50 = some (50, .iastore, 1, 0, 0, 0, _) from rfl) (Or.inr (Or.inr (Or.inr (Or.inl ⟨_, _, by rw [eI10]; exact sta_i c152 hin9, rfl⟩)))) ?_
        have hwI10 : wOK (mkT vV []) (wE sh R) (sh, I10, L, R) := by rw [eI10]; exact wOK_u2 (q := 152) (k := (0 : Int32).toNatClampNeg) (x := 0) wE_put hwI5 rfl (by show (0 : Int) ≤ _; omega) (by show _ ≤ (3 : Int); omega)
        have hfI10 : fresh (sh, I10, L, R) := by rw [eI10]; exact fresh_I hfI5 c152
        have v11 : I10 94 79 = ma := by rw [eI10, up2_ne (fun e => by cases e.1)]; exact v6
        have v12 : I10 94 81 = mc := by rw [eI10, up2_ne (fun e => by cases e.1)]; exact v7
        have v13 : I10 151 (0 : Int32).toNatClampNeg = 0 := by rw [eI10, up2_ne (fun e => by cases e.1)]; exact v8
        have v14 : I10 152 (0 : Int32).toNatClampNeg = 0 := by rw [eI10]; exact up2_eq
        refine XW.fam (S' := (52, [(2, .int 0), (0, .ref 94), (1, .int dv)], [.ref 94], (sh, I10, L, R))) (M := mr_334) rfl (show mcode 334 51 = some (51, .aload_n 0, 1, 0, 0, 0, _) from rfl) (Or.inl ⟨.ref 94, rfl, rfl⟩) ?_
        refine XW.fam (S' := (55, [(2, .int 0), (0, .ref 94), (1, .int dv)], [.ref 153], (sh, I10, L, R))) (M := mr_334) rfl (show mcode 334 52 = some (52, .getfield 193, 3, 12, 86, 0, _) from rfl) (Or.inr (Or.inr (Or.inr (Or.inr (Or.inr (Or.inr (Or.inr (Or.inl ⟨_, _, rfl, fl_ld c94 r94_86 (by decide) (by decide), rfl⟩)))))))) ?_
        refine XW.fam (S' := (56, [(2, .int 0), (0, .ref 94), (1, .int dv)], [.int 0, .ref 153], (sh, I10, L, R))) (M := mr_334) rfl (show mcode 334 55 = some (55, .iload_n 2, 1, 0, 0, 0, _) from rfl) (Or.inl ⟨.int 0, rfl, rfl⟩) ?_
        refine XW.fam (S' := (57, [(2, .int 0), (0, .ref 94), (1, .int dv)], [.int 0, .int 0, .ref 153], (sh, I10, L, R))) (M := mr_334) rfl (show mcode 334 56 = some (56, .iconst 0, 1, 0, 0, 0, _) from rfl) (Or.inl ⟨.int 0, rfl, rfl⟩) ?_
        have hin15 : inR 0 3 = true := inR_of (by omega) (by omega)
        have b17 : vp_nar .boolean (0 : Int32) = 0 := rfl
        obtain ⟨I16, eI16⟩ : ∃ X, X = up2 I10 153 (0 : Int32).toNatClampNeg 0 := ⟨_, rfl⟩
        refine XW.fam (S' := (58, [(2, .int 0), (0, .ref 94), (1, .int dv)], [], (sh, I16, L, R))) (M := mr_334) rfl (show mcode 334 57 = some (57, .bastore, 1, 0, 0, 0, _) from rfl) (Or.inr (Or.inr (Or.inr (Or.inl ⟨_, _, by rw [eI16]; exact sta_z b17 c153 hin15, rfl⟩)))) ?_
        have hwI16 : wOK (mkT vV []) (wE sh R) (sh, I16, L, R) := by rw [eI16]; exact wOK_u2 (q := 153) (k := (0 : Int32).toNatClampNeg) (x := 0) wE_put hwI10 rfl (by show (0 : Int) ≤ _; omega) (by show _ ≤ (1 : Int); omega)
        have hfI16 : fresh (sh, I16, L, R) := by rw [eI16]; exact fresh_I hfI10 c153
        have v18 : I16 94 79 = ma := by rw [eI16, up2_ne (fun e => by cases e.1)]; exact v11
        have v19 : I16 94 81 = mc := by rw [eI16, up2_ne (fun e => by cases e.1)]; exact v12
        have v20 : I16 151 (0 : Int32).toNatClampNeg = 0 := by rw [eI16, up2_ne (fun e => by cases e.1)]; exact v13
        have v21 : I16 152 (0 : Int32).toNatClampNeg = 0 := by rw [eI16, up2_ne (fun e => by cases e.1)]; exact v14
        have v22 : I16 153 (0 : Int32).toNatClampNeg = 0 := by rw [eI16]; exact up2_eq
        refine XW.fam (S' := (61, [(2, .int 1), (0, .ref 94), (1, .int dv)], [], (sh, I16, L, R))) (M := mr_334) rfl (show mcode 334 58 = some (58, .iinc 2 1, 3, 0, 0, 0, _) from rfl) (Or.inr (Or.inr (Or.inr (Or.inr (Or.inr (Or.inr (Or.inr (Or.inr (Or.inr ⟨2, 1, 0, rfl, rfl, by decide, rfl⟩))))))))) ?_
        refine XW.fam (S' := (32, [(2, .int 1), (0, .ref 94), (1, .int dv)], [], (sh, I16, L, R))) (M := mr_334) rfl (show mcode 334 61 = some (61, .goto (-29), 3, 32, 0, 0, _) from rfl) (Or.inr (Or.inl ⟨32, [], rfl, rfl⟩)) ?_
        refine XW.fam (S' := (33, [(2, .int 1), (0, .ref 94), (1, .int dv)], [.int 1], (sh, I16, L, R))) (M := mr_334) rfl (show mcode 334 32 = some (32, .iload_n 2, 1, 0, 0, 0, _) from rfl) (Or.inl ⟨.int 1, rfl, rfl⟩) ?_
        refine XW.fam (S' := (34, [(2, .int 1), (0, .ref 94), (1, .int dv)], [.int 3, .int 1], (sh, I16, L, R))) (M := mr_334) rfl (show mcode 334 33 = some (33, .iconst 3, 1, 0, 0, 0, _) from rfl) (Or.inl ⟨.int 3, rfl, rfl⟩) ?_
        refine XW.fam (S' := (37, [(2, .int 1), (0, .ref 94), (1, .int dv)], [], (sh, I16, L, R))) (M := mr_334) rfl (show mcode 334 34 = some (34, .if_icmp .ge 30, 3, 64, 0, 0, _) from rfl) (Or.inr (Or.inl ⟨37, [], rfl, rfl⟩)) ?_
        refine XW.fam (S' := (38, [(2, .int 1), (0, .ref 94), (1, .int dv)], [.ref 94], (sh, I16, L, R))) (M := mr_334) rfl (show mcode 334 37 = some (37, .aload_n 0, 1, 0, 0, 0, _) from rfl) (Or.inl ⟨.ref 94, rfl, rfl⟩) ?_
        refine XW.fam (S' := (41, [(2, .int 1), (0, .ref 94), (1, .int dv)], [.ref 151], (sh, I16, L, R))) (M := mr_334) rfl (show mcode 334 38 = some (38, .getfield 187, 3, 12, 84, 0, _) from rfl) (Or.inr (Or.inr (Or.inr (Or.inr (Or.inr (Or.inr (Or.inr (Or.inl ⟨_, _, rfl, fl_ld c94 r94_84 (by decide) (by decide), rfl⟩)))))))) ?_
        refine XW.fam (S' := (42, [(2, .int 1), (0, .ref 94), (1, .int dv)], [.int 1, .ref 151], (sh, I16, L, R))) (M := mr_334) rfl (show mcode 334 41 = some (41, .iload_n 2, 1, 0, 0, 0, _) from rfl) (Or.inl ⟨.int 1, rfl, rfl⟩) ?_
        refine XW.fam (S' := (43, [(2, .int 1), (0, .ref 94), (1, .int dv)], [.int 0, .int 1, .ref 151], (sh, I16, L, R))) (M := mr_334) rfl (show mcode 334 42 = some (42, .iconst 0, 1, 0, 0, 0, _) from rfl) (Or.inl ⟨.int 0, rfl, rfl⟩) ?_
        have hin23 : inR 1 3 = true := inR_of (by omega) (by omega)
        obtain ⟨I24, eI24⟩ : ∃ X, X = up2 I16 151 (1 : Int32).toNatClampNeg 0 := ⟨_, rfl⟩
        refine XW.fam (S' := (44, [(2, .int 1), (0, .ref 94), (1, .int dv)], [], (sh, I24, L, R))) (M := mr_334) rfl (show mcode 334 43 = some (43, .iastore, 1, 0, 0, 0, _) from rfl) (Or.inr (Or.inr (Or.inr (Or.inl ⟨_, _, by rw [eI24]; exact sta_i c151 hin23, rfl⟩)))) ?_
        have hwI24 : wOK (mkT vV []) (wE sh R) (sh, I24, L, R) := by rw [eI24]; exact wOK_u2 (q := 151) (k := (1 : Int32).toNatClampNeg) (x := 0) wE_put hwI16 rfl (by show ((-2147483648) : Int) ≤ _; omega) (by show _ ≤ (2147483647 : Int); omega)
        have hfI24 : fresh (sh, I24, L, R) := by rw [eI24]; exact fresh_I hfI16 c151
        have v25 : I24 94 79 = ma := by rw [eI24, up2_ne (fun e => by cases e.1)]; exact v18
        have v26 : I24 94 81 = mc := by rw [eI24, up2_ne (fun e => by cases e.1)]; exact v19
        have v28 : I24 152 (0 : Int32).toNatClampNeg = 0 := by rw [eI24, up2_ne (fun e => by cases e.1)]; exact v21
        have v29 : I24 153 (0 : Int32).toNatClampNeg = 0 := by rw [eI24, up2_ne (fun e => by cases e.1)]; exact v22
        have v30 : I24 151 (1 : Int32).toNatClampNeg = 0 := by rw [eI24]; exact up2_eq
        refine XW.fam (S' := (45, [(2, .int 1), (0, .ref 94), (1, .int dv)], [.ref 94], (sh, I24, L, R))) (M := mr_334) rfl (show mcode 334 44 = some (44, .aload_n 0, 1, 0, 0, 0, _) from rfl) (Or.inl ⟨.ref 94, rfl, rfl⟩) ?_
        refine XW.fam (S' := (48, [(2, .int 1), (0, .ref 94), (1, .int dv)], [.ref 152], (sh, I24, L, R))) (M := mr_334) rfl (show mcode 334 45 = some (45, .getfield 190, 3, 12, 85, 0, _) from rfl) (Or.inr (Or.inr (Or.inr (Or.inr (Or.inr (Or.inr (Or.inr (Or.inl ⟨_, _, rfl, fl_ld c94 r94_85 (by decide) (by decide), rfl⟩)))))))) ?_
        refine XW.fam (S' := (49, [(2, .int 1), (0, .ref 94), (1, .int dv)], [.int 1, .ref 152], (sh, I24, L, R))) (M := mr_334) rfl (show mcode 334 48 = some (48, .iload_n 2, 1, 0, 0, 0, _) from rfl) (Or.inl ⟨.int 1, rfl, rfl⟩) ?_
        refine XW.fam (S' := (50, [(2, .int 1), (0, .ref 94), (1, .int dv)], [.int 0, .int 1, .ref 152], (sh, I24, L, R))) (M := mr_334) rfl (show mcode 334 49 = some (49, .iconst 0, 1, 0, 0, 0, _) from rfl) (Or.inl ⟨.int 0, rfl, rfl⟩) ?_
        have hin31 : inR 1 3 = true := inR_of (by omega) (by omega)
        obtain ⟨I32, eI32⟩ : ∃ X, X = up2 I24 152 (1 : Int32).toNatClampNeg 0 := ⟨_, rfl⟩
        refine XW.fam (S' := (51, [(2, .int 1), (0, .ref 94), (1, .int dv)], [], (sh, I32, L, R))) (M := mr_334) rfl (show mcode 334 50 = some (50, .iastore, 1, 0, 0, 0, _) from rfl) (Or.inr (Or.inr (Or.inr (Or.inl ⟨_, _, by rw [eI32]; exact sta_i c152 hin31, rfl⟩)))) ?_
        have hwI32 : wOK (mkT vV []) (wE sh R) (sh, I32, L, R) := by rw [eI32]; exact wOK_u2 (q := 152) (k := (1 : Int32).toNatClampNeg) (x := 0) wE_put hwI24 rfl (by show (0 : Int) ≤ _; omega) (by show _ ≤ (3 : Int); omega)
        have hfI32 : fresh (sh, I32, L, R) := by rw [eI32]; exact fresh_I hfI24 c152
        have v33 : I32 94 79 = ma := by rw [eI32, up2_ne (fun e => by cases e.1)]; exact v25
        have v34 : I32 94 81 = mc := by rw [eI32, up2_ne (fun e => by cases e.1)]; exact v26
        have v36 : I32 153 (0 : Int32).toNatClampNeg = 0 := by rw [eI32, up2_ne (fun e => by cases e.1)]; exact v29
        have v37 : I32 151 (1 : Int32).toNatClampNeg = 0 := by rw [eI32, up2_ne (fun e => by cases e.1)]; exact v30
        have v38 : I32 152 (1 : Int32).toNatClampNeg = 0 := by rw [eI32]; exact up2_eq
        refine XW.fam (S' := (52, [(2, .int 1), (0, .ref 94), (1, .int dv)], [.ref 94], (sh, I32, L, R))) (M := mr_334) rfl (show mcode 334 51 = some (51, .aload_n 0, 1, 0, 0, 0, _) from rfl) (Or.inl ⟨.ref 94, rfl, rfl⟩) ?_
        refine XW.fam (S' := (55, [(2, .int 1), (0, .ref 94), (1, .int dv)], [.ref 153], (sh, I32, L, R))) (M := mr_334) rfl (show mcode 334 52 = some (52, .getfield 193, 3, 12, 86, 0, _) from rfl) (Or.inr (Or.inr (Or.inr (Or.inr (Or.inr (Or.inr (Or.inr (Or.inl ⟨_, _, rfl, fl_ld c94 r94_86 (by decide) (by decide), rfl⟩)))))))) ?_
        refine XW.fam (S' := (56, [(2, .int 1), (0, .ref 94), (1, .int dv)], [.int 1, .ref 153], (sh, I32, L, R))) (M := mr_334) rfl (show mcode 334 55 = some (55, .iload_n 2, 1, 0, 0, 0, _) from rfl) (Or.inl ⟨.int 1, rfl, rfl⟩) ?_
        refine XW.fam (S' := (57, [(2, .int 1), (0, .ref 94), (1, .int dv)], [.int 0, .int 1, .ref 153], (sh, I32, L, R))) (M := mr_334) rfl (show mcode 334 56 = some (56, .iconst 0, 1, 0, 0, 0, _) from rfl) (Or.inl ⟨.int 0, rfl, rfl⟩) ?_
        have hin39 : inR 1 3 = true := inR_of (by omega) (by omega)
        have b41 : vp_nar .boolean (0 : Int32) = 0 := rfl
        obtain ⟨I40, eI40⟩ : ∃ X, X = up2 I32 153 (1 : Int32).toNatClampNeg 0 := ⟨_, rfl⟩
        refine XW.fam (S' := (58, [(2, .int 1), (0, .ref 94), (1, .int dv)], [], (sh, I40, L, R))) (M := mr_334) rfl (show mcode 334 57 = some (57, .bastore, 1, 0, 0, 0, _) from rfl) (Or.inr (Or.inr (Or.inr (Or.inl ⟨_, _, by rw [eI40]; exact sta_z b41 c153 hin39, rfl⟩)))) ?_
        have hwI40 : wOK (mkT vV []) (wE sh R) (sh, I40, L, R) := by rw [eI40]; exact wOK_u2 (q := 153) (k := (1 : Int32).toNatClampNeg) (x := 0) wE_put hwI32 rfl (by show (0 : Int) ≤ _; omega) (by show _ ≤ (1 : Int); omega)
        have hfI40 : fresh (sh, I40, L, R) := by rw [eI40]; exact fresh_I hfI32 c153
        have v42 : I40 94 79 = ma := by rw [eI40, up2_ne (fun e => by cases e.1)]; exact v33
        have v43 : I40 94 81 = mc := by rw [eI40, up2_ne (fun e => by cases e.1)]; exact v34
        have v45 : I40 151 (1 : Int32).toNatClampNeg = 0 := by rw [eI40, up2_ne (fun e => by cases e.1)]; exact v37
        have v46 : I40 152 (1 : Int32).toNatClampNeg = 0 := by rw [eI40, up2_ne (fun e => by cases e.1)]; exact v38
        have v47 : I40 153 (1 : Int32).toNatClampNeg = 0 := by rw [eI40]; exact up2_eq
        refine XW.fam (S' := (61, [(2, .int 2), (0, .ref 94), (1, .int dv)], [], (sh, I40, L, R))) (M := mr_334) rfl (show mcode 334 58 = some (58, .iinc 2 1, 3, 0, 0, 0, _) from rfl) (Or.inr (Or.inr (Or.inr (Or.inr (Or.inr (Or.inr (Or.inr (Or.inr (Or.inr ⟨2, 1, 1, rfl, rfl, by decide, rfl⟩))))))))) ?_
        refine XW.fam (S' := (32, [(2, .int 2), (0, .ref 94), (1, .int dv)], [], (sh, I40, L, R))) (M := mr_334) rfl (show mcode 334 61 = some (61, .goto (-29), 3, 32, 0, 0, _) from rfl) (Or.inr (Or.inl ⟨32, [], rfl, rfl⟩)) ?_
        refine XW.fam (S' := (33, [(2, .int 2), (0, .ref 94), (1, .int dv)], [.int 2], (sh, I40, L, R))) (M := mr_334) rfl (show mcode 334 32 = some (32, .iload_n 2, 1, 0, 0, 0, _) from rfl) (Or.inl ⟨.int 2, rfl, rfl⟩) ?_
        refine XW.fam (S' := (34, [(2, .int 2), (0, .ref 94), (1, .int dv)], [.int 3, .int 2], (sh, I40, L, R))) (M := mr_334) rfl (show mcode 334 33 = some (33, .iconst 3, 1, 0, 0, 0, _) from rfl) (Or.inl ⟨.int 3, rfl, rfl⟩) ?_
        refine XW.fam (S' := (37, [(2, .int 2), (0, .ref 94), (1, .int dv)], [], (sh, I40, L, R))) (M := mr_334) rfl (show mcode 334 34 = some (34, .if_icmp .ge 30, 3, 64, 0, 0, _) from rfl) (Or.inr (Or.inl ⟨37, [], rfl, rfl⟩)) ?_
        refine XW.fam (S' := (38, [(2, .int 2), (0, .ref 94), (1, .int dv)], [.ref 94], (sh, I40, L, R))) (M := mr_334) rfl (show mcode 334 37 = some (37, .aload_n 0, 1, 0, 0, 0, _) from rfl) (Or.inl ⟨.ref 94, rfl, rfl⟩) ?_
        refine XW.fam (S' := (41, [(2, .int 2), (0, .ref 94), (1, .int dv)], [.ref 151], (sh, I40, L, R))) (M := mr_334) rfl (show mcode 334 38 = some (38, .getfield 187, 3, 12, 84, 0, _) from rfl) (Or.inr (Or.inr (Or.inr (Or.inr (Or.inr (Or.inr (Or.inr (Or.inl ⟨_, _, rfl, fl_ld c94 r94_84 (by decide) (by decide), rfl⟩)))))))) ?_
        refine XW.fam (S' := (42, [(2, .int 2), (0, .ref 94), (1, .int dv)], [.int 2, .ref 151], (sh, I40, L, R))) (M := mr_334) rfl (show mcode 334 41 = some (41, .iload_n 2, 1, 0, 0, 0, _) from rfl) (Or.inl ⟨.int 2, rfl, rfl⟩) ?_
        refine XW.fam (S' := (43, [(2, .int 2), (0, .ref 94), (1, .int dv)], [.int 0, .int 2, .ref 151], (sh, I40, L, R))) (M := mr_334) rfl (show mcode 334 42 = some (42, .iconst 0, 1, 0, 0, 0, _) from rfl) (Or.inl ⟨.int 0, rfl, rfl⟩) ?_
        have hin48 : inR 2 3 = true := inR_of (by omega) (by omega)
        obtain ⟨I49, eI49⟩ : ∃ X, X = up2 I40 151 (2 : Int32).toNatClampNeg 0 := ⟨_, rfl⟩
        refine XW.fam (S' := (44, [(2, .int 2), (0, .ref 94), (1, .int dv)], [], (sh, I49, L, R))) (M := mr_334) rfl (show mcode 334 43 = some (43, .iastore, 1, 0, 0, 0, _) from rfl) (Or.inr (Or.inr (Or.inr (Or.inl ⟨_, _, by rw [eI49]; exact sta_i c151 hin48, rfl⟩)))) ?_
        have hwI49 : wOK (mkT vV []) (wE sh R) (sh, I49, L, R) := by rw [eI49]; exact wOK_u2 (q := 151) (k := (2 : Int32).toNatClampNeg) (x := 0) wE_put hwI40 rfl (by show ((-2147483648) : Int) ≤ _; omega) (by show _ ≤ (2147483647 : Int); omega)
        have hfI49 : fresh (sh, I49, L, R) := by rw [eI49]; exact fresh_I hfI40 c151
        have v50 : I49 94 79 = ma := by rw [eI49, up2_ne (fun e => by cases e.1)]; exact v42
        have v51 : I49 94 81 = mc := by rw [eI49, up2_ne (fun e => by cases e.1)]; exact v43
        have v53 : I49 152 (1 : Int32).toNatClampNeg = 0 := by rw [eI49, up2_ne (fun e => by cases e.1)]; exact v46
        have v54 : I49 153 (1 : Int32).toNatClampNeg = 0 := by rw [eI49, up2_ne (fun e => by cases e.1)]; exact v47
        have v55 : I49 151 (2 : Int32).toNatClampNeg = 0 := by rw [eI49]; exact up2_eq
        refine XW.fam (S' := (45, [(2, .int 2), (0, .ref 94), (1, .int dv)], [.ref 94], (sh, I49, L, R))) (M := mr_334) rfl (show mcode 334 44 = some (44, .aload_n 0, 1, 0, 0, 0, _) from rfl) (Or.inl ⟨.ref 94, rfl, rfl⟩) ?_
        refine XW.fam (S' := (48, [(2, .int 2), (0, .ref 94), (1, .int dv)], [.ref 152], (sh, I49, L, R))) (M := mr_334) rfl (show mcode 334 45 = some (45, .getfield 190, 3, 12, 85, 0, _) from rfl) (Or.inr (Or.inr (Or.inr (Or.inr (Or.inr (Or.inr (Or.inr (Or.inl ⟨_, _, rfl, fl_ld c94 r94_85 (by decide) (by decide), rfl⟩)))))))) ?_
        refine XW.fam (S' := (49, [(2, .int 2), (0, .ref 94), (1, .int dv)], [.int 2, .ref 152], (sh, I49, L, R))) (M := mr_334) rfl (show mcode 334 48 = some (48, .iload_n 2, 1, 0, 0, 0, _) from rfl) (Or.inl ⟨.int 2, rfl, rfl⟩) ?_
        refine XW.fam (S' := (50, [(2, .int 2), (0, .ref 94), (1, .int dv)], [.int 0, .int 2, .ref 152], (sh, I49, L, R))) (M := mr_334) rfl (show mcode 334 49 = some (49, .iconst 0, 1, 0, 0, 0, _) from rfl) (Or.inl ⟨.int 0, rfl, rfl⟩) ?_
        have hin56 : inR 2 3 = true := inR_of (by omega) (by omega)
        obtain ⟨I57, eI57⟩ : ∃ X, X = up2 I49 152 (2 : Int32).toNatClampNeg 0 := ⟨_, rfl⟩
        refine XW.fam (S' := (51, [(2, .int 2), (0, .ref 94), (1, .int dv)], [], (sh, I57, L, R))) (M := mr_334) rfl (show mcode 334 50 = some (50, .iastore, 1, 0, 0, 0, _) from rfl) (Or.inr (Or.inr (Or.inr (Or.inl ⟨_, _, by rw [eI57]; exact sta_i c152 hin56, rfl⟩)))) ?_
        have hwI57 : wOK (mkT vV []) (wE sh R) (sh, I57, L, R) := by rw [eI57]; exact wOK_u2 (q := 152) (k := (2 : Int32).toNatClampNeg) (x := 0) wE_put hwI49 rfl (by show (0 : Int) ≤ _; omega) (by show _ ≤ (3 : Int); omega)
        have hfI57 : fresh (sh, I57, L, R) := by rw [eI57]; exact fresh_I hfI49 c152
        have v58 : I57 94 79 = ma := by rw [eI57, up2_ne (fun e => by cases e.1)]; exact v50
        have v59 : I57 94 81 = mc := by rw [eI57, up2_ne (fun e => by cases e.1)]; exact v51
        have v61 : I57 153 (1 : Int32).toNatClampNeg = 0 := by rw [eI57, up2_ne (fun e => by cases e.1)]; exact v54
        have v62 : I57 151 (2 : Int32).toNatClampNeg = 0 := by rw [eI57, up2_ne (fun e => by cases e.1)]; exact v55
        have v63 : I57 152 (2 : Int32).toNatClampNeg = 0 := by rw [eI57]; exact up2_eq
        refine XW.fam (S' := (52, [(2, .int 2), (0, .ref 94), (1, .int dv)], [.ref 94], (sh, I57, L, R))) (M := mr_334) rfl (show mcode 334 51 = some (51, .aload_n 0, 1, 0, 0, 0, _) from rfl) (Or.inl ⟨.ref 94, rfl, rfl⟩) ?_
        refine XW.fam (S' := (55, [(2, .int 2), (0, .ref 94), (1, .int dv)], [.ref 153], (sh, I57, L, R))) (M := mr_334) rfl (show mcode 334 52 = some (52, .getfield 193, 3, 12, 86, 0, _) from rfl) (Or.inr (Or.inr (Or.inr (Or.inr (Or.inr (Or.inr (Or.inr (Or.inl ⟨_, _, rfl, fl_ld c94 r94_86 (by decide) (by decide), rfl⟩)))))))) ?_
        refine XW.fam (S' := (56, [(2, .int 2), (0, .ref 94), (1, .int dv)], [.int 2, .ref 153], (sh, I57, L, R))) (M := mr_334) rfl (show mcode 334 55 = some (55, .iload_n 2, 1, 0, 0, 0, _) from rfl) (Or.inl ⟨.int 2, rfl, rfl⟩) ?_
        refine XW.fam (S' := (57, [(2, .int 2), (0, .ref 94), (1, .int dv)], [.int 0, .int 2, .ref 153], (sh, I57, L, R))) (M := mr_334) rfl (show mcode 334 56 = some (56, .iconst 0, 1, 0, 0, 0, _) from rfl) (Or.inl ⟨.int 0, rfl, rfl⟩) ?_
        have hin64 : inR 2 3 = true := inR_of (by omega) (by omega)
        have b66 : vp_nar .boolean (0 : Int32) = 0 := rfl
        obtain ⟨I65, eI65⟩ : ∃ X, X = up2 I57 153 (2 : Int32).toNatClampNeg 0 := ⟨_, rfl⟩
        refine XW.fam (S' := (58, [(2, .int 2), (0, .ref 94), (1, .int dv)], [], (sh, I65, L, R))) (M := mr_334) rfl (show mcode 334 57 = some (57, .bastore, 1, 0, 0, 0, _) from rfl) (Or.inr (Or.inr (Or.inr (Or.inl ⟨_, _, by rw [eI65]; exact sta_z b66 c153 hin64, rfl⟩)))) ?_
        have hwI65 : wOK (mkT vV []) (wE sh R) (sh, I65, L, R) := by rw [eI65]; exact wOK_u2 (q := 153) (k := (2 : Int32).toNatClampNeg) (x := 0) wE_put hwI57 rfl (by show (0 : Int) ≤ _; omega) (by show _ ≤ (1 : Int); omega)
        have hfI65 : fresh (sh, I65, L, R) := by rw [eI65]; exact fresh_I hfI57 c153
        have v67 : I65 94 79 = ma := by rw [eI65, up2_ne (fun e => by cases e.1)]; exact v58
        have v68 : I65 94 81 = mc := by rw [eI65, up2_ne (fun e => by cases e.1)]; exact v59
        have v70 : I65 151 (2 : Int32).toNatClampNeg = 0 := by rw [eI65, up2_ne (fun e => by cases e.1)]; exact v62
        have v71 : I65 152 (2 : Int32).toNatClampNeg = 0 := by rw [eI65, up2_ne (fun e => by cases e.1)]; exact v63
        have v72 : I65 153 (2 : Int32).toNatClampNeg = 0 := by rw [eI65]; exact up2_eq
        refine XW.fam (S' := (61, [(2, .int 3), (0, .ref 94), (1, .int dv)], [], (sh, I65, L, R))) (M := mr_334) rfl (show mcode 334 58 = some (58, .iinc 2 1, 3, 0, 0, 0, _) from rfl) (Or.inr (Or.inr (Or.inr (Or.inr (Or.inr (Or.inr (Or.inr (Or.inr (Or.inr ⟨2, 1, 2, rfl, rfl, by decide, rfl⟩))))))))) ?_
        refine XW.fam (S' := (32, [(2, .int 3), (0, .ref 94), (1, .int dv)], [], (sh, I65, L, R))) (M := mr_334) rfl (show mcode 334 61 = some (61, .goto (-29), 3, 32, 0, 0, _) from rfl) (Or.inr (Or.inl ⟨32, [], rfl, rfl⟩)) ?_
        refine XW.fam (S' := (33, [(2, .int 3), (0, .ref 94), (1, .int dv)], [.int 3], (sh, I65, L, R))) (M := mr_334) rfl (show mcode 334 32 = some (32, .iload_n 2, 1, 0, 0, 0, _) from rfl) (Or.inl ⟨.int 3, rfl, rfl⟩) ?_
        refine XW.fam (S' := (34, [(2, .int 3), (0, .ref 94), (1, .int dv)], [.int 3, .int 3], (sh, I65, L, R))) (M := mr_334) rfl (show mcode 334 33 = some (33, .iconst 3, 1, 0, 0, 0, _) from rfl) (Or.inl ⟨.int 3, rfl, rfl⟩) ?_
        refine XW.fam (S' := (64, [(2, .int 3), (0, .ref 94), (1, .int dv)], [], (sh, I65, L, R))) (M := mr_334) rfl (show mcode 334 34 = some (34, .if_icmp .ge 30, 3, 64, 0, 0, _) from rfl) (Or.inr (Or.inl ⟨64, [], rfl, rfl⟩)) ?_
        refine XW.fam (S' := (65, [(2, .int 3), (0, .ref 94), (1, .int dv)], [.ref 94], (sh, I65, L, R))) (M := mr_334) rfl (show mcode 334 64 = some (64, .aload_n 0, 1, 0, 0, 0, _) from rfl) (Or.inl ⟨.ref 94, rfl, rfl⟩) ?_
        refine XW.fam (S' := (66, [(2, .int 3), (0, .ref 94), (1, .int dv)], [.int 0, .ref 94], (sh, I65, L, R))) (M := mr_334) rfl (show mcode 334 65 = some (65, .iconst 0, 1, 0, 0, 0, _) from rfl) (Or.inl ⟨.int 0, rfl, rfl⟩) ?_
        obtain ⟨I73, eI73⟩ : ∃ X, X = up2 I65 94 91 0 := ⟨_, rfl⟩
        refine XW.fam (S' := (69, [(2, .int 3), (0, .ref 94), (1, .int dv)], [], (sh, I73, L, R))) (M := mr_334) rfl (show mcode 334 66 = some (66, .putfield 560, 3, 12, 91, 0, _) from rfl) (Or.inr (Or.inr (Or.inr (Or.inr (Or.inr (Or.inr (Or.inr (Or.inr (Or.inl ⟨_, _, _, rfl, by rw [eI73]; exact stf_Z c94 (by decide) (by decide) (by decide) (by decide), rfl⟩))))))))) ?_
        have hwI73 : wOK (mkT vV []) (wE sh R) (sh, I73, L, R) := by rw [eI73]; exact wOK_u2 (q := 94) (k := 91) (x := 0) wE_put hwI65 rfl (by show (0 : Int) ≤ _; omega) (by show _ ≤ (1 : Int); omega)
        have hfI73 : fresh (sh, I73, L, R) := by rw [eI73]; exact fresh_I hfI65 c94
        have v74 : I73 94 79 = ma := by rw [eI73, up2_ne (fun e => by cases e.2)]; exact v67
        have v75 : I73 94 81 = mc := by rw [eI73, up2_ne (fun e => by cases e.2)]; exact v68
        have v76 : I73 151 (2 : Int32).toNatClampNeg = 0 := by rw [eI73, up2_ne (fun e => by cases e.1)]; exact v70
        have v77 : I73 152 (2 : Int32).toNatClampNeg = 0 := by rw [eI73, up2_ne (fun e => by cases e.1)]; exact v71
        have v78 : I73 153 (2 : Int32).toNatClampNeg = 0 := by rw [eI73, up2_ne (fun e => by cases e.1)]; exact v72
        have v79 : I73 94 91 = 0 := by rw [eI73]; exact up2_eq
        refine XW.fam (S' := (70, [(2, .int 3), (0, .ref 94), (1, .int dv)], [.ref 94], (sh, I73, L, R))) (M := mr_334) rfl (show mcode 334 69 = some (69, .aload_n 0, 1, 0, 0, 0, _) from rfl) (Or.inl ⟨.ref 94, rfl, rfl⟩) ?_
        refine XW.fam (S' := (71, [(2, .int 3), (0, .ref 94), (1, .int dv)], [.int dv, .ref 94], (sh, I73, L, R))) (M := mr_334) rfl (show mcode 334 70 = some (70, .iload_n 1, 1, 0, 0, 0, _) from rfl) (Or.inl ⟨.int dv, rfl, rfl⟩) ?_
        refine XW.fam (S' := (72, [(2, .int 3), (0, .ref 94), (1, .int dv)], [.int 0, .int dv, .ref 94], (sh, I73, L, R))) (M := mr_334) rfl (show mcode 334 71 = some (71, .iconst 0, 1, 0, 0, 0, _) from rfl) (Or.inl ⟨.int 0, rfl, rfl⟩) ?_
        refine XW.fam (S' := (73, [(2, .int 3), (0, .ref 94), (1, .int dv)], [.int 0, .int 0, .int dv, .ref 94], (sh, I73, L, R))) (M := mr_334) rfl (show mcode 334 72 = some (72, .iconst 0, 1, 0, 0, 0, _) from rfl) (Or.inl ⟨.int 0, rfl, rfl⟩) ?_
        have kI : ∀ q j, ¬ q = 151 → ¬ q = 152 → ¬ q = 153 → ¬ (q = 94 ∧ j = 91) → I73 q j = I q j := by
          intro q j a1 a2 a3 a4
          rw [eI73, up2_ne a4, eI65, up2_ne (fun e => a3 e.1), eI57, up2_ne (fun e => a2 e.1), eI49, up2_ne (fun e => a1 e.1), eI40, up2_ne (fun e => a3 e.1), eI32, up2_ne (fun e => a2 e.1), eI24, up2_ne (fun e => a1 e.1), eI16, up2_ne (fun e => a3 e.1), eI10, up2_ne (fun e => a2 e.1), eI5, up2_ne (fun e => a1 e.1)]
        have z151 : ∀ j, j < 3 → I73 151 j = 0 := by
          intro j hj
          rcases (by omega : j = 0 ∨ j = 1 ∨ j = 2) with rfl | rfl | rfl
          · rw [eI73, up2_ne (fun e => absurd e.1 (by decide)), eI65, up2_ne (fun e => absurd e.1 (by decide)), eI57, up2_ne (fun e => absurd e.1 (by decide)), eI49, up2_ne (fun e => absurd e.2 (by decide)), eI40, up2_ne (fun e => absurd e.1 (by decide)), eI32, up2_ne (fun e => absurd e.1 (by decide)), eI24, up2_ne (fun e => absurd e.2 (by decide)), eI16, up2_ne (fun e => absurd e.1 (by decide)), eI10, up2_ne (fun e => absurd e.1 (by decide)), eI5, up2_at (by decide)]
          · rw [eI73, up2_ne (fun e => absurd e.1 (by decide)), eI65, up2_ne (fun e => absurd e.1 (by decide)), eI57, up2_ne (fun e => absurd e.1 (by decide)), eI49, up2_ne (fun e => absurd e.2 (by decide)), eI40, up2_ne (fun e => absurd e.1 (by decide)), eI32, up2_ne (fun e => absurd e.1 (by decide)), eI24, up2_at (by decide)]
          · rw [eI73, up2_ne (fun e => absurd e.1 (by decide)), eI65, up2_ne (fun e => absurd e.1 (by decide)), eI57, up2_ne (fun e => absurd e.1 (by decide)), eI49, up2_at (by decide)]
        have z152 : ∀ j, j < 3 → I73 152 j = 0 := by
          intro j hj
          rcases (by omega : j = 0 ∨ j = 1 ∨ j = 2) with rfl | rfl | rfl
          · rw [eI73, up2_ne (fun e => absurd e.1 (by decide)), eI65, up2_ne (fun e => absurd e.1 (by decide)), eI57, up2_ne (fun e => absurd e.2 (by decide)), eI49, up2_ne (fun e => absurd e.1 (by decide)), eI40, up2_ne (fun e => absurd e.1 (by decide)), eI32, up2_ne (fun e => absurd e.2 (by decide)), eI24, up2_ne (fun e => absurd e.1 (by decide)), eI16, up2_ne (fun e => absurd e.1 (by decide)), eI10, up2_at (by decide)]
          · rw [eI73, up2_ne (fun e => absurd e.1 (by decide)), eI65, up2_ne (fun e => absurd e.1 (by decide)), eI57, up2_ne (fun e => absurd e.2 (by decide)), eI49, up2_ne (fun e => absurd e.1 (by decide)), eI40, up2_ne (fun e => absurd e.1 (by decide)), eI32, up2_at (by decide)]
          · rw [eI73, up2_ne (fun e => absurd e.1 (by decide)), eI65, up2_ne (fun e => absurd e.1 (by decide)), eI57, up2_at (by decide)]
        have z153 : ∀ j, j < 3 → I73 153 j = 0 := by
          intro j hj
          rcases (by omega : j = 0 ∨ j = 1 ∨ j = 2) with rfl | rfl | rfl
          · rw [eI73, up2_ne (fun e => absurd e.1 (by decide)), eI65, up2_ne (fun e => absurd e.2 (by decide)), eI57, up2_ne (fun e => absurd e.1 (by decide)), eI49, up2_ne (fun e => absurd e.1 (by decide)), eI40, up2_ne (fun e => absurd e.2 (by decide)), eI32, up2_ne (fun e => absurd e.1 (by decide)), eI24, up2_ne (fun e => absurd e.1 (by decide)), eI16, up2_at (by decide)]
          · rw [eI73, up2_ne (fun e => absurd e.1 (by decide)), eI65, up2_ne (fun e => absurd e.2 (by decide)), eI57, up2_ne (fun e => absurd e.1 (by decide)), eI49, up2_ne (fun e => absurd e.1 (by decide)), eI40, up2_at (by decide)]
          · rw [eI73, up2_ne (fun e => absurd e.1 (by decide)), eI65, up2_at (by decide)]
        have nn : ∀ {q j : Nat}, ¬ q = 94 → ¬ (q = 94 ∧ j = 91) := fun h e => h e.1
        have k148 : ∀ k, I73 148 k = I 148 k := fun k => kI 148 k (by decide) (by decide) (by decide) (nn (by decide))
        have k135 : ∀ k, I73 135 k = I 135 k := fun k => kI 135 k (by decide) (by decide) (by decide) (nn (by decide))
        have k136 : ∀ k, I73 136 k = I 136 k := fun k => kI 136 k (by decide) (by decide) (by decide) (nn (by decide))
        have k150 : ∀ k, I73 150 k = I 150 k := fun k => kI 150 k (by decide) (by decide) (by decide) (nn (by decide))
        have hS2 : stM I73 ma mc := by
          refine ⟨⟨(kI 94 79 (by decide) (by decide) (by decide) (by decide)).trans em, (kI 94 81 (by decide) (by decide) (by decide) (by decide)).trans emc⟩, by omega, by omega, fun k hk => ?_⟩
          have a3 : 1 ≤ (I 135 (I 148 k).toNatClampNeg).toInt ∧ 1 ≤ (I 136 (I 148 k).toNatClampNeg).toInt := hV.1 k (by show (k : Int) < (I 94 79).toInt; rw [em]; exact hk)
          have a4 : (I 135 (I 148 k).toNatClampNeg).toInt ≤ 60 := (hw.2.2.1 135 _).2
          have a5 : (I 136 (I 148 k).toNatClampNeg).toInt ≤ 30 := (hw.2.2.1 136 _).2
          rw [k148, k135, k136]
          exact ⟨⟨a3.1, a4⟩, ⟨a3.2, a5⟩⟩
        have eR : vRow I73 136 148 = vRow I 136 148 := vRow_congr k136 k148
        have eB : vRow I73 135 148 = vRow I 135 148 := vRow_congr k135 k148
        obtain ⟨x2, hD2, hN2⟩ := dyM_0 (I := I73) (ma := ma) (mc := mc) hS2 z151 z152 z153 (fun p hp => by rw [k150]; exact hV.2 p (by show (p : Int) < (I 94 81).toInt; rw [emc]; exact hp))
        have hWn := (yyW_rng (a := ma.toInt.toNat) (c := mc.toInt.toNat) (B := vRow I73 135 148) (P := vRow I73 136 148) (d := dv.toInt) (by omega) (fun _ => vRow_ge) _ (vxM I73 ma.toInt.toNat) (Nat.le_refl _) (fun k _ => (dyM_c hD2 k).1) (dyM_w hD2)).1
        have b0 : bsM I73 = none := by unfold bsM; rw [show I73 94 91 = 0 by rw [eI73]; exact up2_eq]; exact if_pos rfl
        refine XW.call (d' := d + 2 + 10) (mc' := 0) (ms' := 0) (av := [.ref 94, .int dv, .int 0, .int 0]) (rest := []) (M := mr_334) (Ma := mr_335) rfl (show mcode 334 73 = some (73, .invokevirtual 566, 3, 335, 0, 0, _) from rfl) rfl (by decide) (by decide) ⟨rfl, 94, _, rfl, c94⟩ rfl rfl (show 0 ≤ 8 by decide) (tc_mcho (d := d) (J := I73) (ma := ma) (mc := mc) (dv := dv) hS2 10 (I := I73) (L := L) 0 0 hwI73 hfI73 (fun _ _ _ => rfl) hD2 hN2) (by omega) (Nat.zero_le _) (Nat.zero_le _) (fun rQ80 wQ80 Q80 => ?_)
        obtain ⟨hrQ80, hfQ80, hwQ80, hIQ80, hPQ80, hZQ80⟩ := Q80
        subst hrQ80
        obtain ⟨shQ80, IQ80, LQ80, RQ80⟩ := wQ80
        obtain rfl : sh = shQ80 := hwQ80.2.2.2.1.symm
        obtain rfl : R = RQ80 := hwQ80.2.2.2.2.1.symm
        have hZ : bsM IQ80 = upY (yyW ma.toInt.toNat mc.toInt.toNat (vRow I73 135 148) (vRow I73 136 148) dv.toInt (vxM I73 ma.toInt.toNat)) (yyL ma.toInt.toNat mc.toInt.toNat (vRow I73 135 148) (vRow I73 136 148) dv.toInt (vxM I73 ma.toInt.toNat)) 0 [] (bsM I73) := hZQ80
        rw [b0, upY_none hWn] at hZ
        obtain ⟨hz1, hz2⟩ := bsM_some hZ
        have x3 : x00 I73 150 = x00 I 150 := Prod.ext (funext fun p => by show (I73 150 p).toInt = (I 150 p).toInt; rw [k150]) rfl
        rw [x2, x3, eB, eR, Int.zero_add] at hz1
        rw [x2, x3, eB, eR, List.nil_append] at hz2
        obtain ⟨bh, ebh⟩ : ∃ z : Int32, IQ80 94 90 = z := ⟨_, rfl⟩
        rw [ebh] at hz1
        refine XW.fam (S' := (77, [(2, .int 3), (0, .ref 94), (1, .int dv)], [.ref 94], (sh, IQ80, LQ80, R))) (M := mr_334) rfl (show mcode 334 76 = some (76, .aload_n 0, 1, 0, 0, 0, _) from rfl) (Or.inl ⟨.ref 94, rfl, rfl⟩) ?_
        refine XW.fam (S' := (78, [(2, .int 3), (0, .ref 94), (1, .int dv)], [.int 0, .ref 94], (sh, IQ80, LQ80, R))) (M := mr_334) rfl (show mcode 334 77 = some (77, .iconst 0, 1, 0, 0, 0, _) from rfl) (Or.inl ⟨.int 0, rfl, rfl⟩) ?_
        obtain ⟨I81, eI81⟩ : ∃ X, X = up2 IQ80 94 79 0 := ⟨_, rfl⟩
        refine XW.fam (S' := (81, [(2, .int 3), (0, .ref 94), (1, .int dv)], [], (sh, I81, LQ80, R))) (M := mr_334) rfl (show mcode 334 78 = some (78, .putfield 551, 3, 12, 79, 0, _) from rfl) (Or.inr (Or.inr (Or.inr (Or.inr (Or.inr (Or.inr (Or.inr (Or.inr (Or.inl ⟨_, _, _, rfl, by rw [eI81]; exact stf_I c94 (by decide) (by decide) (by decide), rfl⟩))))))))) ?_
        have hwI81 : wOK (mkT vV []) (wE sh R) (sh, I81, LQ80, R) := by rw [eI81]; exact wOK_u2 (q := 94) (k := 79) (x := 0) wE_put hwQ80 rfl (by show (0 : Int) ≤ _; omega) (by show _ ≤ (3 : Int); omega)
        have hfI81 : fresh (sh, I81, LQ80, R) := by rw [eI81]; exact fresh_I hfQ80 c94
        have v82 : I81 94 90 = bh := by rw [eI81, up2_ne (fun e => by cases e.2)]; exact ebh
        have v83 : I81 94 79 = 0 := by rw [eI81]; exact up2_eq
        refine XW.fam (S' := (82, [(2, .int 3), (0, .ref 94), (1, .int dv)], [.ref 94], (sh, I81, LQ80, R))) (M := mr_334) rfl (show mcode 334 81 = some (81, .aload_n 0, 1, 0, 0, 0, _) from rfl) (Or.inl ⟨.ref 94, rfl, rfl⟩) ?_
        refine XW.fam (S' := (83, [(2, .int 3), (0, .ref 94), (1, .int dv)], [.int 0, .ref 94], (sh, I81, LQ80, R))) (M := mr_334) rfl (show mcode 334 82 = some (82, .iconst 0, 1, 0, 0, 0, _) from rfl) (Or.inl ⟨.int 0, rfl, rfl⟩) ?_
        obtain ⟨I84, eI84⟩ : ∃ X, X = up2 I81 94 81 0 := ⟨_, rfl⟩
        refine XW.fam (S' := (86, [(2, .int 3), (0, .ref 94), (1, .int dv)], [], (sh, I84, LQ80, R))) (M := mr_334) rfl (show mcode 334 83 = some (83, .putfield 554, 3, 12, 81, 0, _) from rfl) (Or.inr (Or.inr (Or.inr (Or.inr (Or.inr (Or.inr (Or.inr (Or.inr (Or.inl ⟨_, _, _, rfl, by rw [eI84]; exact stf_I c94 (by decide) (by decide) (by decide), rfl⟩))))))))) ?_
        have hwI84 : wOK (mkT vV []) (wE sh R) (sh, I84, LQ80, R) := by rw [eI84]; exact wOK_u2 (q := 94) (k := 81) (x := 0) wE_put hwI81 rfl (by show (0 : Int) ≤ _; omega) (by show _ ≤ (3 : Int); omega)
        have hfI84 : fresh (sh, I84, LQ80, R) := by rw [eI84]; exact fresh_I hfI81 c94
        have v85 : I84 94 90 = bh := by rw [eI84, up2_ne (fun e => by cases e.2)]; exact v82
        have v86 : I84 94 79 = 0 := by rw [eI84, up2_ne (fun e => by cases e.2)]; exact v83
        have v87 : I84 94 81 = 0 := by rw [eI84]; exact up2_eq
        refine XW.fam (S' := (87, [(2, .int 3), (0, .ref 94), (1, .int dv)], [.ref 94], (sh, I84, LQ80, R))) (M := mr_334) rfl (show mcode 334 86 = some (86, .aload_n 0, 1, 0, 0, 0, _) from rfl) (Or.inl ⟨.ref 94, rfl, rfl⟩) ?_
        refine XW.fam (S' := (90, [(2, .int 3), (0, .ref 94), (1, .int dv)], [.int (I84 94 90)], (sh, I84, LQ80, R))) (M := mr_334) rfl (show mcode 334 87 = some (87, .getfield 563, 3, 12, 90, 0, _) from rfl) (Or.inr (Or.inr (Or.inr (Or.inr (Or.inr (Or.inr (Or.inr (Or.inl ⟨_, _, rfl, fl_ldI c94 (by decide) (by decide), rfl⟩)))))))) ?_
        rw [v85]
        refine XW.ret (r := some (.int bh)) ⟨⟨.int, rfl, rfl⟩, by decide +kernel⟩ ?_
        have k9 : ∀ q j, ¬ (q = 94 ∧ j = 79) → ¬ (q = 94 ∧ j = 81) → I84 q j = IQ80 q j := by
          intro q j a1 a2
          rw [eI84, up2_ne a2, eI81, up2_ne a1]
        refine ⟨hfI84, ⟨sh, R, hwI84⟩, fun q k hq => ?_, Or.inr (Or.inr ⟨by omega, by show ¬ ((I 94 79).toInt = 0 ∨ (I 94 81).toInt = 0); rw [em, emc]; omega, ⟨bh, rfl, ?_⟩, ?_, ?_, ?_⟩)⟩
        · show I84 q k = I q k
          rw [k9 q k (fun e => by rw [e.1, e.2] at hq; cases hq) (fun e => by rw [e.1, e.2] at hq; cases hq), (show IQ80 q k = I73 q k from hIQ80 q k (inm_vm hq))]
          exact kI q k (fun e => by rw [e] at hq; cases hq) (fun e => by rw [e] at hq; cases hq) (fun e => by rw [e] at hq; cases hq) (fun e => by rw [e.1, e.2] at hq; cases hq)
        · show bh.toInt = yyW (I 94 79).toInt.toNat (I 94 81).toInt.toNat _ _ _ _
          rw [em, emc]
          exact hz1
        · show I84 94 79 = 0
          rw [eI84, up2_ne (by decide), eI81, up2_eq]
        · show I84 94 81 = 0
          rw [eI84, up2_eq]
        · show rwL I84 155 (I84 94 89).toInt.toNat = yyL (I 94 79).toInt.toNat (I 94 81).toInt.toNat _ _ _ _
          rw [em, emc, k9 94 89 (by decide) (by decide), rwL_congr (I := I84) (J := IQ80) (q := 155) (q' := 155) (fun k _ => k9 155 k (fun e => by cases e.1) (fun e => by cases e.1))]
          exact hz2
      | false =>
        have gk3 : ¬ (¬ (mc).toInt = 0) := icF (c := .ne) (a := (mc).toInt) (b := 0) rfl (by decide) k3
        refine XW.fam (S' := (27, [(0, .ref 94), (1, .int dv)], [], (sh, I, L, R))) (M := mr_334) rfl (show mcode 334 24 = some (24, .ifCond .ne 6, 3, 30, 0, 0, _) from rfl) (Or.inr (Or.inl ⟨27, [], by simp [brn, k3], rfl⟩)) ?_
        refine XW.fam (S' := (29, [(0, .ref 94), (1, .int dv)], [.int (-2)], (sh, I, L, R))) (M := mr_334) rfl (show mcode 334 27 = some (27, .bipush (-2), 2, 0, 0, 0, _) from rfl) (Or.inl ⟨.int (-2), rfl, rfl⟩) ?_
        refine XW.ret (r := some (.int (-2))) ⟨⟨.int, rfl, rfl⟩, by decide +kernel⟩ ?_
        exact ⟨hf, ⟨sh, R, hw⟩, fun _ _ _ => rfl, Or.inr (Or.inl ⟨by omega, by show (I 94 79).toInt = 0 ∨ (I 94 81).toInt = 0; rw [em, emc]; omega, rfl, rfl⟩)⟩
/-- voyage: a place of the best row, or refused -/
def Qvg (qb kb rb : Nat) (v : Int32) (w : mW) (r : Option Value) (w' : mW) : Prop := w' = w ∧ (((0 ≤ v.toInt ∧ v.toInt < (w.2.1 qb kb).toInt) ∧ r = some (.int (w.2.1 rb v.toNatClampNeg))) ∨ (¬ (0 ≤ v.toInt ∧ v.toInt < (w.2.1 qb kb).toInt) ∧ r = some (.int (-1))))
theorem Qvg_int {qb kb rb : Nat} {v : Int32} {w w' : mW} {r : Option Value} (h : Qvg qb kb rb v w r w') : ∃ y : Int32, r = some (.int y) := by
  rcases h.2 with ⟨-, h⟩ | ⟨-, h⟩
  · exact ⟨_, h⟩
  · exact ⟨_, h⟩
theorem tc_choice {d : Nat} {sh : List mE} {I : Nat → Nat → Int32} {L : Nat → Nat → Int64} {R : Nat → Nat → Option Nat} {v : Int32} (hw : wOK (mkT vV []) (wE sh R) (sh, I, L, R)) : Tc 189 d 0 0 [.ref 75, .int v] (sh, I, L, R) (Qvg 75 11 82 v (sh, I, L, R)) := by
  have c75 : sh[75]? = some (.inr 9) := hw.1 75 _ rfl
  have c82 : sh[82]? = some (.inl (.int, 9)) := hw.1 82 _ rfl
  have r75_10 : R 75 10 = some 82 := hw.2.1 75 10 _ rfl
  have zm1 : ((-1) : Int32).toInt = (-1) := rfl
  have z0 : (0 : Int32).toInt = 0 := rfl
  have h11 : 0 ≤ (I 75 11).toInt ∧ (I 75 11).toInt ≤ 9 := hw.2.2.1 75 11
  refine Tc.of mr_189 rfl (show 2 ≤ mr_189.2.2.2.1 by decide) ?_
  refine XW.fam (S' := (1, [(0, .ref 75), (1, .int v)], [.int v], (sh, I, L, R))) (M := mr_189) rfl (show mcode 189 0 = some (0, .iload_n 1, 1, 0, 0, 0, _) from rfl) (Or.inl ⟨.int v, rfl, rfl⟩) ?_
  cases k1 : bcmp .lt v 0 with
  | true =>
    have gk1 : (v).toInt < 0 := icT (c := .lt) (a := (v).toInt) (b := 0) rfl (by decide) k1
    refine XW.fam (S' := (21, [(0, .ref 75), (1, .int v)], [], (sh, I, L, R))) (M := mr_189) rfl (show mcode 189 1 = some (1, .ifCond .lt 20, 3, 21, 0, 0, _) from rfl) (Or.inr (Or.inl ⟨21, [], by simp [brn, k1], rfl⟩)) ?_
    refine XW.fam (S' := (22, [(0, .ref 75), (1, .int v)], [.int (-1)], (sh, I, L, R))) (M := mr_189) rfl (show mcode 189 21 = some (21, .iconst (-1), 1, 0, 0, 0, _) from rfl) (Or.inl ⟨.int (-1), rfl, rfl⟩) ?_
    refine XW.ret (r := some (.int (-1))) ⟨⟨.int, rfl, rfl⟩, by decide +kernel⟩ ?_
    exact ⟨rfl, Or.inr ⟨fun q => by have q1 : 0 ≤ v.toInt ∧ v.toInt < (I 75 11).toInt := q; omega, rfl⟩⟩
  | false =>
    have gk1 : ¬ ((v).toInt < 0) := icF (c := .lt) (a := (v).toInt) (b := 0) rfl (by decide) k1
    refine XW.fam (S' := (4, [(0, .ref 75), (1, .int v)], [], (sh, I, L, R))) (M := mr_189) rfl (show mcode 189 1 = some (1, .ifCond .lt 20, 3, 21, 0, 0, _) from rfl) (Or.inr (Or.inl ⟨4, [], by simp [brn, k1], rfl⟩)) ?_
    refine XW.fam (S' := (5, [(0, .ref 75), (1, .int v)], [.int v], (sh, I, L, R))) (M := mr_189) rfl (show mcode 189 4 = some (4, .iload_n 1, 1, 0, 0, 0, _) from rfl) (Or.inl ⟨.int v, rfl, rfl⟩) ?_
    refine XW.fam (S' := (6, [(0, .ref 75), (1, .int v)], [.ref 75, .int v], (sh, I, L, R))) (M := mr_189) rfl (show mcode 189 5 = some (5, .aload_n 0, 1, 0, 0, 0, _) from rfl) (Or.inl ⟨.ref 75, rfl, rfl⟩) ?_
    refine XW.fam (S' := (9, [(0, .ref 75), (1, .int v)], [.int (I 75 11), .int v], (sh, I, L, R))) (M := mr_189) rfl (show mcode 189 6 = some (6, .getfield 92, 3, 9, 11, 0, _) from rfl) (Or.inr (Or.inr (Or.inr (Or.inr (Or.inr (Or.inr (Or.inr (Or.inl ⟨_, _, rfl, fl_ldI c75 (by decide) (by decide), rfl⟩)))))))) ?_
    cases k2 : bcmp .ge v (I 75 11) with
    | true =>
      have gk2 : ((I 75 11)).toInt ≤ (v).toInt := icT (c := .ge) (a := (v).toInt) (b := ((I 75 11)).toInt) rfl rfl k2
      refine XW.fam (S' := (21, [(0, .ref 75), (1, .int v)], [], (sh, I, L, R))) (M := mr_189) rfl (show mcode 189 9 = some (9, .if_icmp .ge 12, 3, 21, 0, 0, _) from rfl) (Or.inr (Or.inl ⟨21, [], by simp [brn, k2], rfl⟩)) ?_
      refine XW.fam (S' := (22, [(0, .ref 75), (1, .int v)], [.int (-1)], (sh, I, L, R))) (M := mr_189) rfl (show mcode 189 21 = some (21, .iconst (-1), 1, 0, 0, 0, _) from rfl) (Or.inl ⟨.int (-1), rfl, rfl⟩) ?_
      refine XW.ret (r := some (.int (-1))) ⟨⟨.int, rfl, rfl⟩, by decide +kernel⟩ ?_
      exact ⟨rfl, Or.inr ⟨fun q => by have q1 : 0 ≤ v.toInt ∧ v.toInt < (I 75 11).toInt := q; omega, rfl⟩⟩
    | false =>
      have gk2 : ¬ (((I 75 11)).toInt ≤ (v).toInt) := icF (c := .ge) (a := (v).toInt) (b := ((I 75 11)).toInt) rfl rfl k2
      refine XW.fam (S' := (12, [(0, .ref 75), (1, .int v)], [], (sh, I, L, R))) (M := mr_189) rfl (show mcode 189 9 = some (9, .if_icmp .ge 12, 3, 21, 0, 0, _) from rfl) (Or.inr (Or.inl ⟨12, [], by simp [brn, k2], rfl⟩)) ?_
      refine XW.fam (S' := (13, [(0, .ref 75), (1, .int v)], [.ref 75], (sh, I, L, R))) (M := mr_189) rfl (show mcode 189 12 = some (12, .aload_n 0, 1, 0, 0, 0, _) from rfl) (Or.inl ⟨.ref 75, rfl, rfl⟩) ?_
      refine XW.fam (S' := (16, [(0, .ref 75), (1, .int v)], [.ref 82], (sh, I, L, R))) (M := mr_189) rfl (show mcode 189 13 = some (13, .getfield 30, 3, 9, 10, 0, _) from rfl) (Or.inr (Or.inr (Or.inr (Or.inr (Or.inr (Or.inr (Or.inr (Or.inl ⟨_, _, rfl, fl_ld c75 r75_10 (by decide) (by decide), rfl⟩)))))))) ?_
      refine XW.fam (S' := (17, [(0, .ref 75), (1, .int v)], [.int v, .ref 82], (sh, I, L, R))) (M := mr_189) rfl (show mcode 189 16 = some (16, .iload_n 1, 1, 0, 0, 0, _) from rfl) (Or.inl ⟨.int v, rfl, rfl⟩) ?_
      have hin3 : inR v 9 = true := inR_of (by omega) (by omega)
      refine XW.fam (S' := (18, [(0, .ref 75), (1, .int v)], [.int (I 82 (v).toNatClampNeg)], (sh, I, L, R))) (M := mr_189) rfl (show mcode 189 17 = some (17, .iaload, 1, 0, 0, 0, _) from rfl) (Or.inr (Or.inr (Or.inl ⟨_, lda_i c82 hin3, rfl⟩))) ?_
      refine XW.fam (S' := (22, [(0, .ref 75), (1, .int v)], [.int (I 82 (v).toNatClampNeg)], (sh, I, L, R))) (M := mr_189) rfl (show mcode 189 18 = some (18, .goto 4, 3, 22, 0, 0, _) from rfl) (Or.inr (Or.inl ⟨22, [.int (I 82 (v).toNatClampNeg)], rfl, rfl⟩)) ?_
      refine XW.ret (r := some (.int (I 82 (v).toNatClampNeg))) ⟨⟨.int, rfl, rfl⟩, by decide +kernel⟩ ?_
      exact ⟨rfl, Or.inl ⟨by show 0 ≤ v.toInt ∧ v.toInt < (I 75 11).toInt; omega, rfl⟩⟩
theorem tc_vygC {d : Nat} {sh : List mE} {R : Nat → Nat → Option Nat} {w : mW} {v : Int32} (hw : wOK (mkT vV []) (wE sh R) w) : Tc 188 (d + 1) 0 0 [.ref 0, .int v] w (Qvg 75 11 82 v w) := by
  obtain ⟨sh0, I, L, R0⟩ := w
  obtain rfl : sh = sh0 := hw.2.2.2.1.symm
  obtain rfl : R = R0 := hw.2.2.2.2.1.symm
  have c0 : sh[0]? = some (.inr 0) := hw.1 0 _ rfl
  have c75 : sh[75]? = some (.inr 9) := hw.1 75 _ rfl
  have r0_8 : R 0 8 = some 75 := hw.2.1 0 8 _ rfl
  refine Tc.of mr_188 rfl (show 2 ≤ mr_188.2.2.2.1 by decide) ?_
  refine XW.fam (S' := (1, [(0, .ref 0), (1, .int v)], [.ref 0], (sh, I, L, R))) (M := mr_188) rfl (show mcode 188 0 = some (0, .aload_n 0, 1, 0, 0, 0, _) from rfl) (Or.inl ⟨.ref 0, rfl, rfl⟩) ?_
  refine XW.fam (S' := (4, [(0, .ref 0), (1, .int v)], [.ref 75], (sh, I, L, R))) (M := mr_188) rfl (show mcode 188 1 = some (1, .getfield 78, 3, 0, 8, 0, _) from rfl) (Or.inr (Or.inr (Or.inr (Or.inr (Or.inr (Or.inr (Or.inr (Or.inl ⟨_, _, rfl, fl_ld c0 r0_8 (by decide) (by decide), rfl⟩)))))))) ?_
  refine XW.fam (S' := (5, [(0, .ref 0), (1, .int v)], [.int v, .ref 75], (sh, I, L, R))) (M := mr_188) rfl (show mcode 188 4 = some (4, .iload_n 1, 1, 0, 0, 0, _) from rfl) (Or.inl ⟨.int v, rfl, rfl⟩) ?_
  refine XW.call (d' := d) (mc' := 0) (ms' := 0) (av := [.ref 75, .int v]) (rest := []) (M := mr_188) (Ma := mr_189) rfl (show mcode 188 5 = some (5, .invokevirtual 297, 3, 189, 0, 0, _) from rfl) rfl (by decide) (by decide) ⟨rfl, 75, _, rfl, c75⟩ rfl rfl (show 0 ≤ 8 by decide) (tc_choice (d := d) hw) (by omega) (Nat.zero_le _) (Nat.zero_le _) (fun rQ1 wQ1 Q1 => ?_)
  obtain ⟨yQ1, eyQ1⟩ := Qvg_int Q1
  subst eyQ1
  refine XW.ret (r := some (.int yQ1)) ⟨⟨.int, rfl, rfl⟩, by decide +kernel⟩ ?_
  exact Q1
theorem tc_vygM {d : Nat} {sh : List mE} {R : Nat → Nat → Option Nat} {w : mW} {v : Int32} (hw : wOK (mkT vV []) (wE sh R) w) : Tc 337 (d + 1) 0 0 [.ref 94, .int v] w (Qvg 94 89 155 v w) := by
  obtain ⟨sh0, I, L, R0⟩ := w
  obtain rfl : sh = sh0 := hw.2.2.2.1.symm
  obtain rfl : R = R0 := hw.2.2.2.2.1.symm
  have c94 : sh[94]? = some (.inr 12) := hw.1 94 _ rfl
  have c155 : sh[155]? = some (.inl (.int, 12)) := hw.1 155 _ rfl
  have r94_88 : R 94 88 = some 155 := hw.2.1 94 88 _ rfl
  have zm1 : ((-1) : Int32).toInt = (-1) := rfl
  have z0 : (0 : Int32).toInt = 0 := rfl
  have z1 : (1 : Int32).toInt = 1 := rfl
  have h89 : -1 ≤ (I 94 89).toInt ∧ (I 94 89).toInt ≤ 11 := hw.2.2.1 94 89
  have x1 : (I 94 89 - 1).toInt = (I 94 89).toInt - (1 : Int32).toInt := difS (by omega) (by decide)
  have y1 : (1 : Int32).toInt = 1 := rfl
  refine Tc.of mr_337 rfl (show 2 ≤ mr_337.2.2.2.1 by decide) ?_
  refine XW.fam (S' := (1, [(0, .ref 94), (1, .int v)], [.int v], (sh, I, L, R))) (M := mr_337) rfl (show mcode 337 0 = some (0, .iload_n 1, 1, 0, 0, 0, _) from rfl) (Or.inl ⟨.int v, rfl, rfl⟩) ?_
  refine XW.fam (S' := (2, [(0, .ref 94), (1, .int v)], [.int 0, .int v], (sh, I, L, R))) (M := mr_337) rfl (show mcode 337 1 = some (1, .iconst 0, 1, 0, 0, 0, _) from rfl) (Or.inl ⟨.int 0, rfl, rfl⟩) ?_
  refine XW.fam (S' := (3, [(0, .ref 94), (1, .int v)], [.ref 94, .int 0, .int v], (sh, I, L, R))) (M := mr_337) rfl (show mcode 337 2 = some (2, .aload_n 0, 1, 0, 0, 0, _) from rfl) (Or.inl ⟨.ref 94, rfl, rfl⟩) ?_
  refine XW.fam (S' := (6, [(0, .ref 94), (1, .int v)], [.int (I 94 89), .int 0, .int v], (sh, I, L, R))) (M := mr_337) rfl (show mcode 337 3 = some (3, .getfield 202, 3, 12, 89, 0, _) from rfl) (Or.inr (Or.inr (Or.inr (Or.inr (Or.inr (Or.inr (Or.inr (Or.inl ⟨_, _, rfl, fl_ldI c94 (by decide) (by decide), rfl⟩)))))))) ?_
  refine XW.fam (S' := (7, [(0, .ref 94), (1, .int v)], [.int 1, .int (I 94 89), .int 0, .int v], (sh, I, L, R))) (M := mr_337) rfl (show mcode 337 6 = some (6, .iconst 1, 1, 0, 0, 0, _) from rfl) (Or.inl ⟨.int 1, rfl, rfl⟩) ?_
  refine XW.fam (S' := (8, [(0, .ref 94), (1, .int v)], [.int ((I 94 89) - 1), .int 0, .int v], (sh, I, L, R))) (M := mr_337) rfl (show mcode 337 7 = some (7, .isub, 1, 0, 0, 0, _) from rfl) (Or.inr (Or.inr (Or.inr (Or.inr (Or.inr (Or.inl ⟨_, rfl, rfl⟩)))))) ?_
  refine XW.call (d' := d) (mc' := 0) (ms' := 0) (av := [.int v, .int 0, .int ((I 94 89) - 1)]) (rest := []) (M := mr_337) (Ma := mr_236) rfl (show mcode 337 8 = some (8, .invokestatic 254, 3, 236, 0, 0, _) from rfl) rfl (by decide) (by decide) rfl rfl rfl (show 0 ≤ 8 by decide) (tc_inM) (by omega) (Nat.zero_le _) (Nat.zero_le _) (fun rQ1 wQ1 Q1 => ?_)
  obtain ⟨hQ1, rfl⟩ := Q1
  rcases hQ1 with ⟨rfl, gQ1⟩ | ⟨rfl, gQ1⟩
  · skip
    refine XW.fam (S' := (23, [(0, .ref 94), (1, .int v)], [], (sh, I, L, R))) (M := mr_337) rfl (show mcode 337 11 = some (11, .ifCond .eq 12, 3, 23, 0, 0, _) from rfl) (Or.inr (Or.inl ⟨23, [], rfl, rfl⟩)) ?_
    refine XW.fam (S' := (24, [(0, .ref 94), (1, .int v)], [.int (-1)], (sh, I, L, R))) (M := mr_337) rfl (show mcode 337 23 = some (23, .iconst (-1), 1, 0, 0, 0, _) from rfl) (Or.inl ⟨.int (-1), rfl, rfl⟩) ?_
    refine XW.ret (r := some (.int (-1))) ⟨⟨.int, rfl, rfl⟩, by decide +kernel⟩ ?_
    exact ⟨rfl, Or.inr ⟨fun q => by have q1 : 0 ≤ v.toInt ∧ v.toInt < (I 94 89).toInt := q; omega, rfl⟩⟩
  · skip
    refine XW.fam (S' := (14, [(0, .ref 94), (1, .int v)], [], (sh, I, L, R))) (M := mr_337) rfl (show mcode 337 11 = some (11, .ifCond .eq 12, 3, 23, 0, 0, _) from rfl) (Or.inr (Or.inl ⟨14, [], rfl, rfl⟩)) ?_
    refine XW.fam (S' := (15, [(0, .ref 94), (1, .int v)], [.ref 94], (sh, I, L, R))) (M := mr_337) rfl (show mcode 337 14 = some (14, .aload_n 0, 1, 0, 0, 0, _) from rfl) (Or.inl ⟨.ref 94, rfl, rfl⟩) ?_
    refine XW.fam (S' := (18, [(0, .ref 94), (1, .int v)], [.ref 155], (sh, I, L, R))) (M := mr_337) rfl (show mcode 337 15 = some (15, .getfield 199, 3, 12, 88, 0, _) from rfl) (Or.inr (Or.inr (Or.inr (Or.inr (Or.inr (Or.inr (Or.inr (Or.inl ⟨_, _, rfl, fl_ld c94 r94_88 (by decide) (by decide), rfl⟩)))))))) ?_
    refine XW.fam (S' := (19, [(0, .ref 94), (1, .int v)], [.int v, .ref 155], (sh, I, L, R))) (M := mr_337) rfl (show mcode 337 18 = some (18, .iload_n 1, 1, 0, 0, 0, _) from rfl) (Or.inl ⟨.int v, rfl, rfl⟩) ?_
    have hin2 : inR v 12 = true := inR_of (by omega) (by omega)
    refine XW.fam (S' := (20, [(0, .ref 94), (1, .int v)], [.int (I 155 (v).toNatClampNeg)], (sh, I, L, R))) (M := mr_337) rfl (show mcode 337 19 = some (19, .iaload, 1, 0, 0, 0, _) from rfl) (Or.inr (Or.inr (Or.inl ⟨_, lda_i c155 hin2, rfl⟩))) ?_
    refine XW.fam (S' := (24, [(0, .ref 94), (1, .int v)], [.int (I 155 (v).toNatClampNeg)], (sh, I, L, R))) (M := mr_337) rfl (show mcode 337 20 = some (20, .goto 4, 3, 24, 0, 0, _) from rfl) (Or.inr (Or.inl ⟨24, [.int (I 155 (v).toNatClampNeg)], rfl, rfl⟩)) ?_
    refine XW.ret (r := some (.int (I 155 (v).toNatClampNeg))) ⟨⟨.int, rfl, rfl⟩, by decide +kernel⟩ ?_
    exact ⟨rfl, Or.inl ⟨by show 0 ≤ v.toInt ∧ v.toInt < (I 94 89).toInt; omega, rfl⟩⟩
theorem RLv_first {w : mW} (h1 : (w.2.1 75 2).toInt = 0) (h2 : (w.2.1 75 3).toInt = 0) (h3 : (w.2.1 53 3).toInt = 0) : RLv w := ⟨fun k hk => by exfalso; omega, fun s hs => by exfalso; omega, fun p hp => by exfalso; omega⟩
theorem RLw_first {w : mW} (h1 : (w.2.1 75 11).toInt.toNat = 0) (h2 : (w.2.1 94 89).toInt.toNat = 0) : RLw w := by
  have e : ∀ q, rwL w.2.1 q 0 = [] := fun _ => rfl
  unfold RLw
  rw [h1, h2, e, e]
theorem voy_like {dv : Int32} {w w1 w2 : mW} {r1 r2 : Option Value} (hns : w.2.1 75 2 = w.2.1 94 79) (hrs : ∀ k, w.2.1 76 k = w.2.1 148 k) (hnp : w.2.1 75 3 = w.2.1 94 81) (h55 : ∀ k, w.2.1 55 k = w.2.1 135 k) (h56 : ∀ k, w.2.1 56 k = w.2.1 136 k) (h78 : ∀ k, w.2.1 78 k = w.2.1 150 k) (h1 : Qvy 75 2 75 3 75 11 82 mdVyC (EvC w dv) (LvC w dv) dv w r1 w1) (h2 : Qvy 94 79 94 81 94 89 155 mdVyM (EvM w1 dv) (LvM w1 dv) dv w1 r2 w2) : r1 = r2 ∧ w2.2.1 75 2 = w2.2.1 94 79 ∧ w2.2.1 75 3 = w2.2.1 94 81 ∧ (RLv w → RLv w2) ∧ (RLw w → RLw w2) := by
  have k1 := h1.2.2.1
  have k2 := h2.2.2.1
  have m79 : w1.2.1 94 79 = w.2.1 75 2 := (k1 94 79 rfl).trans hns.symm
  have m81 : w1.2.1 94 81 = w.2.1 75 3 := (k1 94 81 rfl).trans hnp.symm
  have eB : vRow w1.2.1 135 148 = vRow w.2.1 55 76 := by
    funext k
    unfold vRow
    rw [k1 148 k rfl, ← hrs, k1 135 _ rfl, ← h55]
  have eP : vRow w1.2.1 136 148 = vRow w.2.1 56 76 := by
    funext k
    unfold vRow
    rw [k1 148 k rfl, ← hrs, k1 136 _ rfl, ← h56]
  have eX : x00 w1.2.1 150 = x00 w.2.1 78 := Prod.ext (funext fun p => by show (w1.2.1 150 p).toInt = (w.2.1 78 p).toInt; rw [k1 150 p rfl, h78]) rfl
  have eE : EvM w1 dv = EvC w dv := by
    unfold EvM EvC
    rw [m79, m81, eB, eP, eX]
  have eL : LvM w1 dv = LvC w dv := by
    unfold LvM LvC
    rw [m79, m81, eB, eP, eX]
  have c2 : w2.2.1 75 2 = w1.2.1 75 2 := k2 75 2 rfl
  have c3 : w2.2.1 75 3 = w1.2.1 75 3 := k2 75 3 rfl
  have c53 : w2.2.1 53 3 = w.2.1 53 3 := (k2 53 3 rfl).trans (k1 53 3 rfl)
  have c76 : ∀ k, w2.2.1 76 k = w.2.1 76 k := fun k => (k2 76 k rfl).trans (k1 76 k rfl)
  have c55 : ∀ k, w2.2.1 55 k = w.2.1 55 k := fun k => (k2 55 k rfl).trans (k1 55 k rfl)
  have c56 : ∀ k, w2.2.1 56 k = w.2.1 56 k := fun k => (k2 56 k rfl).trans (k1 56 k rfl)
  have c78 : ∀ k, w2.2.1 78 k = w.2.1 78 k := fun k => (k2 78 k rfl).trans (k1 78 k rfl)
  have same : w1.2.1 = w.2.1 → w2.2.1 = w1.2.1 → w2.2.1 75 2 = w2.2.1 94 79 ∧ w2.2.1 75 3 = w2.2.1 94 81 ∧ (RLv w → RLv w2) ∧ (RLw w → RLw w2) := by
    intro f1 f2
    have f : w2.2.1 = w.2.1 := f2.trans f1
    refine ⟨by rw [f]; exact hns, by rw [f]; exact hnp, fun h => ?_, fun h => ?_⟩
    · unfold RLv at h ⊢
      rw [f]
      exact h
    · unfold RLw at h ⊢
      rw [f]
      exact h
  rcases h1.2.2.2 with ⟨a1, e1, f1⟩ | ⟨a1, b1, e1, f1⟩ | ⟨a1, b1, ⟨y1, e1, g1⟩, p1, q1, l1⟩
  · rcases h2.2.2.2 with ⟨a2, e2, f2⟩ | ⟨a2, b2, e2, f2⟩ | ⟨a2, b2, ⟨y2, e2, g2⟩, p2, q2, l2⟩
    · exact ⟨e1.trans e2.symm, same f1 f2⟩
    · exact absurd a2 a1
    · exact absurd a2 a1
  · rcases h2.2.2.2 with ⟨a2, e2, f2⟩ | ⟨a2, b2, e2, f2⟩ | ⟨a2, b2, ⟨y2, e2, g2⟩, p2, q2, l2⟩
    · exact absurd a1 a2
    · exact ⟨e1.trans e2.symm, same f1 f2⟩
    · rw [m79, m81] at b2
      exact absurd b1 b2
  · rcases h2.2.2.2 with ⟨a2, e2, f2⟩ | ⟨a2, b2, e2, f2⟩ | ⟨a2, b2, ⟨y2, e2, g2⟩, p2, q2, l2⟩
    · exact absurd a1 a2
    · rw [m79, m81] at b2
      exact absurd b2 b1
    · have ey : y1 = y2 := Int32.toInt_inj.mp (by rw [g1, g2, eE])
      refine ⟨by rw [e1, e2, ey], by rw [c2, p1, p2], by rw [c3, q1, q2], fun h => ?_, fun _ => ?_⟩
      · have z0 : (0 : Int32).toInt = 0 := rfl
        refine ⟨fun k hk => ?_, fun s hs => ?_, fun p hp => ?_⟩
        · rw [c2, p1] at hk
          exfalso
          omega
        · rw [c53] at hs
          rw [c55, c56]
          exact h.2.1 s hs
        · rw [c3, q1] at hp
          exfalso
          omega
      · unfold RLw
        rw [l2, eL, k2 75 11 rfl, rwL_congr (I := w2.2.1) (J := w1.2.1) (q := 82) (q' := 82) (fun k _ => k2 82 k rfl)]
        exact l1
theorem vyg_like {v : Int32} {w w1 w2 : mW} {r1 r2 : Option Value} (hR : RLw w) (hb : 0 ≤ (w.2.1 75 11).toInt) (h1 : Qvg 75 11 82 v w r1 w1) (h2 : Qvg 94 89 155 v w1 r2 w2) : r1 = r2 := by
  obtain ⟨g, f⟩ := rwL_eq hR
  rw [h1.1] at h2
  rcases h1.2 with ⟨a1, e1⟩ | ⟨a1, e1⟩
  · rcases h2.2 with ⟨a2, e2⟩ | ⟨a2, e2⟩
    · rw [e1, e2, f v.toNatClampNeg (by show v.toInt.toNat < _; omega)]
    · exfalso
      omega
  · rcases h2.2 with ⟨a2, e2⟩ | ⟨a2, e2⟩
    · exfalso
      omega
    · rw [e1, e2]
